theorem d_Mo_of_133 : decode b_Mo_of 133 = .ok (.iload_n 3, 1) := by decide +kernel
theorem d_Mo_of_134 : decode b_Mo_of 134 = .ok (.ifCond .eq 14, 3) := by decide +kernel
theorem d_Mo_of_137 : decode b_Mo_of 137 = .ok (.aload_n 0, 1) := by decide +kernel
theorem d_Mo_of_138 : decode b_Mo_of 138 = .ok (.getfield 47, 3) := by decide +kernel
theorem d_Mo_of_141 : decode b_Mo_of 141 = .ok (.iload_n 1, 1) := by decide +kernel
theorem d_Mo_of_142 : decode b_Mo_of 142 = .ok (.iaload, 1) := by decide +kernel
theorem d_Mo_of_143 : decode b_Mo_of 143 = .ok (.iconst 3, 1) := by decide +kernel
theorem d_Mo_of_144 : decode b_Mo_of 144 = .ok (.idiv, 1) := by decide +kernel
theorem d_Mo_of_145 : decode b_Mo_of 145 = .ok (.goto 4, 3) := by decide +kernel
theorem d_Mo_of_148 : decode b_Mo_of 148 = .ok (.iconst (-1), 1) := by decide +kernel
theorem d_Mo_of_149 : decode b_Mo_of 149 = .ok (.ireturn, 1) := by decide +kernel
theorem d_Mo_of_150 : decode b_Mo_of 150 = .ok (.iload_n 3, 1) := by decide +kernel
theorem d_Mo_of_151 : decode b_Mo_of 151 = .ok (.ifCond .eq 14, 3) := by decide +kernel
theorem d_Mo_of_154 : decode b_Mo_of 154 = .ok (.aload_n 0, 1) := by decide +kernel
theorem d_Mo_of_155 : decode b_Mo_of 155 = .ok (.getfield 47, 3) := by decide +kernel
theorem d_Mo_of_158 : decode b_Mo_of 158 = .ok (.iload_n 1, 1) := by decide +kernel
theorem d_Mo_of_159 : decode b_Mo_of 159 = .ok (.iaload, 1) := by decide +kernel
theorem d_Mo_of_160 : decode b_Mo_of 160 = .ok (.iconst 3, 1) := by decide +kernel
theorem d_Mo_of_161 : decode b_Mo_of 161 = .ok (.irem, 1) := by decide +kernel
theorem d_Mo_of_162 : decode b_Mo_of 162 = .ok (.goto 4, 3) := by decide +kernel
theorem d_Mo_of_165 : decode b_Mo_of 165 = .ok (.iconst (-1), 1) := by decide +kernel
theorem d_Mo_of_166 : decode b_Mo_of 166 = .ok (.ireturn, 1) := by decide +kernel
theorem d_Mo_of_167 : decode b_Mo_of 167 = .ok (.aload_n 0, 1) := by decide +kernel
theorem d_Mo_of_168 : decode b_Mo_of 168 = .ok (.getfield 63, 3) := by decide +kernel
theorem d_Mo_of_171 : decode b_Mo_of 171 = .ok (.iload_n 1, 1) := by decide +kernel
theorem d_Mo_of_172 : decode b_Mo_of 172 = .ok (.iaload, 1) := by decide +kernel
theorem d_Mo_of_173 : decode b_Mo_of 173 = .ok (.aload_n 0, 1) := by decide +kernel
theorem d_Mo_of_174 : decode b_Mo_of 174 = .ok (.getfield 38, 3) := by decide +kernel
theorem d_Mo_of_177 : decode b_Mo_of 177 = .ok (.iload_n 1, 1) := by decide +kernel
theorem d_Mo_of_178 : decode b_Mo_of 178 = .ok (.iaload, 1) := by decide +kernel
theorem d_Mo_of_179 : decode b_Mo_of 179 = .ok (.isub, 1) := by decide +kernel
theorem d_Mo_of_180 : decode b_Mo_of 180 = .ok (.ireturn, 1) := by decide +kernel
theorem d_Mo_of_181 : decode b_Mo_of 181 = .ok (.aload_n 0, 1) := by decide +kernel
theorem d_Mo_of_182 : decode b_Mo_of 182 = .ok (.iload_n 1, 1) := by decide +kernel
theorem d_Mo_of_183 : decode b_Mo_of 183 = .ok (.iconst 0, 1) := by decide +kernel
theorem d_Mo_of_184 : decode b_Mo_of 184 = .ok (.invokevirtual 122, 3) := by decide +kernel
theorem d_Mo_of_187 : decode b_Mo_of 187 = .ok (.ireturn, 1) := by decide +kernel
theorem d_Mo_open_0 : decode b_Mo_open 0 = .ok (.iload_n 2, 1) := by decide +kernel
theorem d_Mo_open_1 : decode b_Mo_open 1 = .ok (.istore_n 3, 1) := by decide +kernel
theorem d_Mo_open_2 : decode b_Mo_open 2 = .ok (.iconst 0, 1) := by decide +kernel
theorem d_Mo_open_3 : decode b_Mo_open 3 = .ok (.istore 4, 2) := by decide +kernel
theorem d_Mo_open_5 : decode b_Mo_open 5 = .ok (.iload 4, 2) := by decide +kernel
theorem d_Mo_open_7 : decode b_Mo_open 7 = .ok (.bipush 9, 2) := by decide +kernel
theorem d_Mo_open_9 : decode b_Mo_open 9 = .ok (.if_icmp .ge 79, 3) := by decide +kernel
theorem d_Mo_open_12 : decode b_Mo_open 12 = .ok (.iconst 0, 1) := by decide +kernel
theorem d_Mo_open_13 : decode b_Mo_open 13 = .ok (.istore 5, 2) := by decide +kernel
theorem d_Mo_open_15 : decode b_Mo_open 15 = .ok (.iload 5, 2) := by decide +kernel
theorem d_Mo_open_17 : decode b_Mo_open 17 = .ok (.aload_n 0, 1) := by decide +kernel
theorem d_Mo_open_18 : decode b_Mo_open 18 = .ok (.getfield 90, 3) := by decide +kernel
theorem d_Mo_open_21 : decode b_Mo_open 21 = .ok (.if_icmp .ge 61, 3) := by decide +kernel
theorem d_Mo_open_24 : decode b_Mo_open 24 = .ok (.aload_n 0, 1) := by decide +kernel
theorem d_Mo_open_25 : decode b_Mo_open 25 = .ok (.getfield 23, 3) := by decide +kernel
theorem d_Mo_open_28 : decode b_Mo_open 28 = .ok (.iload 5, 2) := by decide +kernel
theorem d_Mo_open_30 : decode b_Mo_open 30 = .ok (.iaload, 1) := by decide +kernel
theorem d_Mo_open_31 : decode b_Mo_open 31 = .ok (.iload_n 1, 1) := by decide +kernel
theorem d_Mo_open_32 : decode b_Mo_open 32 = .ok (.if_icmp .ne 42, 3) := by decide +kernel
theorem d_Mo_open_35 : decode b_Mo_open 35 = .ok (.iload_n 3, 1) := by decide +kernel
theorem d_Mo_open_36 : decode b_Mo_open 36 = .ok (.aload_n 0, 1) := by decide +kernel
theorem d_Mo_open_37 : decode b_Mo_open 37 = .ok (.getfield 29, 3) := by decide +kernel
theorem d_Mo_open_40 : decode b_Mo_open 40 = .ok (.iload 5, 2) := by decide +kernel
theorem d_Mo_open_42 : decode b_Mo_open 42 = .ok (.iaload, 1) := by decide +kernel
theorem d_Mo_open_43 : decode b_Mo_open 43 = .ok (.if_icmp .ge 31, 3) := by decide +kernel
theorem d_Mo_open_46 : decode b_Mo_open 46 = .ok (.iload_n 3, 1) := by decide +kernel
theorem d_Mo_open_47 : decode b_Mo_open 47 = .ok (.aload_n 0, 1) := by decide +kernel
theorem d_Mo_open_48 : decode b_Mo_open 48 = .ok (.getfield 20, 3) := by decide +kernel
theorem d_Mo_open_51 : decode b_Mo_open 51 = .ok (.iload_n 1, 1) := by decide +kernel
theorem d_Mo_open_52 : decode b_Mo_open 52 = .ok (.iaload, 1) := by decide +kernel
theorem d_Mo_open_53 : decode b_Mo_open 53 = .ok (.iadd, 1) := by decide +kernel
theorem d_Mo_open_54 : decode b_Mo_open 54 = .ok (.aload_n 0, 1) := by decide +kernel
theorem d_Mo_open_55 : decode b_Mo_open 55 = .ok (.getfield 26, 3) := by decide +kernel
theorem d_Mo_open_58 : decode b_Mo_open 58 = .ok (.iload 5, 2) := by decide +kernel
theorem d_Mo_open_60 : decode b_Mo_open 60 = .ok (.iaload, 1) := by decide +kernel
theorem d_Mo_open_61 : decode b_Mo_open 61 = .ok (.if_icmp .le 13, 3) := by decide +kernel
theorem d_Mo_open_64 : decode b_Mo_open 64 = .ok (.aload_n 0, 1) := by decide +kernel
theorem d_Mo_open_65 : decode b_Mo_open 65 = .ok (.getfield 29, 3) := by decide +kernel
theorem d_Mo_open_68 : decode b_Mo_open 68 = .ok (.iload 5, 2) := by decide +kernel
theorem d_Mo_open_70 : decode b_Mo_open 70 = .ok (.iaload, 1) := by decide +kernel
theorem d_Mo_open_71 : decode b_Mo_open 71 = .ok (.goto 4, 3) := by decide +kernel
theorem d_Mo_open_74 : decode b_Mo_open 74 = .ok (.iload_n 3, 1) := by decide +kernel
theorem d_Mo_open_75 : decode b_Mo_open 75 = .ok (.istore_n 3, 1) := by decide +kernel
theorem d_Mo_open_76 : decode b_Mo_open 76 = .ok (.iinc 5 1, 3) := by decide +kernel
theorem d_Mo_open_79 : decode b_Mo_open 79 = .ok (.goto (-64), 3) := by decide +kernel
theorem d_Mo_open_82 : decode b_Mo_open 82 = .ok (.iinc 4 1, 3) := by decide +kernel
theorem d_Mo_open_85 : decode b_Mo_open 85 = .ok (.goto (-80), 3) := by decide +kernel
theorem d_Mo_open_88 : decode b_Mo_open 88 = .ok (.iload_n 3, 1) := by decide +kernel
theorem d_Mo_open_89 : decode b_Mo_open 89 = .ok (.ireturn, 1) := by decide +kernel
theorem d_Mo_overtaken_0 : decode b_Mo_overtaken 0 = .ok (.iconst 0, 1) := by decide +kernel
theorem d_Mo_overtaken_1 : decode b_Mo_overtaken 1 = .ok (.istore_n 3, 1) := by decide +kernel
theorem d_Mo_overtaken_2 : decode b_Mo_overtaken 2 = .ok (.iconst 0, 1) := by decide +kernel
theorem d_Mo_overtaken_3 : decode b_Mo_overtaken 3 = .ok (.istore 4, 2) := by decide +kernel
theorem d_Mo_overtaken_5 : decode b_Mo_overtaken 5 = .ok (.iload 4, 2) := by decide +kernel
theorem d_Mo_overtaken_7 : decode b_Mo_overtaken 7 = .ok (.aload_n 0, 1) := by decide +kernel
theorem d_Mo_overtaken_8 : decode b_Mo_overtaken 8 = .ok (.getfield 75, 3) := by decide +kernel
theorem d_Mo_overtaken_11 : decode b_Mo_overtaken 11 = .ok (.if_icmp .ge 139, 3) := by decide +kernel
theorem d_Mo_overtaken_14 : decode b_Mo_overtaken 14 = .ok (.aload_n 0, 1) := by decide +kernel
theorem d_Mo_overtaken_15 : decode b_Mo_overtaken 15 = .ok (.getfield 38, 3) := by decide +kernel
theorem d_Mo_overtaken_18 : decode b_Mo_overtaken 18 = .ok (.iload 4, 2) := by decide +kernel
theorem d_Mo_overtaken_20 : decode b_Mo_overtaken 20 = .ok (.iaload, 1) := by decide +kernel
theorem d_Mo_overtaken_21 : decode b_Mo_overtaken 21 = .ok (.aload_n 0, 1) := by decide +kernel
theorem d_Mo_overtaken_22 : decode b_Mo_overtaken 22 = .ok (.getfield 38, 3) := by decide +kernel
theorem d_Mo_overtaken_25 : decode b_Mo_overtaken 25 = .ok (.iload_n 1, 1) := by decide +kernel
theorem d_Mo_overtaken_26 : decode b_Mo_overtaken 26 = .ok (.iaload, 1) := by decide +kernel
theorem d_Mo_overtaken_27 : decode b_Mo_overtaken 27 = .ok (.if_icmp .gt 25, 3) := by decide +kernel
theorem d_Mo_overtaken_30 : decode b_Mo_overtaken 30 = .ok (.aload_n 0, 1) := by decide +kernel
theorem d_Mo_overtaken_31 : decode b_Mo_overtaken 31 = .ok (.getfield 38, 3) := by decide +kernel
theorem d_Mo_overtaken_34 : decode b_Mo_overtaken 34 = .ok (.iload 4, 2) := by decide +kernel
theorem d_Mo_overtaken_36 : decode b_Mo_overtaken 36 = .ok (.iaload, 1) := by decide +kernel
theorem d_Mo_overtaken_37 : decode b_Mo_overtaken 37 = .ok (.aload_n 0, 1) := by decide +kernel
theorem d_Mo_overtaken_38 : decode b_Mo_overtaken 38 = .ok (.getfield 38, 3) := by decide +kernel
theorem d_Mo_overtaken_41 : decode b_Mo_overtaken 41 = .ok (.iload_n 1, 1) := by decide +kernel
theorem d_Mo_overtaken_42 : decode b_Mo_overtaken 42 = .ok (.iaload, 1) := by decide +kernel
theorem d_Mo_overtaken_43 : decode b_Mo_overtaken 43 = .ok (.if_icmp .ne 13, 3) := by decide +kernel
theorem d_Mo_overtaken_46 : decode b_Mo_overtaken 46 = .ok (.iload 4, 2) := by decide +kernel
theorem d_Mo_overtaken_48 : decode b_Mo_overtaken 48 = .ok (.iload_n 1, 1) := by decide +kernel
theorem d_Mo_overtaken_49 : decode b_Mo_overtaken 49 = .ok (.if_icmp .le 7, 3) := by decide +kernel
theorem d_Mo_overtaken_52 : decode b_Mo_overtaken 52 = .ok (.iconst 1, 1) := by decide +kernel
theorem d_Mo_overtaken_53 : decode b_Mo_overtaken 53 = .ok (.goto 4, 3) := by decide +kernel
theorem d_Mo_overtaken_56 : decode b_Mo_overtaken 56 = .ok (.iconst 0, 1) := by decide +kernel
theorem d_Mo_overtaken_57 : decode b_Mo_overtaken 57 = .ok (.istore 5, 2) := by decide +kernel
theorem d_Mo_overtaken_59 : decode b_Mo_overtaken 59 = .ok (.iload_n 2, 1) := by decide +kernel
theorem d_Mo_overtaken_60 : decode b_Mo_overtaken 60 = .ok (.ifCond .eq 27, 3) := by decide +kernel
theorem d_Mo_overtaken_63 : decode b_Mo_overtaken 63 = .ok (.aload_n 0, 1) := by decide +kernel
theorem d_Mo_overtaken_64 : decode b_Mo_overtaken 64 = .ok (.getfield 57, 3) := by decide +kernel
theorem d_Mo_overtaken_67 : decode b_Mo_overtaken 67 = .ok (.iload 4, 2) := by decide +kernel
theorem d_Mo_overtaken_69 : decode b_Mo_overtaken 69 = .ok (.iaload, 1) := by decide +kernel
theorem d_Mo_overtaken_70 : decode b_Mo_overtaken 70 = .ok (.aload_n 0, 1) := by decide +kernel
theorem d_Mo_overtaken_71 : decode b_Mo_overtaken 71 = .ok (.getfield 57, 3) := by decide +kernel
theorem d_Mo_overtaken_74 : decode b_Mo_overtaken 74 = .ok (.iload_n 1, 1) := by decide +kernel
theorem d_Mo_overtaken_75 : decode b_Mo_overtaken 75 = .ok (.iaload, 1) := by decide +kernel
theorem d_Mo_overtaken_76 : decode b_Mo_overtaken 76 = .ok (.if_icmp .ge 7, 3) := by decide +kernel
theorem d_Mo_overtaken_79 : decode b_Mo_overtaken 79 = .ok (.iconst 1, 1) := by decide +kernel
theorem d_Mo_overtaken_80 : decode b_Mo_overtaken 80 = .ok (.goto 28, 3) := by decide +kernel
theorem d_Mo_overtaken_83 : decode b_Mo_overtaken 83 = .ok (.iconst 0, 1) := by decide +kernel
theorem d_Mo_overtaken_84 : decode b_Mo_overtaken 84 = .ok (.goto 24, 3) := by decide +kernel
theorem d_Mo_overtaken_87 : decode b_Mo_overtaken 87 = .ok (.aload_n 0, 1) := by decide +kernel
theorem d_Mo_overtaken_88 : decode b_Mo_overtaken 88 = .ok (.getfield 63, 3) := by decide +kernel
theorem d_Mo_overtaken_91 : decode b_Mo_overtaken 91 = .ok (.iload 4, 2) := by decide +kernel
theorem d_Mo_overtaken_93 : decode b_Mo_overtaken 93 = .ok (.iaload, 1) := by decide +kernel
theorem d_Mo_overtaken_94 : decode b_Mo_overtaken 94 = .ok (.aload_n 0, 1) := by decide +kernel
theorem d_Mo_overtaken_95 : decode b_Mo_overtaken 95 = .ok (.getfield 63, 3) := by decide +kernel
theorem d_Mo_overtaken_98 : decode b_Mo_overtaken 98 = .ok (.iload_n 1, 1) := by decide +kernel
theorem d_Mo_overtaken_99 : decode b_Mo_overtaken 99 = .ok (.iaload, 1) := by decide +kernel
theorem d_Mo_overtaken_100 : decode b_Mo_overtaken 100 = .ok (.if_icmp .ge 7, 3) := by decide +kernel
theorem d_Mo_overtaken_103 : decode b_Mo_overtaken 103 = .ok (.iconst 1, 1) := by decide +kernel
theorem d_Mo_overtaken_104 : decode b_Mo_overtaken 104 = .ok (.goto 4, 3) := by decide +kernel
theorem d_Mo_overtaken_107 : decode b_Mo_overtaken 107 = .ok (.iconst 0, 1) := by decide +kernel
theorem d_Mo_overtaken_108 : decode b_Mo_overtaken 108 = .ok (.istore 6, 2) := by decide +kernel
theorem d_Mo_overtaken_110 : decode b_Mo_overtaken 110 = .ok (.iload_n 3, 1) := by decide +kernel
theorem d_Mo_overtaken_111 : decode b_Mo_overtaken 111 = .ok (.aload_n 0, 1) := by decide +kernel
theorem d_Mo_overtaken_112 : decode b_Mo_overtaken 112 = .ok (.getfield 41, 3) := by decide +kernel
theorem d_Mo_overtaken_115 : decode b_Mo_overtaken 115 = .ok (.iload 4, 2) := by decide +kernel
theorem d_Mo_overtaken_117 : decode b_Mo_overtaken 117 = .ok (.iaload, 1) := by decide +kernel
theorem d_Mo_overtaken_118 : decode b_Mo_overtaken 118 = .ok (.aload_n 0, 1) := by decide +kernel
theorem d_Mo_overtaken_119 : decode b_Mo_overtaken 119 = .ok (.getfield 41, 3) := by decide +kernel
theorem d_Mo_overtaken_122 : decode b_Mo_overtaken 122 = .ok (.iload_n 1, 1) := by decide +kernel
theorem d_Mo_overtaken_123 : decode b_Mo_overtaken 123 = .ok (.iaload, 1) := by decide +kernel
theorem d_Mo_overtaken_124 : decode b_Mo_overtaken 124 = .ok (.if_icmp .ne 17, 3) := by decide +kernel
theorem d_Mo_overtaken_127 : decode b_Mo_overtaken 127 = .ok (.iload 5, 2) := by decide +kernel
theorem d_Mo_overtaken_129 : decode b_Mo_overtaken 129 = .ok (.ifCond .eq 12, 3) := by decide +kernel
theorem d_Mo_overtaken_132 : decode b_Mo_overtaken 132 = .ok (.iload 6, 2) := by decide +kernel
theorem d_Mo_overtaken_134 : decode b_Mo_overtaken 134 = .ok (.ifCond .eq 7, 3) := by decide +kernel
theorem d_Mo_overtaken_137 : decode b_Mo_overtaken 137 = .ok (.iconst 1, 1) := by decide +kernel
theorem d_Mo_overtaken_138 : decode b_Mo_overtaken 138 = .ok (.goto 4, 3) := by decide +kernel
theorem d_Mo_overtaken_141 : decode b_Mo_overtaken 141 = .ok (.iconst 0, 1) := by decide +kernel
theorem d_Mo_overtaken_142 : decode b_Mo_overtaken 142 = .ok (.iadd, 1) := by decide +kernel
theorem d_Mo_overtaken_143 : decode b_Mo_overtaken 143 = .ok (.istore_n 3, 1) := by decide +kernel
theorem d_Mo_overtaken_144 : decode b_Mo_overtaken 144 = .ok (.iinc 4 1, 3) := by decide +kernel
theorem d_Mo_overtaken_147 : decode b_Mo_overtaken 147 = .ok (.goto (-142), 3) := by decide +kernel
theorem d_Mo_overtaken_150 : decode b_Mo_overtaken 150 = .ok (.iload_n 3, 1) := by decide +kernel
theorem d_Mo_overtaken_151 : decode b_Mo_overtaken 151 = .ok (.ireturn, 1) := by decide +kernel
theorem d_Mo_plan_0 : decode b_Mo_plan 0 = .ok (.aload_n 0, 1) := by decide +kernel
theorem d_Mo_plan_1 : decode b_Mo_plan 1 = .ok (.iconst 0, 1) := by decide +kernel
theorem d_Mo_plan_2 : decode b_Mo_plan 2 = .ok (.putfield 69, 3) := by decide +kernel
theorem d_Mo_plan_5 : decode b_Mo_plan 5 = .ok (.aload_n 0, 1) := by decide +kernel
theorem d_Mo_plan_6 : decode b_Mo_plan 6 = .ok (.invokevirtual 134, 3) := by decide +kernel
theorem d_Mo_plan_9 : decode b_Mo_plan 9 = .ok (.istore_n 1, 1) := by decide +kernel
theorem d_Mo_plan_10 : decode b_Mo_plan 10 = .ok (.aload_n 0, 1) := by decide +kernel
theorem d_Mo_plan_11 : decode b_Mo_plan 11 = .ok (.iload_n 1, 1) := by decide +kernel
theorem d_Mo_plan_12 : decode b_Mo_plan 12 = .ok (.ifCond .lt 7, 3) := by decide +kernel
theorem d_Mo_plan_15 : decode b_Mo_plan 15 = .ok (.iconst 1, 1) := by decide +kernel
theorem d_Mo_plan_16 : decode b_Mo_plan 16 = .ok (.goto 4, 3) := by decide +kernel
theorem d_Mo_plan_19 : decode b_Mo_plan 19 = .ok (.iconst 0, 1) := by decide +kernel
theorem d_Mo_plan_20 : decode b_Mo_plan 20 = .ok (.putfield 82, 3) := by decide +kernel
theorem d_Mo_plan_23 : decode b_Mo_plan 23 = .ok (.iload_n 1, 1) := by decide +kernel
theorem d_Mo_plan_24 : decode b_Mo_plan 24 = .ok (.ireturn, 1) := by decide +kernel
theorem d_Mo_rate_0 : decode b_Mo_rate 0 = .ok (.aload_n 0, 1) := by decide +kernel
theorem d_Mo_rate_1 : decode b_Mo_rate 1 = .ok (.iload_n 1, 1) := by decide +kernel
theorem d_Mo_rate_2 : decode b_Mo_rate 2 = .ok (.iconst 0, 1) := by decide +kernel
theorem d_Mo_rate_3 : decode b_Mo_rate 3 = .ok (.sipush 1000, 3) := by decide +kernel
theorem d_Mo_rate_6 : decode b_Mo_rate 6 = .ok (.invokestatic 78, 3) := by decide +kernel
theorem d_Mo_rate_9 : decode b_Mo_rate 9 = .ok (.ifCond .eq 14, 3) := by decide +kernel
theorem d_Mo_rate_12 : decode b_Mo_rate 12 = .ok (.iload_n 2, 1) := by decide +kernel
theorem d_Mo_rate_13 : decode b_Mo_rate 13 = .ok (.iconst 0, 1) := by decide +kernel
theorem d_Mo_rate_14 : decode b_Mo_rate 14 = .ok (.sipush 1000, 3) := by decide +kernel
theorem d_Mo_rate_17 : decode b_Mo_rate 17 = .ok (.invokestatic 78, 3) := by decide +kernel
theorem d_Mo_rate_20 : decode b_Mo_rate 20 = .ok (.ifCond .ne 7, 3) := by decide +kernel
theorem d_Mo_rate_23 : decode b_Mo_rate 23 = .ok (.iconst 1, 1) := by decide +kernel
theorem d_Mo_rate_24 : decode b_Mo_rate 24 = .ok (.goto 12, 3) := by decide +kernel
theorem d_Mo_rate_27 : decode b_Mo_rate 27 = .ok (.iload_n 2, 1) := by decide +kernel
theorem d_Mo_rate_28 : decode b_Mo_rate 28 = .ok (.ifCond .ne 7, 3) := by decide +kernel
theorem d_Mo_rate_31 : decode b_Mo_rate 31 = .ok (.iconst 2, 1) := by decide +kernel
theorem d_Mo_rate_32 : decode b_Mo_rate 32 = .ok (.goto 4, 3) := by decide +kernel
theorem d_Mo_rate_35 : decode b_Mo_rate 35 = .ok (.iconst 0, 1) := by decide +kernel
theorem d_Mo_rate_36 : decode b_Mo_rate 36 = .ok (.putfield 69, 3) := by decide +kernel
theorem d_Mo_rate_39 : decode b_Mo_rate 39 = .ok (.aload_n 0, 1) := by decide +kernel
theorem d_Mo_rate_40 : decode b_Mo_rate 40 = .ok (.getfield 69, 3) := by decide +kernel
theorem d_Mo_rate_43 : decode b_Mo_rate 43 = .ok (.ifCond .le 7, 3) := by decide +kernel
theorem d_Mo_rate_46 : decode b_Mo_rate 46 = .ok (.iconst 0, 1) := by decide +kernel
theorem d_Mo_rate_47 : decode b_Mo_rate 47 = .ok (.goto 9, 3) := by decide +kernel
theorem d_Mo_rate_50 : decode b_Mo_rate 50 = .ok (.bipush 60, 2) := by decide +kernel
theorem d_Mo_rate_52 : decode b_Mo_rate 52 = .ok (.iload_n 1, 1) := by decide +kernel
theorem d_Mo_rate_53 : decode b_Mo_rate 53 = .ok (.imul, 1) := by decide +kernel
theorem d_Mo_rate_54 : decode b_Mo_rate 54 = .ok (.iload_n 2, 1) := by decide +kernel
theorem d_Mo_rate_55 : decode b_Mo_rate 55 = .ok (.idiv, 1) := by decide +kernel
theorem d_Mo_rate_56 : decode b_Mo_rate 56 = .ok (.ireturn, 1) := by decide +kernel
theorem d_Mo_rule_0 : decode b_Mo_rule 0 = .ok (.aload_n 0, 1) := by decide +kernel
theorem d_Mo_rule_1 : decode b_Mo_rule 1 = .ok (.iconst 0, 1) := by decide +kernel
theorem d_Mo_rule_2 : decode b_Mo_rule 2 = .ok (.putfield 69, 3) := by decide +kernel
theorem d_Mo_rule_5 : decode b_Mo_rule 5 = .ok (.iload_n 1, 1) := by decide +kernel
theorem d_Mo_rule_6 : decode b_Mo_rule 6 = .ok (.iconst 0, 1) := by decide +kernel
theorem d_Mo_rule_7 : decode b_Mo_rule 7 = .ok (.iconst 3, 1) := by decide +kernel
theorem d_Mo_rule_8 : decode b_Mo_rule 8 = .ok (.invokestatic 78, 3) := by decide +kernel
theorem d_Mo_rule_11 : decode b_Mo_rule 11 = .ok (.ifCond .eq 12, 3) := by decide +kernel
theorem d_Mo_rule_14 : decode b_Mo_rule 14 = .ok (.iload_n 2, 1) := by decide +kernel
theorem d_Mo_rule_15 : decode b_Mo_rule 15 = .ok (.iconst 0, 1) := by decide +kernel
theorem d_Mo_rule_16 : decode b_Mo_rule 16 = .ok (.iconst 3, 1) := by decide +kernel
theorem d_Mo_rule_17 : decode b_Mo_rule 17 = .ok (.invokestatic 78, 3) := by decide +kernel
theorem d_Mo_rule_20 : decode b_Mo_rule 20 = .ok (.ifCond .ne 5, 3) := by decide +kernel
theorem d_Mo_rule_23 : decode b_Mo_rule 23 = .ok (.iconst 0, 1) := by decide +kernel
theorem d_Mo_rule_24 : decode b_Mo_rule 24 = .ok (.ireturn, 1) := by decide +kernel
theorem d_Mo_rule_25 : decode b_Mo_rule 25 = .ok (.aload_n 0, 1) := by decide +kernel
theorem d_Mo_rule_26 : decode b_Mo_rule 26 = .ok (.iload_n 1, 1) := by decide +kernel
theorem d_Mo_rule_27 : decode b_Mo_rule 27 = .ok (.putfield 93, 3) := by decide +kernel
theorem d_Mo_rule_30 : decode b_Mo_rule 30 = .ok (.aload_n 0, 1) := by decide +kernel
theorem d_Mo_rule_31 : decode b_Mo_rule 31 = .ok (.iload_n 2, 1) := by decide +kernel
theorem d_Mo_rule_32 : decode b_Mo_rule 32 = .ok (.putfield 7, 3) := by decide +kernel
theorem d_Mo_rule_35 : decode b_Mo_rule 35 = .ok (.aload_n 0, 1) := by decide +kernel
theorem d_Mo_rule_36 : decode b_Mo_rule 36 = .ok (.iconst 0, 1) := by decide +kernel
theorem d_Mo_rule_37 : decode b_Mo_rule 37 = .ok (.putfield 82, 3) := by decide +kernel
theorem d_Mo_rule_40 : decode b_Mo_rule 40 = .ok (.iconst 1, 1) := by decide +kernel
theorem d_Mo_rule_41 : decode b_Mo_rule 41 = .ok (.ireturn, 1) := by decide +kernel
theorem d_Mo_run_0 : decode b_Mo_run 0 = .ok (.aload_n 0, 1) := by decide +kernel
theorem d_Mo_run_1 : decode b_Mo_run 1 = .ok (.aload_n 0, 1) := by decide +kernel
theorem d_Mo_run_2 : decode b_Mo_run 2 = .ok (.iload_n 1, 1) := by decide +kernel
theorem d_Mo_run_3 : decode b_Mo_run 3 = .ok (.invokevirtual 86, 3) := by decide +kernel
theorem d_Mo_run_6 : decode b_Mo_run 6 = .ok (.ifCond .eq 12, 3) := by decide +kernel
theorem d_Mo_run_9 : decode b_Mo_run 9 = .ok (.iload_n 3, 1) := by decide +kernel
theorem d_Mo_run_10 : decode b_Mo_run 10 = .ok (.iconst 0, 1) := by decide +kernel
theorem d_Mo_run_11 : decode b_Mo_run 11 = .ok (.iconst 2, 1) := by decide +kernel
theorem d_Mo_run_12 : decode b_Mo_run 12 = .ok (.invokestatic 78, 3) := by decide +kernel
theorem d_Mo_run_15 : decode b_Mo_run 15 = .ok (.ifCond .ne 7, 3) := by decide +kernel
theorem d_Mo_run_18 : decode b_Mo_run 18 = .ok (.iconst 1, 1) := by decide +kernel
theorem d_Mo_run_19 : decode b_Mo_run 19 = .ok (.goto 15, 3) := by decide +kernel
theorem d_Mo_run_22 : decode b_Mo_run 22 = .ok (.aload_n 0, 1) := by decide +kernel
theorem d_Mo_run_23 : decode b_Mo_run 23 = .ok (.getfield 82, 3) := by decide +kernel
theorem d_Mo_run_26 : decode b_Mo_run 26 = .ok (.ifCond .eq 7, 3) := by decide +kernel
theorem d_Mo_run_29 : decode b_Mo_run 29 = .ok (.iconst 0, 1) := by decide +kernel
theorem d_Mo_run_30 : decode b_Mo_run 30 = .ok (.goto 4, 3) := by decide +kernel
theorem d_Mo_run_33 : decode b_Mo_run 33 = .ok (.iconst 2, 1) := by decide +kernel
theorem d_Mo_run_34 : decode b_Mo_run 34 = .ok (.putfield 69, 3) := by decide +kernel
theorem d_Mo_run_37 : decode b_Mo_run 37 = .ok (.aload_n 0, 1) := by decide +kernel
theorem d_Mo_run_38 : decode b_Mo_run 38 = .ok (.getfield 69, 3) := by decide +kernel
theorem d_Mo_run_41 : decode b_Mo_run 41 = .ok (.ifCond .le 5, 3) := by decide +kernel
theorem d_Mo_run_44 : decode b_Mo_run 44 = .ok (.iconst 0, 1) := by decide +kernel
theorem d_Mo_run_45 : decode b_Mo_run 45 = .ok (.ireturn, 1) := by decide +kernel
theorem d_Mo_run_46 : decode b_Mo_run 46 = .ok (.iload_n 2, 1) := by decide +kernel
theorem d_Mo_run_47 : decode b_Mo_run 47 = .ok (.iconst 0, 1) := by decide +kernel
theorem d_Mo_run_48 : decode b_Mo_run 48 = .ok (.iconst 3, 1) := by decide +kernel
theorem d_Mo_run_49 : decode b_Mo_run 49 = .ok (.invokestatic 78, 3) := by decide +kernel
theorem d_Mo_run_52 : decode b_Mo_run 52 = .ok (.ifCond .eq 15, 3) := by decide +kernel
theorem d_Mo_run_55 : decode b_Mo_run 55 = .ok (.aload_n 0, 1) := by decide +kernel
theorem d_Mo_run_56 : decode b_Mo_run 56 = .ok (.iconst 4, 1) := by decide +kernel
theorem d_Mo_run_57 : decode b_Mo_run 57 = .ok (.iload_n 1, 1) := by decide +kernel
theorem d_Mo_run_58 : decode b_Mo_run 58 = .ok (.imul, 1) := by decide +kernel
theorem d_Mo_run_59 : decode b_Mo_run 59 = .ok (.iload_n 2, 1) := by decide +kernel
theorem d_Mo_run_60 : decode b_Mo_run 60 = .ok (.iadd, 1) := by decide +kernel
theorem d_Mo_run_61 : decode b_Mo_run 61 = .ok (.invokevirtual 140, 3) := by decide +kernel
theorem d_Mo_run_64 : decode b_Mo_run 64 = .ok (.goto 4, 3) := by decide +kernel
theorem d_Mo_run_67 : decode b_Mo_run 67 = .ok (.iconst 0, 1) := by decide +kernel
theorem d_Mo_run_68 : decode b_Mo_run 68 = .ok (.istore 4, 2) := by decide +kernel
theorem d_Mo_run_70 : decode b_Mo_run 70 = .ok (.iload 4, 2) := by decide +kernel
theorem d_Mo_run_72 : decode b_Mo_run 72 = .ok (.ifCond .ne 5, 3) := by decide +kernel
theorem d_Mo_run_75 : decode b_Mo_run 75 = .ok (.iconst (-1), 1) := by decide +kernel
theorem d_Mo_run_76 : decode b_Mo_run 76 = .ok (.ireturn, 1) := by decide +kernel
theorem d_Mo_run_77 : decode b_Mo_run 77 = .ok (.iload_n 3, 1) := by decide +kernel
theorem d_Mo_run_78 : decode b_Mo_run 78 = .ok (.ifCond .ne 16, 3) := by decide +kernel
theorem d_Mo_run_81 : decode b_Mo_run 81 = .ok (.aload_n 0, 1) := by decide +kernel
theorem d_Mo_run_82 : decode b_Mo_run 82 = .ok (.getfield 63, 3) := by decide +kernel
theorem d_Mo_run_85 : decode b_Mo_run 85 = .ok (.iload 4, 2) := by decide +kernel
theorem d_Mo_run_87 : decode b_Mo_run 87 = .ok (.invokestatic 104, 3) := by decide +kernel
theorem d_Mo_run_90 : decode b_Mo_run 90 = .ok (.iaload, 1) := by decide +kernel
theorem d_Mo_run_91 : decode b_Mo_run 91 = .ok (.goto 23, 3) := by decide +kernel
theorem d_Mo_run_94 : decode b_Mo_run 94 = .ok (.iload_n 3, 1) := by decide +kernel
theorem d_Mo_run_95 : decode b_Mo_run 95 = .ok (.iconst 1, 1) := by decide +kernel
theorem d_Mo_run_96 : decode b_Mo_run 96 = .ok (.if_icmp .ne 16, 3) := by decide +kernel
theorem d_Mo_run_99 : decode b_Mo_run 99 = .ok (.aload_n 0, 1) := by decide +kernel
theorem d_Mo_run_100 : decode b_Mo_run 100 = .ok (.getfield 41, 3) := by decide +kernel
theorem d_Mo_run_103 : decode b_Mo_run 103 = .ok (.iload 4, 2) := by decide +kernel
theorem d_Mo_run_105 : decode b_Mo_run 105 = .ok (.invokestatic 104, 3) := by decide +kernel
theorem d_Mo_run_108 : decode b_Mo_run 108 = .ok (.iaload, 1) := by decide +kernel
theorem d_Mo_run_109 : decode b_Mo_run 109 = .ok (.goto 5, 3) := by decide +kernel
theorem d_Mo_run_112 : decode b_Mo_run 112 = .ok (.iload 4, 2) := by decide +kernel
theorem d_Mo_run_114 : decode b_Mo_run 114 = .ok (.ireturn, 1) := by decide +kernel
theorem d_Mo_search_0 : decode b_Mo_search 0 = .ok (.iconst 0, 1) := by decide +kernel
theorem d_Mo_search_1 : decode b_Mo_search 1 = .ok (.istore_n 1, 1) := by decide +kernel
theorem d_Mo_search_2 : decode b_Mo_search 2 = .ok (.iload_n 1, 1) := by decide +kernel
theorem d_Mo_search_3 : decode b_Mo_search 3 = .ok (.bipush 32, 2) := by decide +kernel
theorem d_Mo_search_5 : decode b_Mo_search 5 = .ok (.if_icmp .ge 59, 3) := by decide +kernel
theorem d_Mo_search_8 : decode b_Mo_search 8 = .ok (.aload_n 0, 1) := by decide +kernel
theorem d_Mo_search_9 : decode b_Mo_search 9 = .ok (.getfield 50, 3) := by decide +kernel
theorem d_Mo_search_12 : decode b_Mo_search 12 = .ok (.iload_n 1, 1) := by decide +kernel
theorem d_Mo_search_13 : decode b_Mo_search 13 = .ok (.iload_n 1, 1) := by decide +kernel
theorem d_Mo_search_14 : decode b_Mo_search 14 = .ok (.bipush 16, 2) := by decide +kernel
theorem d_Mo_search_16 : decode b_Mo_search 16 = .ok (.idiv, 1) := by decide +kernel
theorem d_Mo_search_17 : decode b_Mo_search 17 = .ok (.aload_n 0, 1) := by decide +kernel
theorem d_Mo_search_18 : decode b_Mo_search 18 = .ok (.getfield 72, 3) := by decide +kernel
theorem d_Mo_search_21 : decode b_Mo_search 21 = .ok (.if_icmp .ge 35, 3) := by decide +kernel
theorem d_Mo_search_24 : decode b_Mo_search 24 = .ok (.iload_n 1, 1) := by decide +kernel
theorem d_Mo_search_25 : decode b_Mo_search 25 = .ok (.bipush 16, 2) := by decide +kernel
theorem d_Mo_search_27 : decode b_Mo_search 27 = .ok (.irem, 1) := by decide +kernel
theorem d_Mo_search_28 : decode b_Mo_search 28 = .ok (.iconst 1, 1) := by decide +kernel
theorem d_Mo_search_29 : decode b_Mo_search 29 = .ok (.aload_n 0, 1) := by decide +kernel
theorem d_Mo_search_30 : decode b_Mo_search 30 = .ok (.getfield 75, 3) := by decide +kernel
theorem d_Mo_search_33 : decode b_Mo_search 33 = .ok (.ishl, 1) := by decide +kernel
theorem d_Mo_search_34 : decode b_Mo_search 34 = .ok (.if_icmp .ge 22, 3) := by decide +kernel
theorem d_Mo_search_37 : decode b_Mo_search 37 = .ok (.aload_n 0, 1) := by decide +kernel
theorem d_Mo_search_38 : decode b_Mo_search 38 = .ok (.iload_n 1, 1) := by decide +kernel
theorem d_Mo_search_39 : decode b_Mo_search 39 = .ok (.bipush 16, 2) := by decide +kernel
theorem d_Mo_search_41 : decode b_Mo_search 41 = .ok (.idiv, 1) := by decide +kernel
theorem d_Mo_search_42 : decode b_Mo_search 42 = .ok (.iload_n 1, 1) := by decide +kernel
theorem d_Mo_search_43 : decode b_Mo_search 43 = .ok (.bipush 16, 2) := by decide +kernel
theorem d_Mo_search_45 : decode b_Mo_search 45 = .ok (.irem, 1) := by decide +kernel
theorem d_Mo_search_46 : decode b_Mo_search 46 = .ok (.invokevirtual 100, 3) := by decide +kernel
theorem d_Mo_search_49 : decode b_Mo_search 49 = .ok (.ifCond .eq 7, 3) := by decide +kernel
theorem d_Mo_search_52 : decode b_Mo_search 52 = .ok (.iconst 1, 1) := by decide +kernel
theorem d_Mo_search_53 : decode b_Mo_search 53 = .ok (.goto 4, 3) := by decide +kernel
theorem d_Mo_search_56 : decode b_Mo_search 56 = .ok (.iconst 0, 1) := by decide +kernel
theorem d_Mo_search_57 : decode b_Mo_search 57 = .ok (.bastore, 1) := by decide +kernel
theorem d_Mo_search_58 : decode b_Mo_search 58 = .ok (.iinc 1 1, 3) := by decide +kernel
theorem d_Mo_search_61 : decode b_Mo_search 61 = .ok (.goto (-59), 3) := by decide +kernel
theorem d_Mo_search_64 : decode b_Mo_search 64 = .ok (.ldc 121, 2) := by decide +kernel
theorem d_Mo_search_66 : decode b_Mo_search 66 = .ok (.istore_n 1, 1) := by decide +kernel
theorem d_Mo_search_67 : decode b_Mo_search 67 = .ok (.iconst 1, 1) := by decide +kernel
theorem d_Mo_search_68 : decode b_Mo_search 68 = .ok (.istore_n 2, 1) := by decide +kernel
theorem d_Mo_search_69 : decode b_Mo_search 69 = .ok (.iconst 0, 1) := by decide +kernel
theorem d_Mo_search_70 : decode b_Mo_search 70 = .ok (.istore_n 3, 1) := by decide +kernel
theorem d_Mo_search_71 : decode b_Mo_search 71 = .ok (.iload_n 3, 1) := by decide +kernel
theorem d_Mo_search_72 : decode b_Mo_search 72 = .ok (.aload_n 0, 1) := by decide +kernel
theorem d_Mo_search_73 : decode b_Mo_search 73 = .ok (.getfield 75, 3) := by decide +kernel
theorem d_Mo_search_76 : decode b_Mo_search 76 = .ok (.if_icmp .ge 18, 3) := by decide +kernel
theorem d_Mo_search_79 : decode b_Mo_search 79 = .ok (.iload_n 2, 1) := by decide +kernel
theorem d_Mo_search_80 : decode b_Mo_search 80 = .ok (.iconst 4, 1) := by decide +kernel
theorem d_Mo_search_81 : decode b_Mo_search 81 = .ok (.aload_n 0, 1) := by decide +kernel
theorem d_Mo_search_82 : decode b_Mo_search 82 = .ok (.getfield 72, 3) := by decide +kernel
theorem d_Mo_search_85 : decode b_Mo_search 85 = .ok (.imul, 1) := by decide +kernel
theorem d_Mo_search_86 : decode b_Mo_search 86 = .ok (.imul, 1) := by decide +kernel
theorem d_Mo_search_87 : decode b_Mo_search 87 = .ok (.istore_n 2, 1) := by decide +kernel
theorem d_Mo_search_88 : decode b_Mo_search 88 = .ok (.iinc 3 1, 3) := by decide +kernel
theorem d_Mo_search_91 : decode b_Mo_search 91 = .ok (.goto (-20), 3) := by decide +kernel
theorem d_Mo_search_94 : decode b_Mo_search 94 = .ok (.iconst 0, 1) := by decide +kernel
theorem d_Mo_search_95 : decode b_Mo_search 95 = .ok (.istore_n 3, 1) := by decide +kernel
theorem d_Mo_search_96 : decode b_Mo_search 96 = .ok (.iload_n 3, 1) := by decide +kernel
theorem d_Mo_search_97 : decode b_Mo_search 97 = .ok (.iload_n 2, 1) := by decide +kernel
theorem d_Mo_search_98 : decode b_Mo_search 98 = .ok (.if_icmp .ge 142, 3) := by decide +kernel
theorem d_Mo_search_101 : decode b_Mo_search 101 = .ok (.iload_n 3, 1) := by decide +kernel
theorem d_Mo_search_102 : decode b_Mo_search 102 = .ok (.istore 4, 2) := by decide +kernel
theorem d_Mo_search_104 : decode b_Mo_search 104 = .ok (.aload_n 0, 1) := by decide +kernel
theorem d_Mo_search_105 : decode b_Mo_search 105 = .ok (.getfield 75, 3) := by decide +kernel
theorem d_Mo_search_108 : decode b_Mo_search 108 = .ok (.iconst 1, 1) := by decide +kernel
theorem d_Mo_search_109 : decode b_Mo_search 109 = .ok (.isub, 1) := by decide +kernel
theorem d_Mo_search_110 : decode b_Mo_search 110 = .ok (.istore 5, 2) := by decide +kernel
theorem d_Mo_search_112 : decode b_Mo_search 112 = .ok (.iload 5, 2) := by decide +kernel
theorem d_Mo_search_114 : decode b_Mo_search 114 = .ok (.ifCond .lt 36, 3) := by decide +kernel
theorem d_Mo_search_117 : decode b_Mo_search 117 = .ok (.aload_n 0, 1) := by decide +kernel
theorem d_Mo_search_118 : decode b_Mo_search 118 = .ok (.getfield 54, 3) := by decide +kernel
theorem d_Mo_search_121 : decode b_Mo_search 121 = .ok (.iload 5, 2) := by decide +kernel
theorem d_Mo_search_123 : decode b_Mo_search 123 = .ok (.iload 4, 2) := by decide +kernel
theorem d_Mo_search_125 : decode b_Mo_search 125 = .ok (.iconst 4, 1) := by decide +kernel
theorem d_Mo_search_126 : decode b_Mo_search 126 = .ok (.aload_n 0, 1) := by decide +kernel
theorem d_Mo_search_127 : decode b_Mo_search 127 = .ok (.getfield 72, 3) := by decide +kernel
theorem d_Mo_search_130 : decode b_Mo_search 130 = .ok (.imul, 1) := by decide +kernel
theorem d_Mo_search_131 : decode b_Mo_search 131 = .ok (.irem, 1) := by decide +kernel
theorem d_Mo_search_132 : decode b_Mo_search 132 = .ok (.iastore, 1) := by decide +kernel
theorem d_Mo_search_133 : decode b_Mo_search 133 = .ok (.iload 4, 2) := by decide +kernel
theorem d_Mo_search_135 : decode b_Mo_search 135 = .ok (.iconst 4, 1) := by decide +kernel
theorem d_Mo_search_136 : decode b_Mo_search 136 = .ok (.aload_n 0, 1) := by decide +kernel
theorem d_Mo_search_137 : decode b_Mo_search 137 = .ok (.getfield 72, 3) := by decide +kernel
theorem d_Mo_search_140 : decode b_Mo_search 140 = .ok (.imul, 1) := by decide +kernel
theorem d_Mo_search_141 : decode b_Mo_search 141 = .ok (.idiv, 1) := by decide +kernel
theorem d_Mo_search_142 : decode b_Mo_search 142 = .ok (.istore 4, 2) := by decide +kernel
theorem d_Mo_search_144 : decode b_Mo_search 144 = .ok (.iinc 5 (-1), 3) := by decide +kernel
theorem d_Mo_search_147 : decode b_Mo_search 147 = .ok (.goto (-35), 3) := by decide +kernel
theorem d_Mo_search_150 : decode b_Mo_search 150 = .ok (.aload_n 0, 1) := by decide +kernel
theorem d_Mo_search_151 : decode b_Mo_search 151 = .ok (.invokevirtual 126, 3) := by decide +kernel
theorem d_Mo_search_154 : decode b_Mo_search 154 = .ok (.istore 5, 2) := by decide +kernel
theorem d_Mo_search_156 : decode b_Mo_search 156 = .ok (.iload 5, 2) := by decide +kernel
theorem d_Mo_search_158 : decode b_Mo_search 158 = .ok (.iload_n 1, 1) := by decide +kernel
theorem d_Mo_search_159 : decode b_Mo_search 159 = .ok (.if_icmp .gt 75, 3) := by decide +kernel
theorem d_Mo_search_162 : decode b_Mo_search 162 = .ok (.iload 5, 2) := by decide +kernel
theorem d_Mo_search_164 : decode b_Mo_search 164 = .ok (.ldc 121, 2) := by decide +kernel
