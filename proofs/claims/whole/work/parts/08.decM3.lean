theorem d_Mo_search_166 : decode b_Mo_search 166 = .ok (.if_icmp .eq 68, 3) := by decide +kernel
theorem d_Mo_search_169 : decode b_Mo_search 169 = .ok (.iload 5, 2) := by decide +kernel
theorem d_Mo_search_171 : decode b_Mo_search 171 = .ok (.iload_n 1, 1) := by decide +kernel
theorem d_Mo_search_172 : decode b_Mo_search 172 = .ok (.if_icmp .ne 13, 3) := by decide +kernel
theorem d_Mo_search_175 : decode b_Mo_search 175 = .ok (.aload_n 0, 1) := by decide +kernel
theorem d_Mo_search_176 : decode b_Mo_search 176 = .ok (.invokevirtual 130, 3) := by decide +kernel
theorem d_Mo_search_179 : decode b_Mo_search 179 = .ok (.ifCond .ne 6, 3) := by decide +kernel
theorem d_Mo_search_182 : decode b_Mo_search 182 = .ok (.goto 52, 3) := by decide +kernel
theorem d_Mo_search_185 : decode b_Mo_search 185 = .ok (.iload 5, 2) := by decide +kernel
theorem d_Mo_search_187 : decode b_Mo_search 187 = .ok (.istore_n 1, 1) := by decide +kernel
theorem d_Mo_search_188 : decode b_Mo_search 188 = .ok (.iconst 0, 1) := by decide +kernel
theorem d_Mo_search_189 : decode b_Mo_search 189 = .ok (.istore 6, 2) := by decide +kernel
theorem d_Mo_search_191 : decode b_Mo_search 191 = .ok (.iload 6, 2) := by decide +kernel
theorem d_Mo_search_193 : decode b_Mo_search 193 = .ok (.aload_n 0, 1) := by decide +kernel
theorem d_Mo_search_194 : decode b_Mo_search 194 = .ok (.getfield 75, 3) := by decide +kernel
theorem d_Mo_search_197 : decode b_Mo_search 197 = .ok (.if_icmp .ge 37, 3) := by decide +kernel
theorem d_Mo_search_200 : decode b_Mo_search 200 = .ok (.aload_n 0, 1) := by decide +kernel
theorem d_Mo_search_201 : decode b_Mo_search 201 = .ok (.getfield 60, 3) := by decide +kernel
theorem d_Mo_search_204 : decode b_Mo_search 204 = .ok (.iload 6, 2) := by decide +kernel
theorem d_Mo_search_206 : decode b_Mo_search 206 = .ok (.aload_n 0, 1) := by decide +kernel
theorem d_Mo_search_207 : decode b_Mo_search 207 = .ok (.getfield 54, 3) := by decide +kernel
theorem d_Mo_search_210 : decode b_Mo_search 210 = .ok (.iload 6, 2) := by decide +kernel
theorem d_Mo_search_212 : decode b_Mo_search 212 = .ok (.iaload, 1) := by decide +kernel
theorem d_Mo_search_213 : decode b_Mo_search 213 = .ok (.iastore, 1) := by decide +kernel
theorem d_Mo_search_214 : decode b_Mo_search 214 = .ok (.aload_n 0, 1) := by decide +kernel
theorem d_Mo_search_215 : decode b_Mo_search 215 = .ok (.getfield 63, 3) := by decide +kernel
theorem d_Mo_search_218 : decode b_Mo_search 218 = .ok (.iload 6, 2) := by decide +kernel
theorem d_Mo_search_220 : decode b_Mo_search 220 = .ok (.aload_n 0, 1) := by decide +kernel
theorem d_Mo_search_221 : decode b_Mo_search 221 = .ok (.getfield 57, 3) := by decide +kernel
theorem d_Mo_search_224 : decode b_Mo_search 224 = .ok (.iload 6, 2) := by decide +kernel
theorem d_Mo_search_226 : decode b_Mo_search 226 = .ok (.iaload, 1) := by decide +kernel
theorem d_Mo_search_227 : decode b_Mo_search 227 = .ok (.iastore, 1) := by decide +kernel
theorem d_Mo_search_228 : decode b_Mo_search 228 = .ok (.iinc 6 1, 3) := by decide +kernel
theorem d_Mo_search_231 : decode b_Mo_search 231 = .ok (.goto (-40), 3) := by decide +kernel
theorem d_Mo_search_234 : decode b_Mo_search 234 = .ok (.iinc 3 1, 3) := by decide +kernel
theorem d_Mo_search_237 : decode b_Mo_search 237 = .ok (.goto (-141), 3) := by decide +kernel
theorem d_Mo_search_240 : decode b_Mo_search 240 = .ok (.iload_n 1, 1) := by decide +kernel
theorem d_Mo_search_241 : decode b_Mo_search 241 = .ok (.ldc 121, 2) := by decide +kernel
theorem d_Mo_search_243 : decode b_Mo_search 243 = .ok (.if_icmp .ne 7, 3) := by decide +kernel
theorem d_Mo_search_246 : decode b_Mo_search 246 = .ok (.iconst (-1), 1) := by decide +kernel
theorem d_Mo_search_247 : decode b_Mo_search 247 = .ok (.goto 4, 3) := by decide +kernel
theorem d_Mo_search_250 : decode b_Mo_search 250 = .ok (.iload_n 1, 1) := by decide +kernel
theorem d_Mo_search_251 : decode b_Mo_search 251 = .ok (.ireturn, 1) := by decide +kernel
theorem d_Mo_setOf_0 : decode b_Mo_setOf 0 = .ok (.iconst 0, 1) := by decide +kernel
theorem d_Mo_setOf_1 : decode b_Mo_setOf 1 = .ok (.istore_n 2, 1) := by decide +kernel
theorem d_Mo_setOf_2 : decode b_Mo_setOf 2 = .ok (.iconst 0, 1) := by decide +kernel
theorem d_Mo_setOf_3 : decode b_Mo_setOf 3 = .ok (.istore_n 3, 1) := by decide +kernel
theorem d_Mo_setOf_4 : decode b_Mo_setOf 4 = .ok (.iload_n 3, 1) := by decide +kernel
theorem d_Mo_setOf_5 : decode b_Mo_setOf 5 = .ok (.aload_n 0, 1) := by decide +kernel
theorem d_Mo_setOf_6 : decode b_Mo_setOf 6 = .ok (.getfield 75, 3) := by decide +kernel
theorem d_Mo_setOf_9 : decode b_Mo_setOf 9 = .ok (.if_icmp .ge 29, 3) := by decide +kernel
theorem d_Mo_setOf_12 : decode b_Mo_setOf 12 = .ok (.iload_n 2, 1) := by decide +kernel
theorem d_Mo_setOf_13 : decode b_Mo_setOf 13 = .ok (.aload_n 0, 1) := by decide +kernel
theorem d_Mo_setOf_14 : decode b_Mo_setOf 14 = .ok (.getfield 54, 3) := by decide +kernel
theorem d_Mo_setOf_17 : decode b_Mo_setOf 17 = .ok (.iload_n 3, 1) := by decide +kernel
theorem d_Mo_setOf_18 : decode b_Mo_setOf 18 = .ok (.iaload, 1) := by decide +kernel
theorem d_Mo_setOf_19 : decode b_Mo_setOf 19 = .ok (.iload_n 1, 1) := by decide +kernel
theorem d_Mo_setOf_20 : decode b_Mo_setOf 20 = .ok (.if_icmp .ne 9, 3) := by decide +kernel
theorem d_Mo_setOf_23 : decode b_Mo_setOf 23 = .ok (.iconst 1, 1) := by decide +kernel
theorem d_Mo_setOf_24 : decode b_Mo_setOf 24 = .ok (.iload_n 3, 1) := by decide +kernel
theorem d_Mo_setOf_25 : decode b_Mo_setOf 25 = .ok (.ishl, 1) := by decide +kernel
theorem d_Mo_setOf_26 : decode b_Mo_setOf 26 = .ok (.goto 4, 3) := by decide +kernel
theorem d_Mo_setOf_29 : decode b_Mo_setOf 29 = .ok (.iconst 0, 1) := by decide +kernel
theorem d_Mo_setOf_30 : decode b_Mo_setOf 30 = .ok (.iadd, 1) := by decide +kernel
theorem d_Mo_setOf_31 : decode b_Mo_setOf 31 = .ok (.istore_n 2, 1) := by decide +kernel
theorem d_Mo_setOf_32 : decode b_Mo_setOf 32 = .ok (.iinc 3 1, 3) := by decide +kernel
theorem d_Mo_setOf_35 : decode b_Mo_setOf 35 = .ok (.goto (-31), 3) := by decide +kernel
theorem d_Mo_setOf_38 : decode b_Mo_setOf 38 = .ok (.iload_n 2, 1) := by decide +kernel
theorem d_Mo_setOf_39 : decode b_Mo_setOf 39 = .ok (.ireturn, 1) := by decide +kernel
theorem d_Mo_ship_0 : decode b_Mo_ship 0 = .ok (.aload_n 0, 1) := by decide +kernel
theorem d_Mo_ship_1 : decode b_Mo_ship 1 = .ok (.iload_n 1, 1) := by decide +kernel
theorem d_Mo_ship_2 : decode b_Mo_ship 2 = .ok (.iconst 1, 1) := by decide +kernel
theorem d_Mo_ship_3 : decode b_Mo_ship 3 = .ok (.bipush 8, 2) := by decide +kernel
theorem d_Mo_ship_5 : decode b_Mo_ship 5 = .ok (.invokestatic 78, 3) := by decide +kernel
theorem d_Mo_ship_8 : decode b_Mo_ship 8 = .ok (.ifCond .eq 43, 3) := by decide +kernel
theorem d_Mo_ship_11 : decode b_Mo_ship 11 = .ok (.iload_n 2, 1) := by decide +kernel
theorem d_Mo_ship_12 : decode b_Mo_ship 12 = .ok (.iconst 1, 1) := by decide +kernel
theorem d_Mo_ship_13 : decode b_Mo_ship 13 = .ok (.iconst 3, 1) := by decide +kernel
theorem d_Mo_ship_14 : decode b_Mo_ship 14 = .ok (.invokestatic 78, 3) := by decide +kernel
theorem d_Mo_ship_17 : decode b_Mo_ship 17 = .ok (.ifCond .eq 34, 3) := by decide +kernel
theorem d_Mo_ship_20 : decode b_Mo_ship 20 = .ok (.iload_n 3, 1) := by decide +kernel
theorem d_Mo_ship_21 : decode b_Mo_ship 21 = .ok (.iconst 0, 1) := by decide +kernel
theorem d_Mo_ship_22 : decode b_Mo_ship 22 = .ok (.sipush 1000, 3) := by decide +kernel
theorem d_Mo_ship_25 : decode b_Mo_ship 25 = .ok (.invokestatic 78, 3) := by decide +kernel
theorem d_Mo_ship_28 : decode b_Mo_ship 28 = .ok (.ifCond .eq 23, 3) := by decide +kernel
theorem d_Mo_ship_31 : decode b_Mo_ship 31 = .ok (.iload 4, 2) := by decide +kernel
theorem d_Mo_ship_33 : decode b_Mo_ship 33 = .ok (.iconst 0, 1) := by decide +kernel
theorem d_Mo_ship_34 : decode b_Mo_ship 34 = .ok (.iconst 1, 1) := by decide +kernel
theorem d_Mo_ship_35 : decode b_Mo_ship 35 = .ok (.invokestatic 78, 3) := by decide +kernel
theorem d_Mo_ship_38 : decode b_Mo_ship 38 = .ok (.ifCond .eq 13, 3) := by decide +kernel
theorem d_Mo_ship_41 : decode b_Mo_ship 41 = .ok (.iload 5, 2) := by decide +kernel
theorem d_Mo_ship_43 : decode b_Mo_ship 43 = .ok (.iconst 0, 1) := by decide +kernel
theorem d_Mo_ship_44 : decode b_Mo_ship 44 = .ok (.iconst 2, 1) := by decide +kernel
theorem d_Mo_ship_45 : decode b_Mo_ship 45 = .ok (.invokestatic 78, 3) := by decide +kernel
theorem d_Mo_ship_48 : decode b_Mo_ship 48 = .ok (.ifCond .ne 7, 3) := by decide +kernel
theorem d_Mo_ship_51 : decode b_Mo_ship 51 = .ok (.iconst 1, 1) := by decide +kernel
theorem d_Mo_ship_52 : decode b_Mo_ship 52 = .ok (.goto 16, 3) := by decide +kernel
theorem d_Mo_ship_55 : decode b_Mo_ship 55 = .ok (.aload_n 0, 1) := by decide +kernel
theorem d_Mo_ship_56 : decode b_Mo_ship 56 = .ok (.getfield 75, 3) := by decide +kernel
theorem d_Mo_ship_59 : decode b_Mo_ship 59 = .ok (.iconst 4, 1) := by decide +kernel
theorem d_Mo_ship_60 : decode b_Mo_ship 60 = .ok (.if_icmp .ne 7, 3) := by decide +kernel
theorem d_Mo_ship_63 : decode b_Mo_ship 63 = .ok (.iconst 2, 1) := by decide +kernel
theorem d_Mo_ship_64 : decode b_Mo_ship 64 = .ok (.goto 4, 3) := by decide +kernel
theorem d_Mo_ship_67 : decode b_Mo_ship 67 = .ok (.iconst 0, 1) := by decide +kernel
theorem d_Mo_ship_68 : decode b_Mo_ship 68 = .ok (.putfield 69, 3) := by decide +kernel
theorem d_Mo_ship_71 : decode b_Mo_ship 71 = .ok (.aload_n 0, 1) := by decide +kernel
theorem d_Mo_ship_72 : decode b_Mo_ship 72 = .ok (.getfield 69, 3) := by decide +kernel
theorem d_Mo_ship_75 : decode b_Mo_ship 75 = .ok (.ifCond .le 5, 3) := by decide +kernel
theorem d_Mo_ship_78 : decode b_Mo_ship 78 = .ok (.iconst 0, 1) := by decide +kernel
theorem d_Mo_ship_79 : decode b_Mo_ship 79 = .ok (.ireturn, 1) := by decide +kernel
theorem d_Mo_ship_80 : decode b_Mo_ship 80 = .ok (.aload_n 0, 1) := by decide +kernel
theorem d_Mo_ship_81 : decode b_Mo_ship 81 = .ok (.getfield 32, 3) := by decide +kernel
theorem d_Mo_ship_84 : decode b_Mo_ship 84 = .ok (.aload_n 0, 1) := by decide +kernel
theorem d_Mo_ship_85 : decode b_Mo_ship 85 = .ok (.getfield 75, 3) := by decide +kernel
theorem d_Mo_ship_88 : decode b_Mo_ship 88 = .ok (.iload_n 1, 1) := by decide +kernel
theorem d_Mo_ship_89 : decode b_Mo_ship 89 = .ok (.iastore, 1) := by decide +kernel
theorem d_Mo_ship_90 : decode b_Mo_ship 90 = .ok (.aload_n 0, 1) := by decide +kernel
theorem d_Mo_ship_91 : decode b_Mo_ship 91 = .ok (.getfield 35, 3) := by decide +kernel
theorem d_Mo_ship_94 : decode b_Mo_ship 94 = .ok (.aload_n 0, 1) := by decide +kernel
theorem d_Mo_ship_95 : decode b_Mo_ship 95 = .ok (.getfield 75, 3) := by decide +kernel
theorem d_Mo_ship_98 : decode b_Mo_ship 98 = .ok (.iload_n 2, 1) := by decide +kernel
theorem d_Mo_ship_99 : decode b_Mo_ship 99 = .ok (.iastore, 1) := by decide +kernel
theorem d_Mo_ship_100 : decode b_Mo_ship 100 = .ok (.aload_n 0, 1) := by decide +kernel
theorem d_Mo_ship_101 : decode b_Mo_ship 101 = .ok (.getfield 38, 3) := by decide +kernel
theorem d_Mo_ship_104 : decode b_Mo_ship 104 = .ok (.aload_n 0, 1) := by decide +kernel
theorem d_Mo_ship_105 : decode b_Mo_ship 105 = .ok (.getfield 75, 3) := by decide +kernel
theorem d_Mo_ship_108 : decode b_Mo_ship 108 = .ok (.iload_n 3, 1) := by decide +kernel
theorem d_Mo_ship_109 : decode b_Mo_ship 109 = .ok (.iastore, 1) := by decide +kernel
theorem d_Mo_ship_110 : decode b_Mo_ship 110 = .ok (.aload_n 0, 1) := by decide +kernel
theorem d_Mo_ship_111 : decode b_Mo_ship 111 = .ok (.getfield 41, 3) := by decide +kernel
theorem d_Mo_ship_114 : decode b_Mo_ship 114 = .ok (.aload_n 0, 1) := by decide +kernel
theorem d_Mo_ship_115 : decode b_Mo_ship 115 = .ok (.getfield 75, 3) := by decide +kernel
theorem d_Mo_ship_118 : decode b_Mo_ship 118 = .ok (.iload 4, 2) := by decide +kernel
theorem d_Mo_ship_120 : decode b_Mo_ship 120 = .ok (.iastore, 1) := by decide +kernel
theorem d_Mo_ship_121 : decode b_Mo_ship 121 = .ok (.aload_n 0, 1) := by decide +kernel
theorem d_Mo_ship_122 : decode b_Mo_ship 122 = .ok (.getfield 44, 3) := by decide +kernel
theorem d_Mo_ship_125 : decode b_Mo_ship 125 = .ok (.aload_n 0, 1) := by decide +kernel
theorem d_Mo_ship_126 : decode b_Mo_ship 126 = .ok (.getfield 75, 3) := by decide +kernel
theorem d_Mo_ship_129 : decode b_Mo_ship 129 = .ok (.iload 5, 2) := by decide +kernel
theorem d_Mo_ship_131 : decode b_Mo_ship 131 = .ok (.iastore, 1) := by decide +kernel
theorem d_Mo_ship_132 : decode b_Mo_ship 132 = .ok (.aload_n 0, 1) := by decide +kernel
theorem d_Mo_ship_133 : decode b_Mo_ship 133 = .ok (.dup, 1) := by decide +kernel
theorem d_Mo_ship_134 : decode b_Mo_ship 134 = .ok (.getfield 75, 3) := by decide +kernel
theorem d_Mo_ship_137 : decode b_Mo_ship 137 = .ok (.iconst 1, 1) := by decide +kernel
theorem d_Mo_ship_138 : decode b_Mo_ship 138 = .ok (.iadd, 1) := by decide +kernel
theorem d_Mo_ship_139 : decode b_Mo_ship 139 = .ok (.putfield 75, 3) := by decide +kernel
theorem d_Mo_ship_142 : decode b_Mo_ship 142 = .ok (.aload_n 0, 1) := by decide +kernel
theorem d_Mo_ship_143 : decode b_Mo_ship 143 = .ok (.iconst 0, 1) := by decide +kernel
theorem d_Mo_ship_144 : decode b_Mo_ship 144 = .ok (.putfield 82, 3) := by decide +kernel
theorem d_Mo_ship_147 : decode b_Mo_ship 147 = .ok (.aload_n 0, 1) := by decide +kernel
theorem d_Mo_ship_148 : decode b_Mo_ship 148 = .ok (.getfield 75, 3) := by decide +kernel
theorem d_Mo_ship_151 : decode b_Mo_ship 151 = .ok (.iconst 1, 1) := by decide +kernel
theorem d_Mo_ship_152 : decode b_Mo_ship 152 = .ok (.isub, 1) := by decide +kernel
theorem d_Mo_ship_153 : decode b_Mo_ship 153 = .ok (.ireturn, 1) := by decide +kernel
theorem d_Mo_shipsOf_0 : decode b_Mo_shipsOf 0 = .ok (.iconst 0, 1) := by decide +kernel
theorem d_Mo_shipsOf_1 : decode b_Mo_shipsOf 1 = .ok (.istore_n 2, 1) := by decide +kernel
theorem d_Mo_shipsOf_2 : decode b_Mo_shipsOf 2 = .ok (.iconst 0, 1) := by decide +kernel
theorem d_Mo_shipsOf_3 : decode b_Mo_shipsOf 3 = .ok (.istore_n 3, 1) := by decide +kernel
theorem d_Mo_shipsOf_4 : decode b_Mo_shipsOf 4 = .ok (.iload_n 3, 1) := by decide +kernel
theorem d_Mo_shipsOf_5 : decode b_Mo_shipsOf 5 = .ok (.aload_n 0, 1) := by decide +kernel
theorem d_Mo_shipsOf_6 : decode b_Mo_shipsOf 6 = .ok (.getfield 75, 3) := by decide +kernel
theorem d_Mo_shipsOf_9 : decode b_Mo_shipsOf 9 = .ok (.if_icmp .ge 29, 3) := by decide +kernel
theorem d_Mo_shipsOf_12 : decode b_Mo_shipsOf 12 = .ok (.iload_n 2, 1) := by decide +kernel
theorem d_Mo_shipsOf_13 : decode b_Mo_shipsOf 13 = .ok (.aload_n 0, 1) := by decide +kernel
theorem d_Mo_shipsOf_14 : decode b_Mo_shipsOf 14 = .ok (.getfield 60, 3) := by decide +kernel
theorem d_Mo_shipsOf_17 : decode b_Mo_shipsOf 17 = .ok (.iload_n 3, 1) := by decide +kernel
theorem d_Mo_shipsOf_18 : decode b_Mo_shipsOf 18 = .ok (.iaload, 1) := by decide +kernel
theorem d_Mo_shipsOf_19 : decode b_Mo_shipsOf 19 = .ok (.iload_n 1, 1) := by decide +kernel
theorem d_Mo_shipsOf_20 : decode b_Mo_shipsOf 20 = .ok (.if_icmp .ne 9, 3) := by decide +kernel
theorem d_Mo_shipsOf_23 : decode b_Mo_shipsOf 23 = .ok (.iconst 1, 1) := by decide +kernel
theorem d_Mo_shipsOf_24 : decode b_Mo_shipsOf 24 = .ok (.iload_n 3, 1) := by decide +kernel
theorem d_Mo_shipsOf_25 : decode b_Mo_shipsOf 25 = .ok (.ishl, 1) := by decide +kernel
theorem d_Mo_shipsOf_26 : decode b_Mo_shipsOf 26 = .ok (.goto 4, 3) := by decide +kernel
theorem d_Mo_shipsOf_29 : decode b_Mo_shipsOf 29 = .ok (.iconst 0, 1) := by decide +kernel
theorem d_Mo_shipsOf_30 : decode b_Mo_shipsOf 30 = .ok (.iadd, 1) := by decide +kernel
theorem d_Mo_shipsOf_31 : decode b_Mo_shipsOf 31 = .ok (.istore_n 2, 1) := by decide +kernel
theorem d_Mo_shipsOf_32 : decode b_Mo_shipsOf 32 = .ok (.iinc 3 1, 3) := by decide +kernel
theorem d_Mo_shipsOf_35 : decode b_Mo_shipsOf 35 = .ok (.goto (-31), 3) := by decide +kernel
theorem d_Mo_shipsOf_38 : decode b_Mo_shipsOf 38 = .ok (.iload_n 2, 1) := by decide +kernel
theorem d_Mo_shipsOf_39 : decode b_Mo_shipsOf 39 = .ok (.ireturn, 1) := by decide +kernel
theorem d_Mo_thrown_0 : decode b_Mo_thrown 0 = .ok (.aload_n 0, 1) := by decide +kernel
theorem d_Mo_thrown_1 : decode b_Mo_thrown 1 = .ok (.getfield 69, 3) := by decide +kernel
theorem d_Mo_thrown_4 : decode b_Mo_thrown 4 = .ok (.ireturn, 1) := by decide +kernel
theorem d_Mo_times_0 : decode b_Mo_times 0 = .ok (.iconst 0, 1) := by decide +kernel
theorem d_Mo_times_1 : decode b_Mo_times 1 = .ok (.istore_n 2, 1) := by decide +kernel
theorem d_Mo_times_2 : decode b_Mo_times 2 = .ok (.iconst 0, 1) := by decide +kernel
theorem d_Mo_times_3 : decode b_Mo_times 3 = .ok (.istore_n 3, 1) := by decide +kernel
theorem d_Mo_times_4 : decode b_Mo_times 4 = .ok (.iconst 0, 1) := by decide +kernel
theorem d_Mo_times_5 : decode b_Mo_times 5 = .ok (.istore 4, 2) := by decide +kernel
theorem d_Mo_times_7 : decode b_Mo_times 7 = .ok (.iconst 0, 1) := by decide +kernel
theorem d_Mo_times_8 : decode b_Mo_times 8 = .ok (.istore 5, 2) := by decide +kernel
theorem d_Mo_times_10 : decode b_Mo_times 10 = .ok (.iload 5, 2) := by decide +kernel
theorem d_Mo_times_12 : decode b_Mo_times 12 = .ok (.iconst 4, 1) := by decide +kernel
theorem d_Mo_times_13 : decode b_Mo_times 13 = .ok (.if_icmp .ge 206, 3) := by decide +kernel
theorem d_Mo_times_16 : decode b_Mo_times 16 = .ok (.aload_n 0, 1) := by decide +kernel
theorem d_Mo_times_17 : decode b_Mo_times 17 = .ok (.iconst 4, 1) := by decide +kernel
theorem d_Mo_times_18 : decode b_Mo_times 18 = .ok (.iload_n 1, 1) := by decide +kernel
theorem d_Mo_times_19 : decode b_Mo_times 19 = .ok (.imul, 1) := by decide +kernel
theorem d_Mo_times_20 : decode b_Mo_times 20 = .ok (.iload 5, 2) := by decide +kernel
theorem d_Mo_times_22 : decode b_Mo_times 22 = .ok (.iadd, 1) := by decide +kernel
theorem d_Mo_times_23 : decode b_Mo_times 23 = .ok (.invokevirtual 108, 3) := by decide +kernel
theorem d_Mo_times_26 : decode b_Mo_times 26 = .ok (.istore 6, 2) := by decide +kernel
theorem d_Mo_times_28 : decode b_Mo_times 28 = .ok (.iload 6, 2) := by decide +kernel
theorem d_Mo_times_30 : decode b_Mo_times 30 = .ok (.ifCond .le 34, 3) := by decide +kernel
theorem d_Mo_times_33 : decode b_Mo_times 33 = .ok (.iload 4, 2) := by decide +kernel
theorem d_Mo_times_35 : decode b_Mo_times 35 = .ok (.ifCond .ne 27, 3) := by decide +kernel
theorem d_Mo_times_38 : decode b_Mo_times 38 = .ok (.aload_n 0, 1) := by decide +kernel
theorem d_Mo_times_39 : decode b_Mo_times 39 = .ok (.iload 6, 2) := by decide +kernel
theorem d_Mo_times_41 : decode b_Mo_times 41 = .ok (.invokevirtual 111, 3) := by decide +kernel
theorem d_Mo_times_44 : decode b_Mo_times 44 = .ok (.ifCond .eq 18, 3) := by decide +kernel
theorem d_Mo_times_47 : decode b_Mo_times 47 = .ok (.aload_n 0, 1) := by decide +kernel
theorem d_Mo_times_48 : decode b_Mo_times 48 = .ok (.getfield 50, 3) := by decide +kernel
theorem d_Mo_times_51 : decode b_Mo_times 51 = .ok (.bipush 16, 2) := by decide +kernel
theorem d_Mo_times_53 : decode b_Mo_times 53 = .ok (.iload_n 1, 1) := by decide +kernel
theorem d_Mo_times_54 : decode b_Mo_times 54 = .ok (.imul, 1) := by decide +kernel
theorem d_Mo_times_55 : decode b_Mo_times 55 = .ok (.iload 6, 2) := by decide +kernel
theorem d_Mo_times_57 : decode b_Mo_times 57 = .ok (.iadd, 1) := by decide +kernel
theorem d_Mo_times_58 : decode b_Mo_times 58 = .ok (.baload, 1) := by decide +kernel
theorem d_Mo_times_59 : decode b_Mo_times 59 = .ok (.ifCond .ne 5, 3) := by decide +kernel
theorem d_Mo_times_62 : decode b_Mo_times 62 = .ok (.iconst 0, 1) := by decide +kernel
theorem d_Mo_times_63 : decode b_Mo_times 63 = .ok (.ireturn, 1) := by decide +kernel
theorem d_Mo_times_64 : decode b_Mo_times 64 = .ok (.iload 4, 2) := by decide +kernel
theorem d_Mo_times_66 : decode b_Mo_times 66 = .ok (.ifCond .ne 8, 3) := by decide +kernel
theorem d_Mo_times_69 : decode b_Mo_times 69 = .ok (.iload 6, 2) := by decide +kernel
theorem d_Mo_times_71 : decode b_Mo_times 71 = .ok (.ifCond .ne 7, 3) := by decide +kernel
theorem d_Mo_times_74 : decode b_Mo_times 74 = .ok (.iconst 1, 1) := by decide +kernel
theorem d_Mo_times_75 : decode b_Mo_times 75 = .ok (.goto 4, 3) := by decide +kernel
theorem d_Mo_times_78 : decode b_Mo_times 78 = .ok (.iconst 0, 1) := by decide +kernel
theorem d_Mo_times_79 : decode b_Mo_times 79 = .ok (.istore 4, 2) := by decide +kernel
theorem d_Mo_times_81 : decode b_Mo_times 81 = .ok (.iload 6, 2) := by decide +kernel
theorem d_Mo_times_83 : decode b_Mo_times 83 = .ok (.ifCond .ne 6, 3) := by decide +kernel
theorem d_Mo_times_86 : decode b_Mo_times 86 = .ok (.goto 127, 3) := by decide +kernel
theorem d_Mo_times_89 : decode b_Mo_times 89 = .ok (.aload_n 0, 1) := by decide +kernel
theorem d_Mo_times_90 : decode b_Mo_times 90 = .ok (.getfield 41, 3) := by decide +kernel
theorem d_Mo_times_93 : decode b_Mo_times 93 = .ok (.iload 6, 2) := by decide +kernel
theorem d_Mo_times_95 : decode b_Mo_times 95 = .ok (.invokestatic 104, 3) := by decide +kernel
theorem d_Mo_times_98 : decode b_Mo_times 98 = .ok (.iaload, 1) := by decide +kernel
theorem d_Mo_times_99 : decode b_Mo_times 99 = .ok (.istore 7, 2) := by decide +kernel
theorem d_Mo_times_101 : decode b_Mo_times 101 = .ok (.iload 7, 2) := by decide +kernel
theorem d_Mo_times_103 : decode b_Mo_times 103 = .ok (.iload_n 3, 1) := by decide +kernel
theorem d_Mo_times_104 : decode b_Mo_times 104 = .ok (.if_icmp .ne 7, 3) := by decide +kernel
theorem d_Mo_times_107 : decode b_Mo_times 107 = .ok (.iload_n 2, 1) := by decide +kernel
theorem d_Mo_times_108 : decode b_Mo_times 108 = .ok (.goto 11, 3) := by decide +kernel
theorem d_Mo_times_111 : decode b_Mo_times 111 = .ok (.iload_n 2, 1) := by decide +kernel
theorem d_Mo_times_112 : decode b_Mo_times 112 = .ok (.aload_n 0, 1) := by decide +kernel
theorem d_Mo_times_113 : decode b_Mo_times 113 = .ok (.getfield 20, 3) := by decide +kernel
theorem d_Mo_times_116 : decode b_Mo_times 116 = .ok (.iload_n 1, 1) := by decide +kernel
theorem d_Mo_times_117 : decode b_Mo_times 117 = .ok (.iaload, 1) := by decide +kernel
theorem d_Mo_times_118 : decode b_Mo_times 118 = .ok (.iadd, 1) := by decide +kernel
theorem d_Mo_times_119 : decode b_Mo_times 119 = .ok (.istore 8, 2) := by decide +kernel
theorem d_Mo_times_121 : decode b_Mo_times 121 = .ok (.iconst 0, 1) := by decide +kernel
theorem d_Mo_times_122 : decode b_Mo_times 122 = .ok (.istore 9, 2) := by decide +kernel
theorem d_Mo_times_124 : decode b_Mo_times 124 = .ok (.iload 9, 2) := by decide +kernel
theorem d_Mo_times_126 : decode b_Mo_times 126 = .ok (.aload_n 0, 1) := by decide +kernel
theorem d_Mo_times_127 : decode b_Mo_times 127 = .ok (.getfield 75, 3) := by decide +kernel
theorem d_Mo_times_130 : decode b_Mo_times 130 = .ok (.if_icmp .ge 46, 3) := by decide +kernel
theorem d_Mo_times_133 : decode b_Mo_times 133 = .ok (.iload 6, 2) := by decide +kernel
theorem d_Mo_times_135 : decode b_Mo_times 135 = .ok (.iload 9, 2) := by decide +kernel
theorem d_Mo_times_137 : decode b_Mo_times 137 = .ok (.ishr, 1) := by decide +kernel
theorem d_Mo_times_138 : decode b_Mo_times 138 = .ok (.iconst 1, 1) := by decide +kernel
theorem d_Mo_times_139 : decode b_Mo_times 139 = .ok (.iand, 1) := by decide +kernel
theorem d_Mo_times_140 : decode b_Mo_times 140 = .ok (.iconst 1, 1) := by decide +kernel
theorem d_Mo_times_141 : decode b_Mo_times 141 = .ok (.if_icmp .ne 25, 3) := by decide +kernel
theorem d_Mo_times_144 : decode b_Mo_times 144 = .ok (.aload_n 0, 1) := by decide +kernel
theorem d_Mo_times_145 : decode b_Mo_times 145 = .ok (.getfield 38, 3) := by decide +kernel
theorem d_Mo_times_148 : decode b_Mo_times 148 = .ok (.iload 9, 2) := by decide +kernel
theorem d_Mo_times_150 : decode b_Mo_times 150 = .ok (.iaload, 1) := by decide +kernel
theorem d_Mo_times_151 : decode b_Mo_times 151 = .ok (.iload 8, 2) := by decide +kernel
theorem d_Mo_times_153 : decode b_Mo_times 153 = .ok (.if_icmp .le 13, 3) := by decide +kernel
theorem d_Mo_times_156 : decode b_Mo_times 156 = .ok (.aload_n 0, 1) := by decide +kernel
theorem d_Mo_times_157 : decode b_Mo_times 157 = .ok (.getfield 38, 3) := by decide +kernel
theorem d_Mo_times_160 : decode b_Mo_times 160 = .ok (.iload 9, 2) := by decide +kernel
theorem d_Mo_times_162 : decode b_Mo_times 162 = .ok (.iaload, 1) := by decide +kernel
theorem d_Mo_times_163 : decode b_Mo_times 163 = .ok (.goto 5, 3) := by decide +kernel
theorem d_Mo_times_166 : decode b_Mo_times 166 = .ok (.iload 8, 2) := by decide +kernel
theorem d_Mo_times_168 : decode b_Mo_times 168 = .ok (.istore 8, 2) := by decide +kernel
theorem d_Mo_times_170 : decode b_Mo_times 170 = .ok (.iinc 9 1, 3) := by decide +kernel
theorem d_Mo_times_173 : decode b_Mo_times 173 = .ok (.goto (-49), 3) := by decide +kernel
theorem d_Mo_times_176 : decode b_Mo_times 176 = .ok (.aload_n 0, 1) := by decide +kernel
theorem d_Mo_times_177 : decode b_Mo_times 177 = .ok (.iload_n 1, 1) := by decide +kernel
theorem d_Mo_times_178 : decode b_Mo_times 178 = .ok (.iload 8, 2) := by decide +kernel
theorem d_Mo_times_180 : decode b_Mo_times 180 = .ok (.invokevirtual 114, 3) := by decide +kernel
theorem d_Mo_times_183 : decode b_Mo_times 183 = .ok (.istore 8, 2) := by decide +kernel
theorem d_Mo_times_185 : decode b_Mo_times 185 = .ok (.aload_n 0, 1) := by decide +kernel
theorem d_Mo_times_186 : decode b_Mo_times 186 = .ok (.getfield 66, 3) := by decide +kernel
theorem d_Mo_times_189 : decode b_Mo_times 189 = .ok (.iconst 4, 1) := by decide +kernel
theorem d_Mo_times_190 : decode b_Mo_times 190 = .ok (.iload_n 1, 1) := by decide +kernel
theorem d_Mo_times_191 : decode b_Mo_times 191 = .ok (.imul, 1) := by decide +kernel
theorem d_Mo_times_192 : decode b_Mo_times 192 = .ok (.iload 5, 2) := by decide +kernel
theorem d_Mo_times_194 : decode b_Mo_times 194 = .ok (.iadd, 1) := by decide +kernel
theorem d_Mo_times_195 : decode b_Mo_times 195 = .ok (.iload 8, 2) := by decide +kernel
theorem d_Mo_times_197 : decode b_Mo_times 197 = .ok (.iastore, 1) := by decide +kernel
theorem d_Mo_times_198 : decode b_Mo_times 198 = .ok (.iload 8, 2) := by decide +kernel
theorem d_Mo_times_200 : decode b_Mo_times 200 = .ok (.aload_n 0, 1) := by decide +kernel
theorem d_Mo_times_201 : decode b_Mo_times 201 = .ok (.getfield 20, 3) := by decide +kernel
theorem d_Mo_times_204 : decode b_Mo_times 204 = .ok (.iload_n 1, 1) := by decide +kernel
theorem d_Mo_times_205 : decode b_Mo_times 205 = .ok (.iaload, 1) := by decide +kernel
theorem d_Mo_times_206 : decode b_Mo_times 206 = .ok (.iadd, 1) := by decide +kernel
theorem d_Mo_times_207 : decode b_Mo_times 207 = .ok (.istore_n 2, 1) := by decide +kernel
theorem d_Mo_times_208 : decode b_Mo_times 208 = .ok (.iconst 1, 1) := by decide +kernel
theorem d_Mo_times_209 : decode b_Mo_times 209 = .ok (.iload 7, 2) := by decide +kernel
theorem d_Mo_times_211 : decode b_Mo_times 211 = .ok (.isub, 1) := by decide +kernel
theorem d_Mo_times_212 : decode b_Mo_times 212 = .ok (.istore_n 3, 1) := by decide +kernel
theorem d_Mo_times_213 : decode b_Mo_times 213 = .ok (.iinc 5 1, 3) := by decide +kernel
theorem d_Mo_times_216 : decode b_Mo_times 216 = .ok (.goto (-206), 3) := by decide +kernel
theorem d_Mo_times_219 : decode b_Mo_times 219 = .ok (.iconst 1, 1) := by decide +kernel
theorem d_Mo_times_220 : decode b_Mo_times 220 = .ok (.ireturn, 1) := by decide +kernel
theorem d_Mo_weighed_0 : decode b_Mo_weighed 0 = .ok (.iconst 0, 1) := by decide +kernel
theorem d_Mo_weighed_1 : decode b_Mo_weighed 1 = .ok (.istore_n 1, 1) := by decide +kernel
theorem d_Mo_weighed_2 : decode b_Mo_weighed 2 = .ok (.iload_n 1, 1) := by decide +kernel
theorem d_Mo_weighed_3 : decode b_Mo_weighed 3 = .ok (.aload_n 0, 1) := by decide +kernel
theorem d_Mo_weighed_4 : decode b_Mo_weighed 4 = .ok (.getfield 72, 3) := by decide +kernel
theorem d_Mo_weighed_7 : decode b_Mo_weighed 7 = .ok (.if_icmp .ge 20, 3) := by decide +kernel
theorem d_Mo_weighed_10 : decode b_Mo_weighed 10 = .ok (.aload_n 0, 1) := by decide +kernel
theorem d_Mo_weighed_11 : decode b_Mo_weighed 11 = .ok (.iload_n 1, 1) := by decide +kernel
theorem d_Mo_weighed_12 : decode b_Mo_weighed 12 = .ok (.invokevirtual 118, 3) := by decide +kernel
theorem d_Mo_weighed_15 : decode b_Mo_weighed 15 = .ok (.ifCond .ne 6, 3) := by decide +kernel
theorem d_Mo_weighed_18 : decode b_Mo_weighed 18 = .ok (.ldc 121, 2) := by decide +kernel
theorem d_Mo_weighed_20 : decode b_Mo_weighed 20 = .ok (.ireturn, 1) := by decide +kernel
theorem d_Mo_weighed_21 : decode b_Mo_weighed 21 = .ok (.iinc 1 1, 3) := by decide +kernel
theorem d_Mo_weighed_24 : decode b_Mo_weighed 24 = .ok (.goto (-22), 3) := by decide +kernel
theorem d_Mo_weighed_27 : decode b_Mo_weighed 27 = .ok (.iconst 0, 1) := by decide +kernel
theorem d_Mo_weighed_28 : decode b_Mo_weighed 28 = .ok (.istore_n 1, 1) := by decide +kernel
theorem d_Mo_weighed_29 : decode b_Mo_weighed 29 = .ok (.iconst 0, 1) := by decide +kernel
theorem d_Mo_weighed_30 : decode b_Mo_weighed 30 = .ok (.istore_n 2, 1) := by decide +kernel
theorem d_Mo_weighed_31 : decode b_Mo_weighed 31 = .ok (.iload_n 2, 1) := by decide +kernel
theorem d_Mo_weighed_32 : decode b_Mo_weighed 32 = .ok (.aload_n 0, 1) := by decide +kernel
theorem d_Mo_weighed_33 : decode b_Mo_weighed 33 = .ok (.getfield 75, 3) := by decide +kernel
theorem d_Mo_weighed_36 : decode b_Mo_weighed 36 = .ok (.if_icmp .ge 42, 3) := by decide +kernel
theorem d_Mo_weighed_39 : decode b_Mo_weighed 39 = .ok (.aload_n 0, 1) := by decide +kernel
theorem d_Mo_weighed_40 : decode b_Mo_weighed 40 = .ok (.getfield 57, 3) := by decide +kernel
theorem d_Mo_weighed_43 : decode b_Mo_weighed 43 = .ok (.iload_n 2, 1) := by decide +kernel
theorem d_Mo_weighed_44 : decode b_Mo_weighed 44 = .ok (.aload_n 0, 1) := by decide +kernel
theorem d_Mo_weighed_45 : decode b_Mo_weighed 45 = .ok (.getfield 66, 3) := by decide +kernel
theorem d_Mo_weighed_48 : decode b_Mo_weighed 48 = .ok (.aload_n 0, 1) := by decide +kernel
theorem d_Mo_weighed_49 : decode b_Mo_weighed 49 = .ok (.getfield 54, 3) := by decide +kernel
theorem d_Mo_weighed_52 : decode b_Mo_weighed 52 = .ok (.iload_n 2, 1) := by decide +kernel
theorem d_Mo_weighed_53 : decode b_Mo_weighed 53 = .ok (.iaload, 1) := by decide +kernel
theorem d_Mo_weighed_54 : decode b_Mo_weighed 54 = .ok (.iaload, 1) := by decide +kernel
theorem d_Mo_weighed_55 : decode b_Mo_weighed 55 = .ok (.iastore, 1) := by decide +kernel
theorem d_Mo_weighed_56 : decode b_Mo_weighed 56 = .ok (.iload_n 1, 1) := by decide +kernel
theorem d_Mo_weighed_57 : decode b_Mo_weighed 57 = .ok (.aload_n 0, 1) := by decide +kernel
theorem d_Mo_weighed_58 : decode b_Mo_weighed 58 = .ok (.getfield 57, 3) := by decide +kernel
theorem d_Mo_weighed_61 : decode b_Mo_weighed 61 = .ok (.iload_n 2, 1) := by decide +kernel
theorem d_Mo_weighed_62 : decode b_Mo_weighed 62 = .ok (.iaload, 1) := by decide +kernel
theorem d_Mo_weighed_63 : decode b_Mo_weighed 63 = .ok (.aload_n 0, 1) := by decide +kernel
theorem d_Mo_weighed_64 : decode b_Mo_weighed 64 = .ok (.getfield 38, 3) := by decide +kernel
theorem d_Mo_weighed_67 : decode b_Mo_weighed 67 = .ok (.iload_n 2, 1) := by decide +kernel
theorem d_Mo_weighed_68 : decode b_Mo_weighed 68 = .ok (.iaload, 1) := by decide +kernel
theorem d_Mo_weighed_69 : decode b_Mo_weighed 69 = .ok (.isub, 1) := by decide +kernel
theorem d_Mo_weighed_70 : decode b_Mo_weighed 70 = .ok (.iadd, 1) := by decide +kernel
theorem d_Mo_weighed_71 : decode b_Mo_weighed 71 = .ok (.istore_n 1, 1) := by decide +kernel
theorem d_Mo_weighed_72 : decode b_Mo_weighed 72 = .ok (.iinc 2 1, 3) := by decide +kernel
theorem d_Mo_weighed_75 : decode b_Mo_weighed 75 = .ok (.goto (-44), 3) := by decide +kernel
theorem d_Mo_weighed_78 : decode b_Mo_weighed 78 = .ok (.iconst 0, 1) := by decide +kernel
theorem d_Mo_weighed_79 : decode b_Mo_weighed 79 = .ok (.istore_n 2, 1) := by decide +kernel
theorem d_Mo_weighed_80 : decode b_Mo_weighed 80 = .ok (.iload_n 2, 1) := by decide +kernel
theorem d_Mo_weighed_81 : decode b_Mo_weighed 81 = .ok (.aload_n 0, 1) := by decide +kernel
theorem d_Mo_weighed_82 : decode b_Mo_weighed 82 = .ok (.getfield 75, 3) := by decide +kernel
theorem d_Mo_weighed_85 : decode b_Mo_weighed 85 = .ok (.if_icmp .ge 25, 3) := by decide +kernel
theorem d_Mo_weighed_88 : decode b_Mo_weighed 88 = .ok (.aload_n 0, 1) := by decide +kernel
theorem d_Mo_weighed_89 : decode b_Mo_weighed 89 = .ok (.iload_n 2, 1) := by decide +kernel
theorem d_Mo_weighed_90 : decode b_Mo_weighed 90 = .ok (.iconst 1, 1) := by decide +kernel
theorem d_Mo_weighed_91 : decode b_Mo_weighed 91 = .ok (.invokevirtual 122, 3) := by decide +kernel
theorem d_Mo_weighed_94 : decode b_Mo_weighed 94 = .ok (.aload_n 0, 1) := by decide +kernel
theorem d_Mo_weighed_95 : decode b_Mo_weighed 95 = .ok (.getfield 7, 3) := by decide +kernel
theorem d_Mo_weighed_98 : decode b_Mo_weighed 98 = .ok (.if_icmp .le 6, 3) := by decide +kernel
theorem d_Mo_weighed_101 : decode b_Mo_weighed 101 = .ok (.ldc 121, 2) := by decide +kernel
theorem d_Mo_weighed_103 : decode b_Mo_weighed 103 = .ok (.ireturn, 1) := by decide +kernel
theorem d_Mo_weighed_104 : decode b_Mo_weighed 104 = .ok (.iinc 2 1, 3) := by decide +kernel
theorem d_Mo_weighed_107 : decode b_Mo_weighed 107 = .ok (.goto (-27), 3) := by decide +kernel
theorem d_Mo_weighed_110 : decode b_Mo_weighed 110 = .ok (.iload_n 1, 1) := by decide +kernel
theorem d_Mo_weighed_111 : decode b_Mo_weighed 111 = .ok (.ireturn, 1) := by decide +kernel
