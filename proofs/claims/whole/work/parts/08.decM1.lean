theorem d_Mo_late_14 : decode b_Mo_late 14 = .ok (.iconst 0, 1) := by decide +kernel
theorem d_Mo_late_15 : decode b_Mo_late 15 = .ok (.sipush 1000, 3) := by decide +kernel
theorem d_Mo_late_18 : decode b_Mo_late 18 = .ok (.invokestatic 78, 3) := by decide +kernel
theorem d_Mo_late_21 : decode b_Mo_late 21 = .ok (.ifCond .ne 7, 3) := by decide +kernel
theorem d_Mo_late_24 : decode b_Mo_late 24 = .ok (.iconst 2, 1) := by decide +kernel
theorem d_Mo_late_25 : decode b_Mo_late 25 = .ok (.goto 15, 3) := by decide +kernel
theorem d_Mo_late_28 : decode b_Mo_late 28 = .ok (.aload_n 0, 1) := by decide +kernel
theorem d_Mo_late_29 : decode b_Mo_late 29 = .ok (.getfield 82, 3) := by decide +kernel
theorem d_Mo_late_32 : decode b_Mo_late 32 = .ok (.ifCond .ne 7, 3) := by decide +kernel
theorem d_Mo_late_35 : decode b_Mo_late 35 = .ok (.iconst 3, 1) := by decide +kernel
theorem d_Mo_late_36 : decode b_Mo_late 36 = .ok (.goto 4, 3) := by decide +kernel
theorem d_Mo_late_39 : decode b_Mo_late 39 = .ok (.iconst 0, 1) := by decide +kernel
theorem d_Mo_late_40 : decode b_Mo_late 40 = .ok (.putfield 69, 3) := by decide +kernel
theorem d_Mo_late_43 : decode b_Mo_late 43 = .ok (.aload_n 0, 1) := by decide +kernel
theorem d_Mo_late_44 : decode b_Mo_late 44 = .ok (.getfield 69, 3) := by decide +kernel
theorem d_Mo_late_47 : decode b_Mo_late 47 = .ok (.ifCond .le 5, 3) := by decide +kernel
theorem d_Mo_late_50 : decode b_Mo_late 50 = .ok (.iconst 0, 1) := by decide +kernel
theorem d_Mo_late_51 : decode b_Mo_late 51 = .ok (.ireturn, 1) := by decide +kernel
theorem d_Mo_late_52 : decode b_Mo_late 52 = .ok (.lconst 0, 1) := by decide +kernel
theorem d_Mo_late_53 : decode b_Mo_late 53 = .ok (.lstore_n 3, 1) := by decide +kernel
theorem d_Mo_late_54 : decode b_Mo_late 54 = .ok (.iconst 0, 1) := by decide +kernel
theorem d_Mo_late_55 : decode b_Mo_late 55 = .ok (.istore 5, 2) := by decide +kernel
theorem d_Mo_late_57 : decode b_Mo_late 57 = .ok (.iload 5, 2) := by decide +kernel
theorem d_Mo_late_59 : decode b_Mo_late 59 = .ok (.aload_n 0, 1) := by decide +kernel
theorem d_Mo_late_60 : decode b_Mo_late 60 = .ok (.getfield 75, 3) := by decide +kernel
theorem d_Mo_late_63 : decode b_Mo_late 63 = .ok (.if_icmp .ge 39, 3) := by decide +kernel
theorem d_Mo_late_66 : decode b_Mo_late 66 = .ok (.ldc2_w 143, 3) := by decide +kernel
theorem d_Mo_late_69 : decode b_Mo_late 69 = .ok (.lload_n 3, 1) := by decide +kernel
theorem d_Mo_late_70 : decode b_Mo_late 70 = .ok (.lmul, 1) := by decide +kernel
theorem d_Mo_late_71 : decode b_Mo_late 71 = .ok (.ldc2_w 145, 3) := by decide +kernel
theorem d_Mo_late_74 : decode b_Mo_late 74 = .ok (.aload_n 0, 1) := by decide +kernel
theorem d_Mo_late_75 : decode b_Mo_late 75 = .ok (.getfield 63, 3) := by decide +kernel
theorem d_Mo_late_78 : decode b_Mo_late 78 = .ok (.iload 5, 2) := by decide +kernel
theorem d_Mo_late_80 : decode b_Mo_late 80 = .ok (.iaload, 1) := by decide +kernel
theorem d_Mo_late_81 : decode b_Mo_late 81 = .ok (.i2l, 1) := by decide +kernel
theorem d_Mo_late_82 : decode b_Mo_late 82 = .ok (.lmul, 1) := by decide +kernel
theorem d_Mo_late_83 : decode b_Mo_late 83 = .ok (.ladd, 1) := by decide +kernel
theorem d_Mo_late_84 : decode b_Mo_late 84 = .ok (.aload_n 0, 1) := by decide +kernel
theorem d_Mo_late_85 : decode b_Mo_late 85 = .ok (.getfield 60, 3) := by decide +kernel
theorem d_Mo_late_88 : decode b_Mo_late 88 = .ok (.iload 5, 2) := by decide +kernel
theorem d_Mo_late_90 : decode b_Mo_late 90 = .ok (.iaload, 1) := by decide +kernel
theorem d_Mo_late_91 : decode b_Mo_late 91 = .ok (.iconst 4, 1) := by decide +kernel
theorem d_Mo_late_92 : decode b_Mo_late 92 = .ok (.idiv, 1) := by decide +kernel
theorem d_Mo_late_93 : decode b_Mo_late 93 = .ok (.i2l, 1) := by decide +kernel
theorem d_Mo_late_94 : decode b_Mo_late 94 = .ok (.ladd, 1) := by decide +kernel
theorem d_Mo_late_95 : decode b_Mo_late 95 = .ok (.lstore_n 3, 1) := by decide +kernel
theorem d_Mo_late_96 : decode b_Mo_late 96 = .ok (.iinc 5 1, 3) := by decide +kernel
theorem d_Mo_late_99 : decode b_Mo_late 99 = .ok (.goto (-42), 3) := by decide +kernel
theorem d_Mo_late_102 : decode b_Mo_late 102 = .ok (.aload_n 0, 1) := by decide +kernel
theorem d_Mo_late_103 : decode b_Mo_late 103 = .ok (.getfield 38, 3) := by decide +kernel
theorem d_Mo_late_106 : decode b_Mo_late 106 = .ok (.iload_n 1, 1) := by decide +kernel
theorem d_Mo_late_107 : decode b_Mo_late 107 = .ok (.iload_n 2, 1) := by decide +kernel
theorem d_Mo_late_108 : decode b_Mo_late 108 = .ok (.iastore, 1) := by decide +kernel
theorem d_Mo_late_109 : decode b_Mo_late 109 = .ok (.aload_n 0, 1) := by decide +kernel
theorem d_Mo_late_110 : decode b_Mo_late 110 = .ok (.invokevirtual 134, 3) := by decide +kernel
theorem d_Mo_late_113 : decode b_Mo_late 113 = .ok (.istore 5, 2) := by decide +kernel
theorem d_Mo_late_115 : decode b_Mo_late 115 = .ok (.aload_n 0, 1) := by decide +kernel
theorem d_Mo_late_116 : decode b_Mo_late 116 = .ok (.iload 5, 2) := by decide +kernel
theorem d_Mo_late_118 : decode b_Mo_late 118 = .ok (.ifCond .lt 7, 3) := by decide +kernel
theorem d_Mo_late_121 : decode b_Mo_late 121 = .ok (.iconst 1, 1) := by decide +kernel
theorem d_Mo_late_122 : decode b_Mo_late 122 = .ok (.goto 4, 3) := by decide +kernel
theorem d_Mo_late_125 : decode b_Mo_late 125 = .ok (.iconst 0, 1) := by decide +kernel
theorem d_Mo_late_126 : decode b_Mo_late 126 = .ok (.putfield 82, 3) := by decide +kernel
theorem d_Mo_late_129 : decode b_Mo_late 129 = .ok (.aload_n 0, 1) := by decide +kernel
theorem d_Mo_late_130 : decode b_Mo_late 130 = .ok (.getfield 82, 3) := by decide +kernel
theorem d_Mo_late_133 : decode b_Mo_late 133 = .ok (.ifCond .ne 5, 3) := by decide +kernel
theorem d_Mo_late_136 : decode b_Mo_late 136 = .ok (.iconst (-1), 1) := by decide +kernel
theorem d_Mo_late_137 : decode b_Mo_late 137 = .ok (.ireturn, 1) := by decide +kernel
theorem d_Mo_late_138 : decode b_Mo_late 138 = .ok (.iconst 0, 1) := by decide +kernel
theorem d_Mo_late_139 : decode b_Mo_late 139 = .ok (.istore 6, 2) := by decide +kernel
theorem d_Mo_late_141 : decode b_Mo_late 141 = .ok (.aload_n 0, 1) := by decide +kernel
theorem d_Mo_late_142 : decode b_Mo_late 142 = .ok (.getfield 75, 3) := by decide +kernel
theorem d_Mo_late_145 : decode b_Mo_late 145 = .ok (.iconst 1, 1) := by decide +kernel
theorem d_Mo_late_146 : decode b_Mo_late 146 = .ok (.isub, 1) := by decide +kernel
theorem d_Mo_late_147 : decode b_Mo_late 147 = .ok (.istore 7, 2) := by decide +kernel
theorem d_Mo_late_149 : decode b_Mo_late 149 = .ok (.iload 7, 2) := by decide +kernel
theorem d_Mo_late_151 : decode b_Mo_late 151 = .ok (.ifCond .lt 57, 3) := by decide +kernel
theorem d_Mo_late_154 : decode b_Mo_late 154 = .ok (.iload 6, 2) := by decide +kernel
theorem d_Mo_late_156 : decode b_Mo_late 156 = .ok (.lload_n 3, 1) := by decide +kernel
theorem d_Mo_late_157 : decode b_Mo_late 157 = .ok (.ldc2_w 143, 3) := by decide +kernel
theorem d_Mo_late_160 : decode b_Mo_late 160 = .ok (.lrem, 1) := by decide +kernel
theorem d_Mo_late_161 : decode b_Mo_late 161 = .ok (.ldc2_w 145, 3) := by decide +kernel
theorem d_Mo_late_164 : decode b_Mo_late 164 = .ok (.aload_n 0, 1) := by decide +kernel
theorem d_Mo_late_165 : decode b_Mo_late 165 = .ok (.getfield 63, 3) := by decide +kernel
theorem d_Mo_late_168 : decode b_Mo_late 168 = .ok (.iload 7, 2) := by decide +kernel
theorem d_Mo_late_170 : decode b_Mo_late 170 = .ok (.iaload, 1) := by decide +kernel
theorem d_Mo_late_171 : decode b_Mo_late 171 = .ok (.i2l, 1) := by decide +kernel
theorem d_Mo_late_172 : decode b_Mo_late 172 = .ok (.lmul, 1) := by decide +kernel
theorem d_Mo_late_173 : decode b_Mo_late 173 = .ok (.aload_n 0, 1) := by decide +kernel
theorem d_Mo_late_174 : decode b_Mo_late 174 = .ok (.getfield 60, 3) := by decide +kernel
theorem d_Mo_late_177 : decode b_Mo_late 177 = .ok (.iload 7, 2) := by decide +kernel
theorem d_Mo_late_179 : decode b_Mo_late 179 = .ok (.iaload, 1) := by decide +kernel
theorem d_Mo_late_180 : decode b_Mo_late 180 = .ok (.iconst 4, 1) := by decide +kernel
theorem d_Mo_late_181 : decode b_Mo_late 181 = .ok (.idiv, 1) := by decide +kernel
theorem d_Mo_late_182 : decode b_Mo_late 182 = .ok (.i2l, 1) := by decide +kernel
theorem d_Mo_late_183 : decode b_Mo_late 183 = .ok (.ladd, 1) := by decide +kernel
theorem d_Mo_late_184 : decode b_Mo_late 184 = .ok (.lcmp, 1) := by decide +kernel
theorem d_Mo_late_185 : decode b_Mo_late 185 = .ok (.ifCond .eq 7, 3) := by decide +kernel
theorem d_Mo_late_188 : decode b_Mo_late 188 = .ok (.iconst 1, 1) := by decide +kernel
theorem d_Mo_late_189 : decode b_Mo_late 189 = .ok (.goto 4, 3) := by decide +kernel
theorem d_Mo_late_192 : decode b_Mo_late 192 = .ok (.iconst 0, 1) := by decide +kernel
theorem d_Mo_late_193 : decode b_Mo_late 193 = .ok (.iadd, 1) := by decide +kernel
theorem d_Mo_late_194 : decode b_Mo_late 194 = .ok (.istore 6, 2) := by decide +kernel
theorem d_Mo_late_196 : decode b_Mo_late 196 = .ok (.lload_n 3, 1) := by decide +kernel
theorem d_Mo_late_197 : decode b_Mo_late 197 = .ok (.ldc2_w 143, 3) := by decide +kernel
theorem d_Mo_late_200 : decode b_Mo_late 200 = .ok (.ldiv, 1) := by decide +kernel
theorem d_Mo_late_201 : decode b_Mo_late 201 = .ok (.lstore_n 3, 1) := by decide +kernel
theorem d_Mo_late_202 : decode b_Mo_late 202 = .ok (.iinc 7 (-1), 3) := by decide +kernel
theorem d_Mo_late_205 : decode b_Mo_late 205 = .ok (.goto (-56), 3) := by decide +kernel
theorem d_Mo_late_208 : decode b_Mo_late 208 = .ok (.iload 6, 2) := by decide +kernel
theorem d_Mo_late_210 : decode b_Mo_late 210 = .ok (.ireturn, 1) := by decide +kernel
theorem d_Mo_lay_0 : decode b_Mo_lay 0 = .ok (.iconst 0, 1) := by decide +kernel
theorem d_Mo_lay_1 : decode b_Mo_lay 1 = .ok (.istore_n 3, 1) := by decide +kernel
theorem d_Mo_lay_2 : decode b_Mo_lay 2 = .ok (.aload_n 0, 1) := by decide +kernel
theorem d_Mo_lay_3 : decode b_Mo_lay 3 = .ok (.getfield 47, 3) := by decide +kernel
theorem d_Mo_lay_6 : decode b_Mo_lay 6 = .ok (.iconst 0, 1) := by decide +kernel
theorem d_Mo_lay_7 : decode b_Mo_lay 7 = .ok (.iconst (-1), 1) := by decide +kernel
theorem d_Mo_lay_8 : decode b_Mo_lay 8 = .ok (.iastore, 1) := by decide +kernel
theorem d_Mo_lay_9 : decode b_Mo_lay 9 = .ok (.iload_n 3, 1) := by decide +kernel
theorem d_Mo_lay_10 : decode b_Mo_lay 10 = .ok (.ifCond .lt 135, 3) := by decide +kernel
theorem d_Mo_lay_13 : decode b_Mo_lay 13 = .ok (.iload_n 3, 1) := by decide +kernel
theorem d_Mo_lay_14 : decode b_Mo_lay 14 = .ok (.aload_n 0, 1) := by decide +kernel
theorem d_Mo_lay_15 : decode b_Mo_lay 15 = .ok (.getfield 75, 3) := by decide +kernel
theorem d_Mo_lay_18 : decode b_Mo_lay 18 = .ok (.if_icmp .ge 127, 3) := by decide +kernel
theorem d_Mo_lay_21 : decode b_Mo_lay 21 = .ok (.aload_n 0, 1) := by decide +kernel
theorem d_Mo_lay_22 : decode b_Mo_lay 22 = .ok (.getfield 47, 3) := by decide +kernel
theorem d_Mo_lay_25 : decode b_Mo_lay 25 = .ok (.iload_n 3, 1) := by decide +kernel
theorem d_Mo_lay_26 : decode b_Mo_lay 26 = .ok (.iaload, 1) := by decide +kernel
theorem d_Mo_lay_27 : decode b_Mo_lay 27 = .ok (.iconst 1, 1) := by decide +kernel
theorem d_Mo_lay_28 : decode b_Mo_lay 28 = .ok (.iadd, 1) := by decide +kernel
theorem d_Mo_lay_29 : decode b_Mo_lay 29 = .ok (.istore 4, 2) := by decide +kernel
theorem d_Mo_lay_31 : decode b_Mo_lay 31 = .ok (.iload_n 2, 1) := by decide +kernel
theorem d_Mo_lay_32 : decode b_Mo_lay 32 = .ok (.iload_n 3, 1) := by decide +kernel
theorem d_Mo_lay_33 : decode b_Mo_lay 33 = .ok (.ishr, 1) := by decide +kernel
theorem d_Mo_lay_34 : decode b_Mo_lay 34 = .ok (.iconst 1, 1) := by decide +kernel
theorem d_Mo_lay_35 : decode b_Mo_lay 35 = .ok (.iand, 1) := by decide +kernel
theorem d_Mo_lay_36 : decode b_Mo_lay 36 = .ok (.iconst 1, 1) := by decide +kernel
theorem d_Mo_lay_37 : decode b_Mo_lay 37 = .ok (.if_icmp .ne 7, 3) := by decide +kernel
theorem d_Mo_lay_40 : decode b_Mo_lay 40 = .ok (.iconst 1, 1) := by decide +kernel
theorem d_Mo_lay_41 : decode b_Mo_lay 41 = .ok (.goto 4, 3) := by decide +kernel
theorem d_Mo_lay_44 : decode b_Mo_lay 44 = .ok (.iconst 0, 1) := by decide +kernel
theorem d_Mo_lay_45 : decode b_Mo_lay 45 = .ok (.istore 5, 2) := by decide +kernel
theorem d_Mo_lay_47 : decode b_Mo_lay 47 = .ok (.iload 4, 2) := by decide +kernel
theorem d_Mo_lay_49 : decode b_Mo_lay 49 = .ok (.iload 5, 2) := by decide +kernel
theorem d_Mo_lay_51 : decode b_Mo_lay 51 = .ok (.ifCond .eq 8, 3) := by decide +kernel
theorem d_Mo_lay_54 : decode b_Mo_lay 54 = .ok (.bipush 24, 2) := by decide +kernel
theorem d_Mo_lay_56 : decode b_Mo_lay 56 = .ok (.goto 4, 3) := by decide +kernel
theorem d_Mo_lay_59 : decode b_Mo_lay 59 = .ok (.iconst 1, 1) := by decide +kernel
theorem d_Mo_lay_60 : decode b_Mo_lay 60 = .ok (.if_icmp .ge 26, 3) := by decide +kernel
theorem d_Mo_lay_63 : decode b_Mo_lay 63 = .ok (.iload 5, 2) := by decide +kernel
theorem d_Mo_lay_65 : decode b_Mo_lay 65 = .ok (.ifCond .eq 21, 3) := by decide +kernel
theorem d_Mo_lay_68 : decode b_Mo_lay 68 = .ok (.aload_n 0, 1) := by decide +kernel
theorem d_Mo_lay_69 : decode b_Mo_lay 69 = .ok (.iload_n 1, 1) := by decide +kernel
theorem d_Mo_lay_70 : decode b_Mo_lay 70 = .ok (.iload_n 2, 1) := by decide +kernel
theorem d_Mo_lay_71 : decode b_Mo_lay 71 = .ok (.iload_n 3, 1) := by decide +kernel
theorem d_Mo_lay_72 : decode b_Mo_lay 72 = .ok (.iload 4, 2) := by decide +kernel
theorem d_Mo_lay_74 : decode b_Mo_lay 74 = .ok (.invokevirtual 96, 3) := by decide +kernel
theorem d_Mo_lay_77 : decode b_Mo_lay 77 = .ok (.ifCond .ne 9, 3) := by decide +kernel
theorem d_Mo_lay_80 : decode b_Mo_lay 80 = .ok (.iinc 4 1, 3) := by decide +kernel
theorem d_Mo_lay_83 : decode b_Mo_lay 83 = .ok (.goto (-36), 3) := by decide +kernel
theorem d_Mo_lay_86 : decode b_Mo_lay 86 = .ok (.iload 4, 2) := by decide +kernel
theorem d_Mo_lay_88 : decode b_Mo_lay 88 = .ok (.iload 5, 2) := by decide +kernel
theorem d_Mo_lay_90 : decode b_Mo_lay 90 = .ok (.ifCond .eq 8, 3) := by decide +kernel
theorem d_Mo_lay_93 : decode b_Mo_lay 93 = .ok (.bipush 24, 2) := by decide +kernel
theorem d_Mo_lay_95 : decode b_Mo_lay 95 = .ok (.goto 4, 3) := by decide +kernel
theorem d_Mo_lay_98 : decode b_Mo_lay 98 = .ok (.iconst 1, 1) := by decide +kernel
theorem d_Mo_lay_99 : decode b_Mo_lay 99 = .ok (.if_icmp .ge 7, 3) := by decide +kernel
theorem d_Mo_lay_102 : decode b_Mo_lay 102 = .ok (.iconst 1, 1) := by decide +kernel
theorem d_Mo_lay_103 : decode b_Mo_lay 103 = .ok (.goto 4, 3) := by decide +kernel
theorem d_Mo_lay_106 : decode b_Mo_lay 106 = .ok (.iconst 0, 1) := by decide +kernel
theorem d_Mo_lay_107 : decode b_Mo_lay 107 = .ok (.istore 6, 2) := by decide +kernel
theorem d_Mo_lay_109 : decode b_Mo_lay 109 = .ok (.aload_n 0, 1) := by decide +kernel
theorem d_Mo_lay_110 : decode b_Mo_lay 110 = .ok (.getfield 47, 3) := by decide +kernel
theorem d_Mo_lay_113 : decode b_Mo_lay 113 = .ok (.iload_n 3, 1) := by decide +kernel
theorem d_Mo_lay_114 : decode b_Mo_lay 114 = .ok (.iload 4, 2) := by decide +kernel
theorem d_Mo_lay_116 : decode b_Mo_lay 116 = .ok (.iastore, 1) := by decide +kernel
theorem d_Mo_lay_117 : decode b_Mo_lay 117 = .ok (.iload_n 3, 1) := by decide +kernel
theorem d_Mo_lay_118 : decode b_Mo_lay 118 = .ok (.iload 6, 2) := by decide +kernel
theorem d_Mo_lay_120 : decode b_Mo_lay 120 = .ok (.ifCond .eq 7, 3) := by decide +kernel
theorem d_Mo_lay_123 : decode b_Mo_lay 123 = .ok (.iconst 1, 1) := by decide +kernel
theorem d_Mo_lay_124 : decode b_Mo_lay 124 = .ok (.goto 4, 3) := by decide +kernel
theorem d_Mo_lay_127 : decode b_Mo_lay 127 = .ok (.iconst (-1), 1) := by decide +kernel
theorem d_Mo_lay_128 : decode b_Mo_lay 128 = .ok (.iadd, 1) := by decide +kernel
theorem d_Mo_lay_129 : decode b_Mo_lay 129 = .ok (.istore_n 3, 1) := by decide +kernel
theorem d_Mo_lay_130 : decode b_Mo_lay 130 = .ok (.iload 6, 2) := by decide +kernel
theorem d_Mo_lay_132 : decode b_Mo_lay 132 = .ok (.ifCond .eq 10, 3) := by decide +kernel
theorem d_Mo_lay_135 : decode b_Mo_lay 135 = .ok (.aload_n 0, 1) := by decide +kernel
theorem d_Mo_lay_136 : decode b_Mo_lay 136 = .ok (.getfield 47, 3) := by decide +kernel
theorem d_Mo_lay_139 : decode b_Mo_lay 139 = .ok (.iload_n 3, 1) := by decide +kernel
theorem d_Mo_lay_140 : decode b_Mo_lay 140 = .ok (.iconst (-1), 1) := by decide +kernel
theorem d_Mo_lay_141 : decode b_Mo_lay 141 = .ok (.iastore, 1) := by decide +kernel
theorem d_Mo_lay_142 : decode b_Mo_lay 142 = .ok (.goto (-133), 3) := by decide +kernel
theorem d_Mo_lay_145 : decode b_Mo_lay 145 = .ok (.iload_n 3, 1) := by decide +kernel
theorem d_Mo_lay_146 : decode b_Mo_lay 146 = .ok (.aload_n 0, 1) := by decide +kernel
theorem d_Mo_lay_147 : decode b_Mo_lay 147 = .ok (.getfield 75, 3) := by decide +kernel
theorem d_Mo_lay_150 : decode b_Mo_lay 150 = .ok (.if_icmp .ne 7, 3) := by decide +kernel
theorem d_Mo_lay_153 : decode b_Mo_lay 153 = .ok (.iconst 1, 1) := by decide +kernel
theorem d_Mo_lay_154 : decode b_Mo_lay 154 = .ok (.goto 4, 3) := by decide +kernel
theorem d_Mo_lay_157 : decode b_Mo_lay 157 = .ok (.iconst 0, 1) := by decide +kernel
theorem d_Mo_lay_158 : decode b_Mo_lay 158 = .ok (.ireturn, 1) := by decide +kernel
theorem d_Mo_mayLie_0 : decode b_Mo_mayLie 0 = .ok (.iload 4, 2) := by decide +kernel
theorem d_Mo_mayLie_2 : decode b_Mo_mayLie 2 = .ok (.iconst 3, 1) := by decide +kernel
theorem d_Mo_mayLie_3 : decode b_Mo_mayLie 3 = .ok (.idiv, 1) := by decide +kernel
theorem d_Mo_mayLie_4 : decode b_Mo_mayLie 4 = .ok (.istore 5, 2) := by decide +kernel
theorem d_Mo_mayLie_6 : decode b_Mo_mayLie 6 = .ok (.iload 4, 2) := by decide +kernel
theorem d_Mo_mayLie_8 : decode b_Mo_mayLie 8 = .ok (.iconst 3, 1) := by decide +kernel
theorem d_Mo_mayLie_9 : decode b_Mo_mayLie 9 = .ok (.irem, 1) := by decide +kernel
theorem d_Mo_mayLie_10 : decode b_Mo_mayLie 10 = .ok (.istore 6, 2) := by decide +kernel
theorem d_Mo_mayLie_12 : decode b_Mo_mayLie 12 = .ok (.iload 5, 2) := by decide +kernel
theorem d_Mo_mayLie_14 : decode b_Mo_mayLie 14 = .ok (.aload_n 0, 1) := by decide +kernel
theorem d_Mo_mayLie_15 : decode b_Mo_mayLie 15 = .ok (.getfield 32, 3) := by decide +kernel
theorem d_Mo_mayLie_18 : decode b_Mo_mayLie 18 = .ok (.iload_n 3, 1) := by decide +kernel
theorem d_Mo_mayLie_19 : decode b_Mo_mayLie 19 = .ok (.iaload, 1) := by decide +kernel
theorem d_Mo_mayLie_20 : decode b_Mo_mayLie 20 = .ok (.iadd, 1) := by decide +kernel
theorem d_Mo_mayLie_21 : decode b_Mo_mayLie 21 = .ok (.aload_n 0, 1) := by decide +kernel
theorem d_Mo_mayLie_22 : decode b_Mo_mayLie 22 = .ok (.getfield 13, 3) := by decide +kernel
theorem d_Mo_mayLie_25 : decode b_Mo_mayLie 25 = .ok (.iload_n 1, 1) := by decide +kernel
theorem d_Mo_mayLie_26 : decode b_Mo_mayLie 26 = .ok (.iaload, 1) := by decide +kernel
theorem d_Mo_mayLie_27 : decode b_Mo_mayLie 27 = .ok (.if_icmp .gt 21, 3) := by decide +kernel
theorem d_Mo_mayLie_30 : decode b_Mo_mayLie 30 = .ok (.iload 6, 2) := by decide +kernel
theorem d_Mo_mayLie_32 : decode b_Mo_mayLie 32 = .ok (.aload_n 0, 1) := by decide +kernel
theorem d_Mo_mayLie_33 : decode b_Mo_mayLie 33 = .ok (.getfield 35, 3) := by decide +kernel
theorem d_Mo_mayLie_36 : decode b_Mo_mayLie 36 = .ok (.iload_n 3, 1) := by decide +kernel
theorem d_Mo_mayLie_37 : decode b_Mo_mayLie 37 = .ok (.iaload, 1) := by decide +kernel
theorem d_Mo_mayLie_38 : decode b_Mo_mayLie 38 = .ok (.iadd, 1) := by decide +kernel
theorem d_Mo_mayLie_39 : decode b_Mo_mayLie 39 = .ok (.aload_n 0, 1) := by decide +kernel
theorem d_Mo_mayLie_40 : decode b_Mo_mayLie 40 = .ok (.getfield 17, 3) := by decide +kernel
theorem d_Mo_mayLie_43 : decode b_Mo_mayLie 43 = .ok (.iload_n 1, 1) := by decide +kernel
theorem d_Mo_mayLie_44 : decode b_Mo_mayLie 44 = .ok (.iaload, 1) := by decide +kernel
theorem d_Mo_mayLie_45 : decode b_Mo_mayLie 45 = .ok (.if_icmp .le 5, 3) := by decide +kernel
theorem d_Mo_mayLie_48 : decode b_Mo_mayLie 48 = .ok (.iconst 0, 1) := by decide +kernel
theorem d_Mo_mayLie_49 : decode b_Mo_mayLie 49 = .ok (.ireturn, 1) := by decide +kernel
theorem d_Mo_mayLie_50 : decode b_Mo_mayLie 50 = .ok (.aload_n 0, 1) := by decide +kernel
theorem d_Mo_mayLie_51 : decode b_Mo_mayLie 51 = .ok (.getfield 44, 3) := by decide +kernel
theorem d_Mo_mayLie_54 : decode b_Mo_mayLie 54 = .ok (.iload_n 3, 1) := by decide +kernel
theorem d_Mo_mayLie_55 : decode b_Mo_mayLie 55 = .ok (.iaload, 1) := by decide +kernel
theorem d_Mo_mayLie_56 : decode b_Mo_mayLie 56 = .ok (.ifCond .ne 8, 3) := by decide +kernel
theorem d_Mo_mayLie_59 : decode b_Mo_mayLie 59 = .ok (.iload 6, 2) := by decide +kernel
theorem d_Mo_mayLie_61 : decode b_Mo_mayLie 61 = .ok (.ifCond .gt 31, 3) := by decide +kernel
theorem d_Mo_mayLie_64 : decode b_Mo_mayLie 64 = .ok (.aload_n 0, 1) := by decide +kernel
theorem d_Mo_mayLie_65 : decode b_Mo_mayLie 65 = .ok (.getfield 44, 3) := by decide +kernel
theorem d_Mo_mayLie_68 : decode b_Mo_mayLie 68 = .ok (.iload_n 3, 1) := by decide +kernel
theorem d_Mo_mayLie_69 : decode b_Mo_mayLie 69 = .ok (.iaload, 1) := by decide +kernel
theorem d_Mo_mayLie_70 : decode b_Mo_mayLie 70 = .ok (.iconst 1, 1) := by decide +kernel
theorem d_Mo_mayLie_71 : decode b_Mo_mayLie 71 = .ok (.if_icmp .ne 23, 3) := by decide +kernel
theorem d_Mo_mayLie_74 : decode b_Mo_mayLie 74 = .ok (.iload 6, 2) := by decide +kernel
theorem d_Mo_mayLie_76 : decode b_Mo_mayLie 76 = .ok (.aload_n 0, 1) := by decide +kernel
theorem d_Mo_mayLie_77 : decode b_Mo_mayLie 77 = .ok (.getfield 35, 3) := by decide +kernel
theorem d_Mo_mayLie_80 : decode b_Mo_mayLie 80 = .ok (.iload_n 3, 1) := by decide +kernel
theorem d_Mo_mayLie_81 : decode b_Mo_mayLie 81 = .ok (.iaload, 1) := by decide +kernel
theorem d_Mo_mayLie_82 : decode b_Mo_mayLie 82 = .ok (.iadd, 1) := by decide +kernel
theorem d_Mo_mayLie_83 : decode b_Mo_mayLie 83 = .ok (.aload_n 0, 1) := by decide +kernel
theorem d_Mo_mayLie_84 : decode b_Mo_mayLie 84 = .ok (.getfield 17, 3) := by decide +kernel
theorem d_Mo_mayLie_87 : decode b_Mo_mayLie 87 = .ok (.iload_n 1, 1) := by decide +kernel
theorem d_Mo_mayLie_88 : decode b_Mo_mayLie 88 = .ok (.iaload, 1) := by decide +kernel
theorem d_Mo_mayLie_89 : decode b_Mo_mayLie 89 = .ok (.if_icmp .eq 5, 3) := by decide +kernel
theorem d_Mo_mayLie_92 : decode b_Mo_mayLie 92 = .ok (.iconst 0, 1) := by decide +kernel
theorem d_Mo_mayLie_93 : decode b_Mo_mayLie 93 = .ok (.ireturn, 1) := by decide +kernel
theorem d_Mo_mayLie_94 : decode b_Mo_mayLie 94 = .ok (.iconst 0, 1) := by decide +kernel
theorem d_Mo_mayLie_95 : decode b_Mo_mayLie 95 = .ok (.istore 7, 2) := by decide +kernel
theorem d_Mo_mayLie_97 : decode b_Mo_mayLie 97 = .ok (.iload 7, 2) := by decide +kernel
theorem d_Mo_mayLie_99 : decode b_Mo_mayLie 99 = .ok (.iload_n 3, 1) := by decide +kernel
theorem d_Mo_mayLie_100 : decode b_Mo_mayLie 100 = .ok (.if_icmp .ge 133, 3) := by decide +kernel
theorem d_Mo_mayLie_103 : decode b_Mo_mayLie 103 = .ok (.aload_n 0, 1) := by decide +kernel
theorem d_Mo_mayLie_104 : decode b_Mo_mayLie 104 = .ok (.getfield 47, 3) := by decide +kernel
theorem d_Mo_mayLie_107 : decode b_Mo_mayLie 107 = .ok (.iload 7, 2) := by decide +kernel
theorem d_Mo_mayLie_109 : decode b_Mo_mayLie 109 = .ok (.iaload, 1) := by decide +kernel
theorem d_Mo_mayLie_110 : decode b_Mo_mayLie 110 = .ok (.iconst 3, 1) := by decide +kernel
theorem d_Mo_mayLie_111 : decode b_Mo_mayLie 111 = .ok (.idiv, 1) := by decide +kernel
theorem d_Mo_mayLie_112 : decode b_Mo_mayLie 112 = .ok (.istore 8, 2) := by decide +kernel
theorem d_Mo_mayLie_114 : decode b_Mo_mayLie 114 = .ok (.aload_n 0, 1) := by decide +kernel
theorem d_Mo_mayLie_115 : decode b_Mo_mayLie 115 = .ok (.getfield 47, 3) := by decide +kernel
theorem d_Mo_mayLie_118 : decode b_Mo_mayLie 118 = .ok (.iload 7, 2) := by decide +kernel
theorem d_Mo_mayLie_120 : decode b_Mo_mayLie 120 = .ok (.iaload, 1) := by decide +kernel
theorem d_Mo_mayLie_121 : decode b_Mo_mayLie 121 = .ok (.iconst 3, 1) := by decide +kernel
theorem d_Mo_mayLie_122 : decode b_Mo_mayLie 122 = .ok (.irem, 1) := by decide +kernel
theorem d_Mo_mayLie_123 : decode b_Mo_mayLie 123 = .ok (.istore 9, 2) := by decide +kernel
theorem d_Mo_mayLie_125 : decode b_Mo_mayLie 125 = .ok (.iload 5, 2) := by decide +kernel
theorem d_Mo_mayLie_127 : decode b_Mo_mayLie 127 = .ok (.aload_n 0, 1) := by decide +kernel
theorem d_Mo_mayLie_128 : decode b_Mo_mayLie 128 = .ok (.getfield 32, 3) := by decide +kernel
theorem d_Mo_mayLie_131 : decode b_Mo_mayLie 131 = .ok (.iload_n 3, 1) := by decide +kernel
theorem d_Mo_mayLie_132 : decode b_Mo_mayLie 132 = .ok (.iaload, 1) := by decide +kernel
theorem d_Mo_mayLie_133 : decode b_Mo_mayLie 133 = .ok (.iadd, 1) := by decide +kernel
theorem d_Mo_mayLie_134 : decode b_Mo_mayLie 134 = .ok (.aload_n 0, 1) := by decide +kernel
theorem d_Mo_mayLie_135 : decode b_Mo_mayLie 135 = .ok (.getfield 93, 3) := by decide +kernel
theorem d_Mo_mayLie_138 : decode b_Mo_mayLie 138 = .ok (.iadd, 1) := by decide +kernel
theorem d_Mo_mayLie_139 : decode b_Mo_mayLie 139 = .ok (.iload 8, 2) := by decide +kernel
theorem d_Mo_mayLie_141 : decode b_Mo_mayLie 141 = .ok (.if_icmp .le 62, 3) := by decide +kernel
theorem d_Mo_mayLie_144 : decode b_Mo_mayLie 144 = .ok (.iload 8, 2) := by decide +kernel
theorem d_Mo_mayLie_146 : decode b_Mo_mayLie 146 = .ok (.aload_n 0, 1) := by decide +kernel
theorem d_Mo_mayLie_147 : decode b_Mo_mayLie 147 = .ok (.getfield 32, 3) := by decide +kernel
theorem d_Mo_mayLie_150 : decode b_Mo_mayLie 150 = .ok (.iload 7, 2) := by decide +kernel
theorem d_Mo_mayLie_152 : decode b_Mo_mayLie 152 = .ok (.iaload, 1) := by decide +kernel
theorem d_Mo_mayLie_153 : decode b_Mo_mayLie 153 = .ok (.iadd, 1) := by decide +kernel
theorem d_Mo_mayLie_154 : decode b_Mo_mayLie 154 = .ok (.aload_n 0, 1) := by decide +kernel
theorem d_Mo_mayLie_155 : decode b_Mo_mayLie 155 = .ok (.getfield 93, 3) := by decide +kernel
theorem d_Mo_mayLie_158 : decode b_Mo_mayLie 158 = .ok (.iadd, 1) := by decide +kernel
theorem d_Mo_mayLie_159 : decode b_Mo_mayLie 159 = .ok (.iload 5, 2) := by decide +kernel
theorem d_Mo_mayLie_161 : decode b_Mo_mayLie 161 = .ok (.if_icmp .le 42, 3) := by decide +kernel
theorem d_Mo_mayLie_164 : decode b_Mo_mayLie 164 = .ok (.iload 6, 2) := by decide +kernel
theorem d_Mo_mayLie_166 : decode b_Mo_mayLie 166 = .ok (.aload_n 0, 1) := by decide +kernel
theorem d_Mo_mayLie_167 : decode b_Mo_mayLie 167 = .ok (.getfield 35, 3) := by decide +kernel
theorem d_Mo_mayLie_170 : decode b_Mo_mayLie 170 = .ok (.iload_n 3, 1) := by decide +kernel
theorem d_Mo_mayLie_171 : decode b_Mo_mayLie 171 = .ok (.iaload, 1) := by decide +kernel
theorem d_Mo_mayLie_172 : decode b_Mo_mayLie 172 = .ok (.iadd, 1) := by decide +kernel
theorem d_Mo_mayLie_173 : decode b_Mo_mayLie 173 = .ok (.aload_n 0, 1) := by decide +kernel
theorem d_Mo_mayLie_174 : decode b_Mo_mayLie 174 = .ok (.getfield 93, 3) := by decide +kernel
theorem d_Mo_mayLie_177 : decode b_Mo_mayLie 177 = .ok (.iadd, 1) := by decide +kernel
theorem d_Mo_mayLie_178 : decode b_Mo_mayLie 178 = .ok (.iload 9, 2) := by decide +kernel
theorem d_Mo_mayLie_180 : decode b_Mo_mayLie 180 = .ok (.if_icmp .le 23, 3) := by decide +kernel
theorem d_Mo_mayLie_183 : decode b_Mo_mayLie 183 = .ok (.iload 9, 2) := by decide +kernel
theorem d_Mo_mayLie_185 : decode b_Mo_mayLie 185 = .ok (.aload_n 0, 1) := by decide +kernel
theorem d_Mo_mayLie_186 : decode b_Mo_mayLie 186 = .ok (.getfield 35, 3) := by decide +kernel
theorem d_Mo_mayLie_189 : decode b_Mo_mayLie 189 = .ok (.iload 7, 2) := by decide +kernel
theorem d_Mo_mayLie_191 : decode b_Mo_mayLie 191 = .ok (.iaload, 1) := by decide +kernel
theorem d_Mo_mayLie_192 : decode b_Mo_mayLie 192 = .ok (.iadd, 1) := by decide +kernel
theorem d_Mo_mayLie_193 : decode b_Mo_mayLie 193 = .ok (.aload_n 0, 1) := by decide +kernel
theorem d_Mo_mayLie_194 : decode b_Mo_mayLie 194 = .ok (.getfield 93, 3) := by decide +kernel
theorem d_Mo_mayLie_197 : decode b_Mo_mayLie 197 = .ok (.iadd, 1) := by decide +kernel
theorem d_Mo_mayLie_198 : decode b_Mo_mayLie 198 = .ok (.iload 6, 2) := by decide +kernel
theorem d_Mo_mayLie_200 : decode b_Mo_mayLie 200 = .ok (.if_icmp .gt 7, 3) := by decide +kernel
theorem d_Mo_mayLie_203 : decode b_Mo_mayLie 203 = .ok (.iconst 1, 1) := by decide +kernel
theorem d_Mo_mayLie_204 : decode b_Mo_mayLie 204 = .ok (.goto 4, 3) := by decide +kernel
theorem d_Mo_mayLie_207 : decode b_Mo_mayLie 207 = .ok (.iconst 0, 1) := by decide +kernel
theorem d_Mo_mayLie_208 : decode b_Mo_mayLie 208 = .ok (.istore 10, 2) := by decide +kernel
theorem d_Mo_mayLie_210 : decode b_Mo_mayLie 210 = .ok (.iload_n 2, 1) := by decide +kernel
theorem d_Mo_mayLie_211 : decode b_Mo_mayLie 211 = .ok (.iload 7, 2) := by decide +kernel
theorem d_Mo_mayLie_213 : decode b_Mo_mayLie 213 = .ok (.ishr, 1) := by decide +kernel
theorem d_Mo_mayLie_214 : decode b_Mo_mayLie 214 = .ok (.iconst 1, 1) := by decide +kernel
theorem d_Mo_mayLie_215 : decode b_Mo_mayLie 215 = .ok (.iand, 1) := by decide +kernel
theorem d_Mo_mayLie_216 : decode b_Mo_mayLie 216 = .ok (.iconst 1, 1) := by decide +kernel
theorem d_Mo_mayLie_217 : decode b_Mo_mayLie 217 = .ok (.if_icmp .ne 10, 3) := by decide +kernel
theorem d_Mo_mayLie_220 : decode b_Mo_mayLie 220 = .ok (.iload 10, 2) := by decide +kernel
theorem d_Mo_mayLie_222 : decode b_Mo_mayLie 222 = .ok (.ifCond .ne 5, 3) := by decide +kernel
theorem d_Mo_mayLie_225 : decode b_Mo_mayLie 225 = .ok (.iconst 0, 1) := by decide +kernel
theorem d_Mo_mayLie_226 : decode b_Mo_mayLie 226 = .ok (.ireturn, 1) := by decide +kernel
theorem d_Mo_mayLie_227 : decode b_Mo_mayLie 227 = .ok (.iinc 7 1, 3) := by decide +kernel
theorem d_Mo_mayLie_230 : decode b_Mo_mayLie 230 = .ok (.goto (-133), 3) := by decide +kernel
theorem d_Mo_mayLie_233 : decode b_Mo_mayLie 233 = .ok (.iconst 1, 1) := by decide +kernel
theorem d_Mo_mayLie_234 : decode b_Mo_mayLie 234 = .ok (.ireturn, 1) := by decide +kernel
theorem d_Mo_of_0 : decode b_Mo_of 0 = .ok (.aload_n 0, 1) := by decide +kernel
theorem d_Mo_of_1 : decode b_Mo_of 1 = .ok (.aload_n 0, 1) := by decide +kernel
theorem d_Mo_of_2 : decode b_Mo_of 2 = .ok (.iload_n 1, 1) := by decide +kernel
theorem d_Mo_of_3 : decode b_Mo_of 3 = .ok (.invokevirtual 137, 3) := by decide +kernel
theorem d_Mo_of_6 : decode b_Mo_of 6 = .ok (.ifCond .eq 13, 3) := by decide +kernel
theorem d_Mo_of_9 : decode b_Mo_of 9 = .ok (.iload_n 2, 1) := by decide +kernel
theorem d_Mo_of_10 : decode b_Mo_of 10 = .ok (.iconst 0, 1) := by decide +kernel
theorem d_Mo_of_11 : decode b_Mo_of 11 = .ok (.bipush 6, 2) := by decide +kernel
theorem d_Mo_of_13 : decode b_Mo_of 13 = .ok (.invokestatic 78, 3) := by decide +kernel
theorem d_Mo_of_16 : decode b_Mo_of 16 = .ok (.ifCond .ne 7, 3) := by decide +kernel
theorem d_Mo_of_19 : decode b_Mo_of 19 = .ok (.iconst 1, 1) := by decide +kernel
theorem d_Mo_of_20 : decode b_Mo_of 20 = .ok (.goto 15, 3) := by decide +kernel
theorem d_Mo_of_23 : decode b_Mo_of 23 = .ok (.aload_n 0, 1) := by decide +kernel
theorem d_Mo_of_24 : decode b_Mo_of 24 = .ok (.getfield 82, 3) := by decide +kernel
theorem d_Mo_of_27 : decode b_Mo_of 27 = .ok (.ifCond .eq 7, 3) := by decide +kernel
theorem d_Mo_of_30 : decode b_Mo_of 30 = .ok (.iconst 0, 1) := by decide +kernel
theorem d_Mo_of_31 : decode b_Mo_of 31 = .ok (.goto 4, 3) := by decide +kernel
theorem d_Mo_of_34 : decode b_Mo_of 34 = .ok (.iconst 2, 1) := by decide +kernel
theorem d_Mo_of_35 : decode b_Mo_of 35 = .ok (.putfield 69, 3) := by decide +kernel
theorem d_Mo_of_38 : decode b_Mo_of 38 = .ok (.aload_n 0, 1) := by decide +kernel
theorem d_Mo_of_39 : decode b_Mo_of 39 = .ok (.getfield 69, 3) := by decide +kernel
theorem d_Mo_of_42 : decode b_Mo_of 42 = .ok (.ifCond .le 5, 3) := by decide +kernel
theorem d_Mo_of_45 : decode b_Mo_of 45 = .ok (.iconst 0, 1) := by decide +kernel
theorem d_Mo_of_46 : decode b_Mo_of 46 = .ok (.ireturn, 1) := by decide +kernel
theorem d_Mo_of_47 : decode b_Mo_of 47 = .ok (.aload_n 0, 1) := by decide +kernel
theorem d_Mo_of_48 : decode b_Mo_of 48 = .ok (.aload_n 0, 1) := by decide +kernel
theorem d_Mo_of_49 : decode b_Mo_of 49 = .ok (.getfield 60, 3) := by decide +kernel
theorem d_Mo_of_52 : decode b_Mo_of 52 = .ok (.iload_n 1, 1) := by decide +kernel
theorem d_Mo_of_53 : decode b_Mo_of 53 = .ok (.iaload, 1) := by decide +kernel
theorem d_Mo_of_54 : decode b_Mo_of 54 = .ok (.iconst 4, 1) := by decide +kernel
theorem d_Mo_of_55 : decode b_Mo_of 55 = .ok (.idiv, 1) := by decide +kernel
theorem d_Mo_of_56 : decode b_Mo_of 56 = .ok (.aload_n 0, 1) := by decide +kernel
theorem d_Mo_of_57 : decode b_Mo_of 57 = .ok (.aload_n 0, 1) := by decide +kernel
theorem d_Mo_of_58 : decode b_Mo_of 58 = .ok (.getfield 60, 3) := by decide +kernel
theorem d_Mo_of_61 : decode b_Mo_of 61 = .ok (.iload_n 1, 1) := by decide +kernel
theorem d_Mo_of_62 : decode b_Mo_of 62 = .ok (.iaload, 1) := by decide +kernel
theorem d_Mo_of_63 : decode b_Mo_of 63 = .ok (.invokevirtual 140, 3) := by decide +kernel
theorem d_Mo_of_66 : decode b_Mo_of 66 = .ok (.invokevirtual 100, 3) := by decide +kernel
theorem d_Mo_of_69 : decode b_Mo_of 69 = .ok (.istore_n 3, 1) := by decide +kernel
theorem d_Mo_of_70 : decode b_Mo_of 70 = .ok (.iload_n 2, 1) := by decide +kernel
theorem d_Mo_of_71 : decode b_Mo_of 71 = .ok (.tableswitch 110 0 5 #[37, 46, 55, 62, 79, 96], 37) := by decide +kernel
theorem d_Mo_of_108 : decode b_Mo_of 108 = .ok (.aload_n 0, 1) := by decide +kernel
theorem d_Mo_of_109 : decode b_Mo_of 109 = .ok (.getfield 60, 3) := by decide +kernel
theorem d_Mo_of_112 : decode b_Mo_of 112 = .ok (.iload_n 1, 1) := by decide +kernel
theorem d_Mo_of_113 : decode b_Mo_of 113 = .ok (.iaload, 1) := by decide +kernel
theorem d_Mo_of_114 : decode b_Mo_of 114 = .ok (.iconst 4, 1) := by decide +kernel
theorem d_Mo_of_115 : decode b_Mo_of 115 = .ok (.idiv, 1) := by decide +kernel
theorem d_Mo_of_116 : decode b_Mo_of 116 = .ok (.ireturn, 1) := by decide +kernel
theorem d_Mo_of_117 : decode b_Mo_of 117 = .ok (.aload_n 0, 1) := by decide +kernel
theorem d_Mo_of_118 : decode b_Mo_of 118 = .ok (.getfield 60, 3) := by decide +kernel
theorem d_Mo_of_121 : decode b_Mo_of 121 = .ok (.iload_n 1, 1) := by decide +kernel
theorem d_Mo_of_122 : decode b_Mo_of 122 = .ok (.iaload, 1) := by decide +kernel
theorem d_Mo_of_123 : decode b_Mo_of 123 = .ok (.iconst 4, 1) := by decide +kernel
theorem d_Mo_of_124 : decode b_Mo_of 124 = .ok (.irem, 1) := by decide +kernel
theorem d_Mo_of_125 : decode b_Mo_of 125 = .ok (.ireturn, 1) := by decide +kernel
theorem d_Mo_of_126 : decode b_Mo_of 126 = .ok (.aload_n 0, 1) := by decide +kernel
theorem d_Mo_of_127 : decode b_Mo_of 127 = .ok (.getfield 63, 3) := by decide +kernel
theorem d_Mo_of_130 : decode b_Mo_of 130 = .ok (.iload_n 1, 1) := by decide +kernel
theorem d_Mo_of_131 : decode b_Mo_of 131 = .ok (.iaload, 1) := by decide +kernel
theorem d_Mo_of_132 : decode b_Mo_of 132 = .ok (.ireturn, 1) := by decide +kernel
