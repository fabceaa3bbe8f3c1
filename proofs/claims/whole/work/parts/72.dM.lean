theorem d_M_all_0 : decode b_M_all 0 = .ok (.aload_n 0, 1) := by decide +kernel
theorem d_M_all_1 : decode b_M_all 1 = .ok (.getfield 76, 3) := by decide +kernel
theorem d_M_all_4 : decode b_M_all 4 = .ok (.ireturn, 1) := by decide +kernel
theorem d_M_border_0 : decode b_M_border 0 = .ok (.aload_n 0, 1) := by decide +kernel
theorem d_M_border_1 : decode b_M_border 1 = .ok (.iload_n 1, 1) := by decide +kernel
theorem d_M_border_2 : decode b_M_border 2 = .ok (.invokevirtual 94, 3) := by decide +kernel
theorem d_M_border_5 : decode b_M_border 5 = .ok (.ifCond .eq 11, 3) := by decide +kernel
theorem d_M_border_8 : decode b_M_border 8 = .ok (.aload_n 0, 1) := by decide +kernel
theorem d_M_border_9 : decode b_M_border 9 = .ok (.iload_n 1, 1) := by decide +kernel
theorem d_M_border_10 : decode b_M_border 10 = .ok (.invokevirtual 110, 3) := by decide +kernel
theorem d_M_border_13 : decode b_M_border 13 = .ok (.goto 4, 3) := by decide +kernel
theorem d_M_border_16 : decode b_M_border 16 = .ok (.iconst (-1), 1) := by decide +kernel
theorem d_M_border_17 : decode b_M_border 17 = .ok (.ireturn, 1) := by decide +kernel
theorem d_M_chainOf_0 : decode b_M_chainOf 0 = .ok (.lload_n 2, 1) := by decide +kernel
theorem d_M_chainOf_1 : decode b_M_chainOf 1 = .ok (.lload_n 2, 1) := by decide +kernel
theorem d_M_chainOf_2 : decode b_M_chainOf 2 = .ok (.bipush 17, 2) := by decide +kernel
theorem d_M_chainOf_4 : decode b_M_chainOf 4 = .ok (.lshr, 1) := by decide +kernel
theorem d_M_chainOf_5 : decode b_M_chainOf 5 = .ok (.lxor, 1) := by decide +kernel
theorem d_M_chainOf_6 : decode b_M_chainOf 6 = .ok (.ldc2_w 59, 3) := by decide +kernel
theorem d_M_chainOf_9 : decode b_M_chainOf 9 = .ok (.lmul, 1) := by decide +kernel
theorem d_M_chainOf_10 : decode b_M_chainOf 10 = .ok (.iload_n 1, 1) := by decide +kernel
theorem d_M_chainOf_11 : decode b_M_chainOf 11 = .ok (.i2l, 1) := by decide +kernel
theorem d_M_chainOf_12 : decode b_M_chainOf 12 = .ok (.ladd, 1) := by decide +kernel
theorem d_M_chainOf_13 : decode b_M_chainOf 13 = .ok (.ldc2_w 61, 3) := by decide +kernel
theorem d_M_chainOf_16 : decode b_M_chainOf 16 = .ok (.iload_n 0, 1) := by decide +kernel
theorem d_M_chainOf_17 : decode b_M_chainOf 17 = .ok (.i2l, 1) := by decide +kernel
theorem d_M_chainOf_18 : decode b_M_chainOf 18 = .ok (.lmul, 1) := by decide +kernel
theorem d_M_chainOf_19 : decode b_M_chainOf 19 = .ok (.ladd, 1) := by decide +kernel
theorem d_M_chainOf_20 : decode b_M_chainOf 20 = .ok (.lstore 4, 2) := by decide +kernel
theorem d_M_chainOf_22 : decode b_M_chainOf 22 = .ok (.lload 4, 2) := by decide +kernel
theorem d_M_chainOf_24 : decode b_M_chainOf 24 = .ok (.ldc2_w 65, 3) := by decide +kernel
theorem d_M_chainOf_27 : decode b_M_chainOf 27 = .ok (.land, 1) := by decide +kernel
theorem d_M_chainOf_28 : decode b_M_chainOf 28 = .ok (.ldc2_w 67, 3) := by decide +kernel
theorem d_M_chainOf_31 : decode b_M_chainOf 31 = .ok (.lrem, 1) := by decide +kernel
theorem d_M_chainOf_32 : decode b_M_chainOf 32 = .ok (.l2i, 1) := by decide +kernel
theorem d_M_chainOf_33 : decode b_M_chainOf 33 = .ok (.ireturn, 1) := by decide +kernel
theorem d_M_clear_0 : decode b_M_clear 0 = .ok (.aload_n 0, 1) := by decide +kernel
theorem d_M_clear_1 : decode b_M_clear 1 = .ok (.iload_n 1, 1) := by decide +kernel
theorem d_M_clear_2 : decode b_M_clear 2 = .ok (.lload_n 2, 1) := by decide +kernel
theorem d_M_clear_3 : decode b_M_clear 3 = .ok (.iload 4, 2) := by decide +kernel
theorem d_M_clear_5 : decode b_M_clear 5 = .ok (.iload 5, 2) := by decide +kernel
theorem d_M_clear_7 : decode b_M_clear 7 = .ok (.invokevirtual 125, 3) := by decide +kernel
theorem d_M_clear_10 : decode b_M_clear 10 = .ok (.ifCond .ne 5, 3) := by decide +kernel
theorem d_M_clear_13 : decode b_M_clear 13 = .ok (.iconst (-1), 1) := by decide +kernel
theorem d_M_clear_14 : decode b_M_clear 14 = .ok (.ireturn, 1) := by decide +kernel
theorem d_M_clear_15 : decode b_M_clear 15 = .ok (.iconst 0, 1) := by decide +kernel
theorem d_M_clear_16 : decode b_M_clear 16 = .ok (.istore 6, 2) := by decide +kernel
theorem d_M_clear_18 : decode b_M_clear 18 = .ok (.iconst 0, 1) := by decide +kernel
theorem d_M_clear_19 : decode b_M_clear 19 = .ok (.istore 7, 2) := by decide +kernel
theorem d_M_clear_21 : decode b_M_clear 21 = .ok (.iload 7, 2) := by decide +kernel
theorem d_M_clear_23 : decode b_M_clear 23 = .ok (.iload 4, 2) := by decide +kernel
theorem d_M_clear_25 : decode b_M_clear 25 = .ok (.if_icmp .ge 63, 3) := by decide +kernel
theorem d_M_clear_28 : decode b_M_clear 28 = .ok (.aload_n 0, 1) := by decide +kernel
theorem d_M_clear_29 : decode b_M_clear 29 = .ok (.iload_n 1, 1) := by decide +kernel
theorem d_M_clear_30 : decode b_M_clear 30 = .ok (.lload_n 2, 1) := by decide +kernel
theorem d_M_clear_31 : decode b_M_clear 31 = .ok (.iload 7, 2) := by decide +kernel
theorem d_M_clear_33 : decode b_M_clear 33 = .ok (.i2l, 1) := by decide +kernel
theorem d_M_clear_34 : decode b_M_clear 34 = .ok (.iload 5, 2) := by decide +kernel
theorem d_M_clear_36 : decode b_M_clear 36 = .ok (.i2l, 1) := by decide +kernel
theorem d_M_clear_37 : decode b_M_clear 37 = .ok (.lmul, 1) := by decide +kernel
theorem d_M_clear_38 : decode b_M_clear 38 = .ok (.ladd, 1) := by decide +kernel
theorem d_M_clear_39 : decode b_M_clear 39 = .ok (.invokevirtual 106, 3) := by decide +kernel
theorem d_M_clear_42 : decode b_M_clear 42 = .ok (.istore 8, 2) := by decide +kernel
theorem d_M_clear_44 : decode b_M_clear 44 = .ok (.iload 6, 2) := by decide +kernel
theorem d_M_clear_46 : decode b_M_clear 46 = .ok (.iload 8, 2) := by decide +kernel
theorem d_M_clear_48 : decode b_M_clear 48 = .ok (.ifCond .le 17, 3) := by decide +kernel
theorem d_M_clear_51 : decode b_M_clear 51 = .ok (.aload_n 0, 1) := by decide +kernel
theorem d_M_clear_52 : decode b_M_clear 52 = .ok (.getfield 17, 3) := by decide +kernel
theorem d_M_clear_55 : decode b_M_clear 55 = .ok (.iload 8, 2) := by decide +kernel
theorem d_M_clear_57 : decode b_M_clear 57 = .ok (.baload, 1) := by decide +kernel
theorem d_M_clear_58 : decode b_M_clear 58 = .ok (.ifCond .le 7, 3) := by decide +kernel
theorem d_M_clear_61 : decode b_M_clear 61 = .ok (.iconst 1, 1) := by decide +kernel
theorem d_M_clear_62 : decode b_M_clear 62 = .ok (.goto 4, 3) := by decide +kernel
theorem d_M_clear_65 : decode b_M_clear 65 = .ok (.iconst 0, 1) := by decide +kernel
theorem d_M_clear_66 : decode b_M_clear 66 = .ok (.iadd, 1) := by decide +kernel
theorem d_M_clear_67 : decode b_M_clear 67 = .ok (.istore 6, 2) := by decide +kernel
theorem d_M_clear_69 : decode b_M_clear 69 = .ok (.iload 8, 2) := by decide +kernel
theorem d_M_clear_71 : decode b_M_clear 71 = .ok (.ifCond .le 11, 3) := by decide +kernel
theorem d_M_clear_74 : decode b_M_clear 74 = .ok (.aload_n 0, 1) := by decide +kernel
theorem d_M_clear_75 : decode b_M_clear 75 = .ok (.iload 8, 2) := by decide +kernel
theorem d_M_clear_77 : decode b_M_clear 77 = .ok (.iconst 0, 1) := by decide +kernel
theorem d_M_clear_78 : decode b_M_clear 78 = .ok (.lconst 0, 1) := by decide +kernel
theorem d_M_clear_79 : decode b_M_clear 79 = .ok (.invokevirtual 90, 3) := by decide +kernel
theorem d_M_clear_82 : decode b_M_clear 82 = .ok (.iinc 7 1, 3) := by decide +kernel
theorem d_M_clear_85 : decode b_M_clear 85 = .ok (.goto (-64), 3) := by decide +kernel
theorem d_M_clear_88 : decode b_M_clear 88 = .ok (.iload 6, 2) := by decide +kernel
theorem d_M_clear_90 : decode b_M_clear 90 = .ok (.ireturn, 1) := by decide +kernel
theorem d_M_come_0 : decode b_M_come 0 = .ok (.aload_n 0, 1) := by decide +kernel
theorem d_M_come_1 : decode b_M_come 1 = .ok (.dup, 1) := by decide +kernel
theorem d_M_come_2 : decode b_M_come 2 = .ok (.getfield 76, 3) := by decide +kernel
theorem d_M_come_5 : decode b_M_come 5 = .ok (.iconst 1, 1) := by decide +kernel
theorem d_M_come_6 : decode b_M_come 6 = .ok (.iadd, 1) := by decide +kernel
theorem d_M_come_7 : decode b_M_come 7 = .ok (.putfield 76, 3) := by decide +kernel
theorem d_M_come_10 : decode b_M_come 10 = .ok (.aload_n 0, 1) := by decide +kernel
theorem d_M_come_11 : decode b_M_come 11 = .ok (.getfield 76, 3) := by decide +kernel
theorem d_M_come_14 : decode b_M_come 14 = .ok (.aload_n 0, 1) := by decide +kernel
theorem d_M_come_15 : decode b_M_come 15 = .ok (.getfield 23, 3) := by decide +kernel
theorem d_M_come_18 : decode b_M_come 18 = .ok (.arraylength, 1) := by decide +kernel
theorem d_M_come_19 : decode b_M_come 19 = .ok (.if_icmp .ne 80, 3) := by decide +kernel
theorem d_M_come_22 : decode b_M_come 22 = .ok (.aload_n 0, 1) := by decide +kernel
theorem d_M_come_23 : decode b_M_come 23 = .ok (.aload_n 0, 1) := by decide +kernel
theorem d_M_come_24 : decode b_M_come 24 = .ok (.getfield 7, 3) := by decide +kernel
theorem d_M_come_27 : decode b_M_come 27 = .ok (.invokestatic 79, 3) := by decide +kernel
theorem d_M_come_30 : decode b_M_come 30 = .ok (.putfield 7, 3) := by decide +kernel
theorem d_M_come_33 : decode b_M_come 33 = .ok (.aload_n 0, 1) := by decide +kernel
theorem d_M_come_34 : decode b_M_come 34 = .ok (.aload_n 0, 1) := by decide +kernel
theorem d_M_come_35 : decode b_M_come 35 = .ok (.getfield 13, 3) := by decide +kernel
theorem d_M_come_38 : decode b_M_come 38 = .ok (.invokestatic 83, 3) := by decide +kernel
theorem d_M_come_41 : decode b_M_come 41 = .ok (.putfield 13, 3) := by decide +kernel
theorem d_M_come_44 : decode b_M_come 44 = .ok (.aload_n 0, 1) := by decide +kernel
theorem d_M_come_45 : decode b_M_come 45 = .ok (.aload_n 0, 1) := by decide +kernel
theorem d_M_come_46 : decode b_M_come 46 = .ok (.getfield 17, 3) := by decide +kernel
theorem d_M_come_49 : decode b_M_come 49 = .ok (.invokestatic 79, 3) := by decide +kernel
theorem d_M_come_52 : decode b_M_come 52 = .ok (.putfield 17, 3) := by decide +kernel
theorem d_M_come_55 : decode b_M_come 55 = .ok (.aload_n 0, 1) := by decide +kernel
theorem d_M_come_56 : decode b_M_come 56 = .ok (.aload_n 0, 1) := by decide +kernel
theorem d_M_come_57 : decode b_M_come 57 = .ok (.getfield 20, 3) := by decide +kernel
theorem d_M_come_60 : decode b_M_come 60 = .ok (.invokestatic 83, 3) := by decide +kernel
theorem d_M_come_63 : decode b_M_come 63 = .ok (.putfield 20, 3) := by decide +kernel
theorem d_M_come_66 : decode b_M_come 66 = .ok (.aload_n 0, 1) := by decide +kernel
theorem d_M_come_67 : decode b_M_come 67 = .ok (.aload_n 0, 1) := by decide +kernel
theorem d_M_come_68 : decode b_M_come 68 = .ok (.getfield 23, 3) := by decide +kernel
theorem d_M_come_71 : decode b_M_come 71 = .ok (.invokestatic 55, 3) := by decide +kernel
theorem d_M_come_74 : decode b_M_come 74 = .ok (.putfield 23, 3) := by decide +kernel
theorem d_M_come_77 : decode b_M_come 77 = .ok (.aload_n 0, 1) := by decide +kernel
theorem d_M_come_78 : decode b_M_come 78 = .ok (.aload_n 0, 1) := by decide +kernel
theorem d_M_come_79 : decode b_M_come 79 = .ok (.getfield 27, 3) := by decide +kernel
theorem d_M_come_82 : decode b_M_come 82 = .ok (.invokestatic 55, 3) := by decide +kernel
theorem d_M_come_85 : decode b_M_come 85 = .ok (.putfield 27, 3) := by decide +kernel
theorem d_M_come_88 : decode b_M_come 88 = .ok (.aload_n 0, 1) := by decide +kernel
theorem d_M_come_89 : decode b_M_come 89 = .ok (.aload_n 0, 1) := by decide +kernel
theorem d_M_come_90 : decode b_M_come 90 = .ok (.getfield 30, 3) := by decide +kernel
theorem d_M_come_93 : decode b_M_come 93 = .ok (.invokestatic 55, 3) := by decide +kernel
theorem d_M_come_96 : decode b_M_come 96 = .ok (.putfield 30, 3) := by decide +kernel
theorem d_M_come_99 : decode b_M_come 99 = .ok (.aload_n 0, 1) := by decide +kernel
theorem d_M_come_100 : decode b_M_come 100 = .ok (.getfield 76, 3) := by decide +kernel
theorem d_M_come_103 : decode b_M_come 103 = .ok (.istore 5, 2) := by decide +kernel
theorem d_M_come_105 : decode b_M_come 105 = .ok (.aload_n 0, 1) := by decide +kernel
theorem d_M_come_106 : decode b_M_come 106 = .ok (.getfield 23, 3) := by decide +kernel
theorem d_M_come_109 : decode b_M_come 109 = .ok (.iload 5, 2) := by decide +kernel
theorem d_M_come_111 : decode b_M_come 111 = .ok (.iload_n 1, 1) := by decide +kernel
theorem d_M_come_112 : decode b_M_come 112 = .ok (.iastore, 1) := by decide +kernel
theorem d_M_come_113 : decode b_M_come 113 = .ok (.aload_n 0, 1) := by decide +kernel
theorem d_M_come_114 : decode b_M_come 114 = .ok (.getfield 7, 3) := by decide +kernel
theorem d_M_come_117 : decode b_M_come 117 = .ok (.iload 5, 2) := by decide +kernel
theorem d_M_come_119 : decode b_M_come 119 = .ok (.iload_n 2, 1) := by decide +kernel
theorem d_M_come_120 : decode b_M_come 120 = .ok (.i2b, 1) := by decide +kernel
theorem d_M_come_121 : decode b_M_come 121 = .ok (.bastore, 1) := by decide +kernel
theorem d_M_come_122 : decode b_M_come 122 = .ok (.aload_n 0, 1) := by decide +kernel
theorem d_M_come_123 : decode b_M_come 123 = .ok (.getfield 13, 3) := by decide +kernel
theorem d_M_come_126 : decode b_M_come 126 = .ok (.iload 5, 2) := by decide +kernel
theorem d_M_come_128 : decode b_M_come 128 = .ok (.lload_n 3, 1) := by decide +kernel
theorem d_M_come_129 : decode b_M_come 129 = .ok (.lastore, 1) := by decide +kernel
theorem d_M_come_130 : decode b_M_come 130 = .ok (.iload_n 1, 1) := by decide +kernel
theorem d_M_come_131 : decode b_M_come 131 = .ok (.iload_n 2, 1) := by decide +kernel
theorem d_M_come_132 : decode b_M_come 132 = .ok (.lload_n 3, 1) := by decide +kernel
theorem d_M_come_133 : decode b_M_come 133 = .ok (.invokestatic 69, 3) := by decide +kernel
theorem d_M_come_136 : decode b_M_come 136 = .ok (.istore 6, 2) := by decide +kernel
theorem d_M_come_138 : decode b_M_come 138 = .ok (.aload_n 0, 1) := by decide +kernel
theorem d_M_come_139 : decode b_M_come 139 = .ok (.getfield 30, 3) := by decide +kernel
theorem d_M_come_142 : decode b_M_come 142 = .ok (.iload 5, 2) := by decide +kernel
theorem d_M_come_144 : decode b_M_come 144 = .ok (.aload_n 0, 1) := by decide +kernel
theorem d_M_come_145 : decode b_M_come 145 = .ok (.getfield 33, 3) := by decide +kernel
theorem d_M_come_148 : decode b_M_come 148 = .ok (.iload 6, 2) := by decide +kernel
theorem d_M_come_150 : decode b_M_come 150 = .ok (.iaload, 1) := by decide +kernel
theorem d_M_come_151 : decode b_M_come 151 = .ok (.iastore, 1) := by decide +kernel
theorem d_M_come_152 : decode b_M_come 152 = .ok (.aload_n 0, 1) := by decide +kernel
theorem d_M_come_153 : decode b_M_come 153 = .ok (.getfield 33, 3) := by decide +kernel
theorem d_M_come_156 : decode b_M_come 156 = .ok (.iload 6, 2) := by decide +kernel
theorem d_M_come_158 : decode b_M_come 158 = .ok (.iload 5, 2) := by decide +kernel
theorem d_M_come_160 : decode b_M_come 160 = .ok (.iastore, 1) := by decide +kernel
theorem d_M_come_161 : decode b_M_come 161 = .ok (.aload_n 0, 1) := by decide +kernel
theorem d_M_come_162 : decode b_M_come 162 = .ok (.getfield 27, 3) := by decide +kernel
theorem d_M_come_165 : decode b_M_come 165 = .ok (.iload 5, 2) := by decide +kernel
theorem d_M_come_167 : decode b_M_come 167 = .ok (.iconst 0, 1) := by decide +kernel
theorem d_M_come_168 : decode b_M_come 168 = .ok (.iastore, 1) := by decide +kernel
theorem d_M_come_169 : decode b_M_come 169 = .ok (.aload_n 0, 1) := by decide +kernel
theorem d_M_come_170 : decode b_M_come 170 = .ok (.getfield 42, 3) := by decide +kernel
theorem d_M_come_173 : decode b_M_come 173 = .ok (.iload_n 1, 1) := by decide +kernel
theorem d_M_come_174 : decode b_M_come 174 = .ok (.iaload, 1) := by decide +kernel
theorem d_M_come_175 : decode b_M_come 175 = .ok (.ifCond .ne 14, 3) := by decide +kernel
theorem d_M_come_178 : decode b_M_come 178 = .ok (.aload_n 0, 1) := by decide +kernel
theorem d_M_come_179 : decode b_M_come 179 = .ok (.getfield 36, 3) := by decide +kernel
theorem d_M_come_182 : decode b_M_come 182 = .ok (.iload_n 1, 1) := by decide +kernel
theorem d_M_come_183 : decode b_M_come 183 = .ok (.iload 5, 2) := by decide +kernel
theorem d_M_come_185 : decode b_M_come 185 = .ok (.iastore, 1) := by decide +kernel
theorem d_M_come_186 : decode b_M_come 186 = .ok (.goto 16, 3) := by decide +kernel
theorem d_M_come_189 : decode b_M_come 189 = .ok (.aload_n 0, 1) := by decide +kernel
theorem d_M_come_190 : decode b_M_come 190 = .ok (.getfield 27, 3) := by decide +kernel
theorem d_M_come_193 : decode b_M_come 193 = .ok (.aload_n 0, 1) := by decide +kernel
theorem d_M_come_194 : decode b_M_come 194 = .ok (.getfield 39, 3) := by decide +kernel
theorem d_M_come_197 : decode b_M_come 197 = .ok (.iload_n 1, 1) := by decide +kernel
theorem d_M_come_198 : decode b_M_come 198 = .ok (.iaload, 1) := by decide +kernel
theorem d_M_come_199 : decode b_M_come 199 = .ok (.iload 5, 2) := by decide +kernel
theorem d_M_come_201 : decode b_M_come 201 = .ok (.iastore, 1) := by decide +kernel
theorem d_M_come_202 : decode b_M_come 202 = .ok (.aload_n 0, 1) := by decide +kernel
theorem d_M_come_203 : decode b_M_come 203 = .ok (.getfield 39, 3) := by decide +kernel
theorem d_M_come_206 : decode b_M_come 206 = .ok (.iload_n 1, 1) := by decide +kernel
theorem d_M_come_207 : decode b_M_come 207 = .ok (.iload 5, 2) := by decide +kernel
theorem d_M_come_209 : decode b_M_come 209 = .ok (.iastore, 1) := by decide +kernel
theorem d_M_come_210 : decode b_M_come 210 = .ok (.aload_n 0, 1) := by decide +kernel
theorem d_M_come_211 : decode b_M_come 211 = .ok (.getfield 42, 3) := by decide +kernel
theorem d_M_come_214 : decode b_M_come 214 = .ok (.iload_n 1, 1) := by decide +kernel
theorem d_M_come_215 : decode b_M_come 215 = .ok (.dup2, 1) := by decide +kernel
theorem d_M_come_216 : decode b_M_come 216 = .ok (.iaload, 1) := by decide +kernel
theorem d_M_come_217 : decode b_M_come 217 = .ok (.iconst 1, 1) := by decide +kernel
theorem d_M_come_218 : decode b_M_come 218 = .ok (.iadd, 1) := by decide +kernel
theorem d_M_come_219 : decode b_M_come 219 = .ok (.iastore, 1) := by decide +kernel
theorem d_M_come_220 : decode b_M_come 220 = .ok (.iload 5, 2) := by decide +kernel
theorem d_M_come_222 : decode b_M_come 222 = .ok (.ireturn, 1) := by decide +kernel
theorem d_M_copy_0 : decode b_M_copy 0 = .ok (.aload_n 0, 1) := by decide +kernel
theorem d_M_copy_1 : decode b_M_copy 1 = .ok (.iload_n 1, 1) := by decide +kernel
theorem d_M_copy_2 : decode b_M_copy 2 = .ok (.invokevirtual 94, 3) := by decide +kernel
theorem d_M_copy_5 : decode b_M_copy 5 = .ok (.ifCond .eq 11, 3) := by decide +kernel
theorem d_M_copy_8 : decode b_M_copy 8 = .ok (.aload_n 0, 1) := by decide +kernel
theorem d_M_copy_9 : decode b_M_copy 9 = .ok (.iload_n 2, 1) := by decide +kernel
theorem d_M_copy_10 : decode b_M_copy 10 = .ok (.invokevirtual 94, 3) := by decide +kernel
theorem d_M_copy_13 : decode b_M_copy 13 = .ok (.ifCond .ne 5, 3) := by decide +kernel
theorem d_M_copy_16 : decode b_M_copy 16 = .ok (.iconst (-1), 1) := by decide +kernel
theorem d_M_copy_17 : decode b_M_copy 17 = .ok (.ireturn, 1) := by decide +kernel
theorem d_M_copy_18 : decode b_M_copy 18 = .ok (.iconst 0, 1) := by decide +kernel
theorem d_M_copy_19 : decode b_M_copy 19 = .ok (.istore_n 3, 1) := by decide +kernel
theorem d_M_copy_20 : decode b_M_copy 20 = .ok (.aload_n 0, 1) := by decide +kernel
theorem d_M_copy_21 : decode b_M_copy 21 = .ok (.getfield 36, 3) := by decide +kernel
theorem d_M_copy_24 : decode b_M_copy 24 = .ok (.iload_n 2, 1) := by decide +kernel
theorem d_M_copy_25 : decode b_M_copy 25 = .ok (.iaload, 1) := by decide +kernel
theorem d_M_copy_26 : decode b_M_copy 26 = .ok (.istore 4, 2) := by decide +kernel
theorem d_M_copy_28 : decode b_M_copy 28 = .ok (.iload 4, 2) := by decide +kernel
theorem d_M_copy_30 : decode b_M_copy 30 = .ok (.ifCond .le 55, 3) := by decide +kernel
theorem d_M_copy_33 : decode b_M_copy 33 = .ok (.iload_n 3, 1) := by decide +kernel
theorem d_M_copy_34 : decode b_M_copy 34 = .ok (.aload_n 0, 1) := by decide +kernel
theorem d_M_copy_35 : decode b_M_copy 35 = .ok (.getfield 17, 3) := by decide +kernel
theorem d_M_copy_38 : decode b_M_copy 38 = .ok (.iload 4, 2) := by decide +kernel
theorem d_M_copy_40 : decode b_M_copy 40 = .ok (.baload, 1) := by decide +kernel
theorem d_M_copy_41 : decode b_M_copy 41 = .ok (.ifCond .le 29, 3) := by decide +kernel
theorem d_M_copy_44 : decode b_M_copy 44 = .ok (.aload_n 0, 1) := by decide +kernel
theorem d_M_copy_45 : decode b_M_copy 45 = .ok (.iload_n 1, 1) := by decide +kernel
theorem d_M_copy_46 : decode b_M_copy 46 = .ok (.aload_n 0, 1) := by decide +kernel
theorem d_M_copy_47 : decode b_M_copy 47 = .ok (.getfield 7, 3) := by decide +kernel
theorem d_M_copy_50 : decode b_M_copy 50 = .ok (.iload 4, 2) := by decide +kernel
theorem d_M_copy_52 : decode b_M_copy 52 = .ok (.baload, 1) := by decide +kernel
theorem d_M_copy_53 : decode b_M_copy 53 = .ok (.aload_n 0, 1) := by decide +kernel
theorem d_M_copy_54 : decode b_M_copy 54 = .ok (.getfield 13, 3) := by decide +kernel
theorem d_M_copy_57 : decode b_M_copy 57 = .ok (.iload 4, 2) := by decide +kernel
theorem d_M_copy_59 : decode b_M_copy 59 = .ok (.laload, 1) := by decide +kernel
theorem d_M_copy_60 : decode b_M_copy 60 = .ok (.invokevirtual 73, 3) := by decide +kernel
theorem d_M_copy_63 : decode b_M_copy 63 = .ok (.ifCond .ne 7, 3) := by decide +kernel
theorem d_M_copy_66 : decode b_M_copy 66 = .ok (.iconst 1, 1) := by decide +kernel
theorem d_M_copy_67 : decode b_M_copy 67 = .ok (.goto 4, 3) := by decide +kernel
theorem d_M_copy_70 : decode b_M_copy 70 = .ok (.iconst 0, 1) := by decide +kernel
theorem d_M_copy_71 : decode b_M_copy 71 = .ok (.iadd, 1) := by decide +kernel
theorem d_M_copy_72 : decode b_M_copy 72 = .ok (.istore_n 3, 1) := by decide +kernel
theorem d_M_copy_73 : decode b_M_copy 73 = .ok (.aload_n 0, 1) := by decide +kernel
theorem d_M_copy_74 : decode b_M_copy 74 = .ok (.getfield 27, 3) := by decide +kernel
theorem d_M_copy_77 : decode b_M_copy 77 = .ok (.iload 4, 2) := by decide +kernel
theorem d_M_copy_79 : decode b_M_copy 79 = .ok (.iaload, 1) := by decide +kernel
theorem d_M_copy_80 : decode b_M_copy 80 = .ok (.istore 4, 2) := by decide +kernel
theorem d_M_copy_82 : decode b_M_copy 82 = .ok (.goto (-54), 3) := by decide +kernel
theorem d_M_copy_85 : decode b_M_copy 85 = .ok (.aload_n 0, 1) := by decide +kernel
theorem d_M_copy_86 : decode b_M_copy 86 = .ok (.getfield 76, 3) := by decide +kernel
theorem d_M_copy_89 : decode b_M_copy 89 = .ok (.iload_n 3, 1) := by decide +kernel
theorem d_M_copy_90 : decode b_M_copy 90 = .ok (.iadd, 1) := by decide +kernel
theorem d_M_copy_91 : decode b_M_copy 91 = .ok (.ldc 98, 2) := by decide +kernel
theorem d_M_copy_93 : decode b_M_copy 93 = .ok (.if_icmp .le 6, 3) := by decide +kernel
theorem d_M_copy_96 : decode b_M_copy 96 = .ok (.bipush (-3), 2) := by decide +kernel
theorem d_M_copy_98 : decode b_M_copy 98 = .ok (.ireturn, 1) := by decide +kernel
theorem d_M_copy_99 : decode b_M_copy 99 = .ok (.aload_n 0, 1) := by decide +kernel
theorem d_M_copy_100 : decode b_M_copy 100 = .ok (.getfield 36, 3) := by decide +kernel
theorem d_M_copy_103 : decode b_M_copy 103 = .ok (.iload_n 2, 1) := by decide +kernel
theorem d_M_copy_104 : decode b_M_copy 104 = .ok (.iaload, 1) := by decide +kernel
theorem d_M_copy_105 : decode b_M_copy 105 = .ok (.istore 4, 2) := by decide +kernel
theorem d_M_copy_107 : decode b_M_copy 107 = .ok (.iload 4, 2) := by decide +kernel
theorem d_M_copy_109 : decode b_M_copy 109 = .ok (.ifCond .le 59, 3) := by decide +kernel
theorem d_M_copy_112 : decode b_M_copy 112 = .ok (.aload_n 0, 1) := by decide +kernel
theorem d_M_copy_113 : decode b_M_copy 113 = .ok (.getfield 17, 3) := by decide +kernel
theorem d_M_copy_116 : decode b_M_copy 116 = .ok (.iload 4, 2) := by decide +kernel
theorem d_M_copy_118 : decode b_M_copy 118 = .ok (.baload, 1) := by decide +kernel
theorem d_M_copy_119 : decode b_M_copy 119 = .ok (.ifCond .le 37, 3) := by decide +kernel
theorem d_M_copy_122 : decode b_M_copy 122 = .ok (.aload_n 0, 1) := by decide +kernel
theorem d_M_copy_123 : decode b_M_copy 123 = .ok (.iload_n 1, 1) := by decide +kernel
theorem d_M_copy_124 : decode b_M_copy 124 = .ok (.aload_n 0, 1) := by decide +kernel
theorem d_M_copy_125 : decode b_M_copy 125 = .ok (.getfield 7, 3) := by decide +kernel
theorem d_M_copy_128 : decode b_M_copy 128 = .ok (.iload 4, 2) := by decide +kernel
theorem d_M_copy_130 : decode b_M_copy 130 = .ok (.baload, 1) := by decide +kernel
theorem d_M_copy_131 : decode b_M_copy 131 = .ok (.aload_n 0, 1) := by decide +kernel
theorem d_M_copy_132 : decode b_M_copy 132 = .ok (.getfield 13, 3) := by decide +kernel
theorem d_M_copy_135 : decode b_M_copy 135 = .ok (.iload 4, 2) := by decide +kernel
theorem d_M_copy_137 : decode b_M_copy 137 = .ok (.laload, 1) := by decide +kernel
theorem d_M_copy_138 : decode b_M_copy 138 = .ok (.aload_n 0, 1) := by decide +kernel
theorem d_M_copy_139 : decode b_M_copy 139 = .ok (.getfield 17, 3) := by decide +kernel
theorem d_M_copy_142 : decode b_M_copy 142 = .ok (.iload 4, 2) := by decide +kernel
theorem d_M_copy_144 : decode b_M_copy 144 = .ok (.baload, 1) := by decide +kernel
theorem d_M_copy_145 : decode b_M_copy 145 = .ok (.aload_n 0, 1) := by decide +kernel
theorem d_M_copy_146 : decode b_M_copy 146 = .ok (.getfield 20, 3) := by decide +kernel
theorem d_M_copy_149 : decode b_M_copy 149 = .ok (.iload 4, 2) := by decide +kernel
theorem d_M_copy_151 : decode b_M_copy 151 = .ok (.laload, 1) := by decide +kernel
theorem d_M_copy_152 : decode b_M_copy 152 = .ok (.invokevirtual 99, 3) := by decide +kernel
theorem d_M_copy_155 : decode b_M_copy 155 = .ok (.pop, 1) := by decide +kernel
theorem d_M_copy_156 : decode b_M_copy 156 = .ok (.aload_n 0, 1) := by decide +kernel
theorem d_M_copy_157 : decode b_M_copy 157 = .ok (.getfield 27, 3) := by decide +kernel
theorem d_M_copy_160 : decode b_M_copy 160 = .ok (.iload 4, 2) := by decide +kernel
theorem d_M_copy_162 : decode b_M_copy 162 = .ok (.iaload, 1) := by decide +kernel
theorem d_M_copy_163 : decode b_M_copy 163 = .ok (.istore 4, 2) := by decide +kernel
theorem d_M_copy_165 : decode b_M_copy 165 = .ok (.goto (-58), 3) := by decide +kernel
theorem d_M_copy_168 : decode b_M_copy 168 = .ok (.iload_n 3, 1) := by decide +kernel
theorem d_M_copy_169 : decode b_M_copy 169 = .ok (.ireturn, 1) := by decide +kernel
theorem d_M_cursorKind_0 : decode b_M_cursorKind 0 = .ok (.aload_n 0, 1) := by decide +kernel
theorem d_M_cursorKind_1 : decode b_M_cursorKind 1 = .ok (.getfield 114, 3) := by decide +kernel
theorem d_M_cursorKind_4 : decode b_M_cursorKind 4 = .ok (.ireturn, 1) := by decide +kernel
theorem d_M_cursorNumber_0 : decode b_M_cursorNumber 0 = .ok (.aload_n 0, 1) := by decide +kernel
theorem d_M_cursorNumber_1 : decode b_M_cursorNumber 1 = .ok (.getfield 117, 3) := by decide +kernel
theorem d_M_cursorNumber_4 : decode b_M_cursorNumber 4 = .ok (.lreturn, 1) := by decide +kernel
theorem d_M_edge_0 : decode b_M_edge 0 = .ok (.iconst 0, 1) := by decide +kernel
theorem d_M_edge_1 : decode b_M_edge 1 = .ok (.istore_n 2, 1) := by decide +kernel
theorem d_M_edge_2 : decode b_M_edge 2 = .ok (.iconst 1, 1) := by decide +kernel
theorem d_M_edge_3 : decode b_M_edge 3 = .ok (.istore_n 3, 1) := by decide +kernel
theorem d_M_edge_4 : decode b_M_edge 4 = .ok (.iload_n 3, 1) := by decide +kernel
theorem d_M_edge_5 : decode b_M_edge 5 = .ok (.ifCond .eq 50, 3) := by decide +kernel
theorem d_M_edge_8 : decode b_M_edge 8 = .ok (.aload_n 0, 1) := by decide +kernel
theorem d_M_edge_9 : decode b_M_edge 9 = .ok (.iload_n 1, 1) := by decide +kernel
theorem d_M_edge_10 : decode b_M_edge 10 = .ok (.iload_n 2, 1) := by decide +kernel
theorem d_M_edge_11 : decode b_M_edge 11 = .ok (.i2l, 1) := by decide +kernel
theorem d_M_edge_12 : decode b_M_edge 12 = .ok (.lconst 1, 1) := by decide +kernel
theorem d_M_edge_13 : decode b_M_edge 13 = .ok (.ladd, 1) := by decide +kernel
theorem d_M_edge_14 : decode b_M_edge 14 = .ok (.invokevirtual 106, 3) := by decide +kernel
theorem d_M_edge_17 : decode b_M_edge 17 = .ok (.istore 4, 2) := by decide +kernel
theorem d_M_edge_19 : decode b_M_edge 19 = .ok (.iload 4, 2) := by decide +kernel
theorem d_M_edge_21 : decode b_M_edge 21 = .ok (.ifCond .le 17, 3) := by decide +kernel
theorem d_M_edge_24 : decode b_M_edge 24 = .ok (.aload_n 0, 1) := by decide +kernel
theorem d_M_edge_25 : decode b_M_edge 25 = .ok (.getfield 17, 3) := by decide +kernel
theorem d_M_edge_28 : decode b_M_edge 28 = .ok (.iload 4, 2) := by decide +kernel
theorem d_M_edge_30 : decode b_M_edge 30 = .ok (.baload, 1) := by decide +kernel
theorem d_M_edge_31 : decode b_M_edge 31 = .ok (.ifCond .le 7, 3) := by decide +kernel
theorem d_M_edge_34 : decode b_M_edge 34 = .ok (.iconst 1, 1) := by decide +kernel
theorem d_M_edge_35 : decode b_M_edge 35 = .ok (.goto 4, 3) := by decide +kernel
theorem d_M_edge_38 : decode b_M_edge 38 = .ok (.iconst 0, 1) := by decide +kernel
theorem d_M_edge_39 : decode b_M_edge 39 = .ok (.istore_n 3, 1) := by decide +kernel
theorem d_M_edge_40 : decode b_M_edge 40 = .ok (.iload_n 2, 1) := by decide +kernel
theorem d_M_edge_41 : decode b_M_edge 41 = .ok (.iload_n 3, 1) := by decide +kernel
theorem d_M_edge_42 : decode b_M_edge 42 = .ok (.ifCond .eq 7, 3) := by decide +kernel
theorem d_M_edge_45 : decode b_M_edge 45 = .ok (.iconst 1, 1) := by decide +kernel
theorem d_M_edge_46 : decode b_M_edge 46 = .ok (.goto 4, 3) := by decide +kernel
theorem d_M_edge_49 : decode b_M_edge 49 = .ok (.iconst 0, 1) := by decide +kernel
theorem d_M_edge_50 : decode b_M_edge 50 = .ok (.iadd, 1) := by decide +kernel
theorem d_M_edge_51 : decode b_M_edge 51 = .ok (.istore_n 2, 1) := by decide +kernel
theorem d_M_edge_52 : decode b_M_edge 52 = .ok (.goto (-48), 3) := by decide +kernel
theorem d_M_edge_55 : decode b_M_edge 55 = .ok (.iload_n 2, 1) := by decide +kernel
theorem d_M_edge_56 : decode b_M_edge 56 = .ok (.ireturn, 1) := by decide +kernel
theorem d_M_empty_0 : decode b_M_empty 0 = .ok (.aload_n 0, 1) := by decide +kernel
theorem d_M_empty_1 : decode b_M_empty 1 = .ok (.getfield 76, 3) := by decide +kernel
theorem d_M_empty_4 : decode b_M_empty 4 = .ok (.istore_n 1, 1) := by decide +kernel
theorem d_M_empty_5 : decode b_M_empty 5 = .ok (.aload_n 0, 1) := by decide +kernel
theorem d_M_empty_6 : decode b_M_empty 6 = .ok (.iconst 0, 1) := by decide +kernel
theorem d_M_empty_7 : decode b_M_empty 7 = .ok (.putfield 76, 3) := by decide +kernel
theorem d_M_empty_10 : decode b_M_empty 10 = .ok (.aload_n 0, 1) := by decide +kernel
theorem d_M_empty_11 : decode b_M_empty 11 = .ok (.iconst 0, 1) := by decide +kernel
theorem d_M_empty_12 : decode b_M_empty 12 = .ok (.putfield 51, 3) := by decide +kernel
theorem d_M_empty_15 : decode b_M_empty 15 = .ok (.aload_n 0, 1) := by decide +kernel
theorem d_M_empty_16 : decode b_M_empty 16 = .ok (.iconst 0, 1) := by decide +kernel
theorem d_M_empty_17 : decode b_M_empty 17 = .ok (.putfield 114, 3) := by decide +kernel
theorem d_M_empty_20 : decode b_M_empty 20 = .ok (.aload_n 0, 1) := by decide +kernel
theorem d_M_empty_21 : decode b_M_empty 21 = .ok (.lconst 0, 1) := by decide +kernel
theorem d_M_empty_22 : decode b_M_empty 22 = .ok (.putfield 117, 3) := by decide +kernel
theorem d_M_empty_25 : decode b_M_empty 25 = .ok (.iconst 0, 1) := by decide +kernel
theorem d_M_empty_26 : decode b_M_empty 26 = .ok (.istore_n 2, 1) := by decide +kernel
theorem d_M_empty_27 : decode b_M_empty 27 = .ok (.iload_n 2, 1) := by decide +kernel
theorem d_M_empty_28 : decode b_M_empty 28 = .ok (.sipush 8191, 3) := by decide +kernel
theorem d_M_empty_31 : decode b_M_empty 31 = .ok (.if_icmp .ge 16, 3) := by decide +kernel
theorem d_M_empty_34 : decode b_M_empty 34 = .ok (.aload_n 0, 1) := by decide +kernel
theorem d_M_empty_35 : decode b_M_empty 35 = .ok (.getfield 33, 3) := by decide +kernel
theorem d_M_empty_38 : decode b_M_empty 38 = .ok (.iload_n 2, 1) := by decide +kernel
theorem d_M_empty_39 : decode b_M_empty 39 = .ok (.iconst 0, 1) := by decide +kernel
theorem d_M_empty_40 : decode b_M_empty 40 = .ok (.iastore, 1) := by decide +kernel
theorem d_M_empty_41 : decode b_M_empty 41 = .ok (.iinc 2 1, 3) := by decide +kernel
theorem d_M_empty_44 : decode b_M_empty 44 = .ok (.goto (-17), 3) := by decide +kernel
theorem d_M_empty_47 : decode b_M_empty 47 = .ok (.iconst 0, 1) := by decide +kernel
theorem d_M_empty_48 : decode b_M_empty 48 = .ok (.istore_n 2, 1) := by decide +kernel
theorem d_M_empty_49 : decode b_M_empty 49 = .ok (.iload_n 2, 1) := by decide +kernel
theorem d_M_empty_50 : decode b_M_empty 50 = .ok (.aload_n 0, 1) := by decide +kernel
theorem d_M_empty_51 : decode b_M_empty 51 = .ok (.getfield 42, 3) := by decide +kernel
theorem d_M_empty_54 : decode b_M_empty 54 = .ok (.arraylength, 1) := by decide +kernel
theorem d_M_empty_55 : decode b_M_empty 55 = .ok (.if_icmp .ge 30, 3) := by decide +kernel
theorem d_M_empty_58 : decode b_M_empty 58 = .ok (.aload_n 0, 1) := by decide +kernel
theorem d_M_empty_59 : decode b_M_empty 59 = .ok (.getfield 36, 3) := by decide +kernel
theorem d_M_empty_62 : decode b_M_empty 62 = .ok (.iload_n 2, 1) := by decide +kernel
theorem d_M_empty_63 : decode b_M_empty 63 = .ok (.iconst 0, 1) := by decide +kernel
theorem d_M_empty_64 : decode b_M_empty 64 = .ok (.iastore, 1) := by decide +kernel
theorem d_M_empty_65 : decode b_M_empty 65 = .ok (.aload_n 0, 1) := by decide +kernel
theorem d_M_empty_66 : decode b_M_empty 66 = .ok (.getfield 39, 3) := by decide +kernel
theorem d_M_empty_69 : decode b_M_empty 69 = .ok (.iload_n 2, 1) := by decide +kernel
theorem d_M_empty_70 : decode b_M_empty 70 = .ok (.iconst 0, 1) := by decide +kernel
theorem d_M_empty_71 : decode b_M_empty 71 = .ok (.iastore, 1) := by decide +kernel
theorem d_M_empty_72 : decode b_M_empty 72 = .ok (.aload_n 0, 1) := by decide +kernel
theorem d_M_empty_73 : decode b_M_empty 73 = .ok (.getfield 42, 3) := by decide +kernel
theorem d_M_empty_76 : decode b_M_empty 76 = .ok (.iload_n 2, 1) := by decide +kernel
theorem d_M_empty_77 : decode b_M_empty 77 = .ok (.iconst 0, 1) := by decide +kernel
theorem d_M_empty_78 : decode b_M_empty 78 = .ok (.iastore, 1) := by decide +kernel
theorem d_M_empty_79 : decode b_M_empty 79 = .ok (.iinc 2 1, 3) := by decide +kernel
theorem d_M_empty_82 : decode b_M_empty 82 = .ok (.goto (-33), 3) := by decide +kernel
theorem d_M_empty_85 : decode b_M_empty 85 = .ok (.iload_n 1, 1) := by decide +kernel
theorem d_M_empty_86 : decode b_M_empty 86 = .ok (.ireturn, 1) := by decide +kernel
theorem d_M_fields_0 : decode b_M_fields 0 = .ok (.aload_n 0, 1) := by decide +kernel
theorem d_M_fields_1 : decode b_M_fields 1 = .ok (.iload_n 1, 1) := by decide +kernel
theorem d_M_fields_2 : decode b_M_fields 2 = .ok (.invokevirtual 94, 3) := by decide +kernel
theorem d_M_fields_5 : decode b_M_fields 5 = .ok (.ifCond .ne 5, 3) := by decide +kernel
theorem d_M_fields_8 : decode b_M_fields 8 = .ok (.iconst (-1), 1) := by decide +kernel
theorem d_M_fields_9 : decode b_M_fields 9 = .ok (.ireturn, 1) := by decide +kernel
theorem d_M_fields_10 : decode b_M_fields 10 = .ok (.iconst 0, 1) := by decide +kernel
theorem d_M_fields_11 : decode b_M_fields 11 = .ok (.istore_n 2, 1) := by decide +kernel
theorem d_M_fields_12 : decode b_M_fields 12 = .ok (.aload_n 0, 1) := by decide +kernel
theorem d_M_fields_13 : decode b_M_fields 13 = .ok (.getfield 36, 3) := by decide +kernel
theorem d_M_fields_16 : decode b_M_fields 16 = .ok (.iload_n 1, 1) := by decide +kernel
theorem d_M_fields_17 : decode b_M_fields 17 = .ok (.iaload, 1) := by decide +kernel
theorem d_M_fields_18 : decode b_M_fields 18 = .ok (.istore_n 3, 1) := by decide +kernel
theorem d_M_fields_19 : decode b_M_fields 19 = .ok (.iload_n 3, 1) := by decide +kernel
theorem d_M_fields_20 : decode b_M_fields 20 = .ok (.ifCond .le 30, 3) := by decide +kernel
theorem d_M_fields_23 : decode b_M_fields 23 = .ok (.iload_n 2, 1) := by decide +kernel
theorem d_M_fields_24 : decode b_M_fields 24 = .ok (.aload_n 0, 1) := by decide +kernel
theorem d_M_fields_25 : decode b_M_fields 25 = .ok (.getfield 17, 3) := by decide +kernel
theorem d_M_fields_28 : decode b_M_fields 28 = .ok (.iload_n 3, 1) := by decide +kernel
theorem d_M_fields_29 : decode b_M_fields 29 = .ok (.baload, 1) := by decide +kernel
theorem d_M_fields_30 : decode b_M_fields 30 = .ok (.ifCond .le 7, 3) := by decide +kernel
theorem d_M_fields_33 : decode b_M_fields 33 = .ok (.iconst 1, 1) := by decide +kernel
theorem d_M_fields_34 : decode b_M_fields 34 = .ok (.goto 4, 3) := by decide +kernel
theorem d_M_fields_37 : decode b_M_fields 37 = .ok (.iconst 0, 1) := by decide +kernel
theorem d_M_fields_38 : decode b_M_fields 38 = .ok (.iadd, 1) := by decide +kernel
theorem d_M_fields_39 : decode b_M_fields 39 = .ok (.istore_n 2, 1) := by decide +kernel
theorem d_M_fields_40 : decode b_M_fields 40 = .ok (.aload_n 0, 1) := by decide +kernel
theorem d_M_fields_41 : decode b_M_fields 41 = .ok (.getfield 27, 3) := by decide +kernel
theorem d_M_fields_44 : decode b_M_fields 44 = .ok (.iload_n 3, 1) := by decide +kernel
theorem d_M_fields_45 : decode b_M_fields 45 = .ok (.iaload, 1) := by decide +kernel
theorem d_M_fields_46 : decode b_M_fields 46 = .ok (.istore_n 3, 1) := by decide +kernel
theorem d_M_fields_47 : decode b_M_fields 47 = .ok (.goto (-28), 3) := by decide +kernel
theorem d_M_fields_50 : decode b_M_fields 50 = .ok (.iload_n 2, 1) := by decide +kernel
theorem d_M_fields_51 : decode b_M_fields 51 = .ok (.ireturn, 1) := by decide +kernel
theorem d_M_fill_0 : decode b_M_fill 0 = .ok (.aload_n 0, 1) := by decide +kernel
theorem d_M_fill_1 : decode b_M_fill 1 = .ok (.iload_n 1, 1) := by decide +kernel
theorem d_M_fill_2 : decode b_M_fill 2 = .ok (.lload_n 2, 1) := by decide +kernel
theorem d_M_fill_3 : decode b_M_fill 3 = .ok (.iload 4, 2) := by decide +kernel
theorem d_M_fill_5 : decode b_M_fill 5 = .ok (.iload 5, 2) := by decide +kernel
theorem d_M_fill_7 : decode b_M_fill 7 = .ok (.invokevirtual 125, 3) := by decide +kernel
theorem d_M_fill_10 : decode b_M_fill 10 = .ok (.ifCond .ne 5, 3) := by decide +kernel
theorem d_M_fill_13 : decode b_M_fill 13 = .ok (.iconst (-1), 1) := by decide +kernel
theorem d_M_fill_14 : decode b_M_fill 14 = .ok (.ireturn, 1) := by decide +kernel
theorem d_M_fill_15 : decode b_M_fill 15 = .ok (.iconst 0, 1) := by decide +kernel
theorem d_M_fill_16 : decode b_M_fill 16 = .ok (.istore 6, 2) := by decide +kernel
theorem d_M_fill_18 : decode b_M_fill 18 = .ok (.iconst 0, 1) := by decide +kernel
theorem d_M_fill_19 : decode b_M_fill 19 = .ok (.istore 7, 2) := by decide +kernel
theorem d_M_fill_21 : decode b_M_fill 21 = .ok (.iload 7, 2) := by decide +kernel
theorem d_M_fill_23 : decode b_M_fill 23 = .ok (.iload 4, 2) := by decide +kernel
theorem d_M_fill_25 : decode b_M_fill 25 = .ok (.if_icmp .ge 36, 3) := by decide +kernel
theorem d_M_fill_28 : decode b_M_fill 28 = .ok (.iload 6, 2) := by decide +kernel
theorem d_M_fill_30 : decode b_M_fill 30 = .ok (.aload_n 0, 1) := by decide +kernel
theorem d_M_fill_31 : decode b_M_fill 31 = .ok (.iload_n 1, 1) := by decide +kernel
theorem d_M_fill_32 : decode b_M_fill 32 = .ok (.lload_n 2, 1) := by decide +kernel
theorem d_M_fill_33 : decode b_M_fill 33 = .ok (.iload 7, 2) := by decide +kernel
theorem d_M_fill_35 : decode b_M_fill 35 = .ok (.i2l, 1) := by decide +kernel
theorem d_M_fill_36 : decode b_M_fill 36 = .ok (.iload 5, 2) := by decide +kernel
theorem d_M_fill_38 : decode b_M_fill 38 = .ok (.i2l, 1) := by decide +kernel
theorem d_M_fill_39 : decode b_M_fill 39 = .ok (.lmul, 1) := by decide +kernel
theorem d_M_fill_40 : decode b_M_fill 40 = .ok (.ladd, 1) := by decide +kernel
theorem d_M_fill_41 : decode b_M_fill 41 = .ok (.invokevirtual 106, 3) := by decide +kernel
theorem d_M_fill_44 : decode b_M_fill 44 = .ok (.ifCond .ne 7, 3) := by decide +kernel
theorem d_M_fill_47 : decode b_M_fill 47 = .ok (.iconst 1, 1) := by decide +kernel
theorem d_M_fill_48 : decode b_M_fill 48 = .ok (.goto 4, 3) := by decide +kernel
theorem d_M_fill_51 : decode b_M_fill 51 = .ok (.iconst 0, 1) := by decide +kernel
theorem d_M_fill_52 : decode b_M_fill 52 = .ok (.iadd, 1) := by decide +kernel
theorem d_M_fill_53 : decode b_M_fill 53 = .ok (.istore 6, 2) := by decide +kernel
theorem d_M_fill_55 : decode b_M_fill 55 = .ok (.iinc 7 1, 3) := by decide +kernel
theorem d_M_fill_58 : decode b_M_fill 58 = .ok (.goto (-37), 3) := by decide +kernel
theorem d_M_fill_61 : decode b_M_fill 61 = .ok (.aload_n 0, 1) := by decide +kernel
theorem d_M_fill_62 : decode b_M_fill 62 = .ok (.getfield 76, 3) := by decide +kernel
theorem d_M_fill_65 : decode b_M_fill 65 = .ok (.iload 6, 2) := by decide +kernel
theorem d_M_fill_67 : decode b_M_fill 67 = .ok (.iadd, 1) := by decide +kernel
theorem d_M_fill_68 : decode b_M_fill 68 = .ok (.ldc 98, 2) := by decide +kernel
theorem d_M_fill_70 : decode b_M_fill 70 = .ok (.if_icmp .le 6, 3) := by decide +kernel
theorem d_M_fill_73 : decode b_M_fill 73 = .ok (.bipush (-3), 2) := by decide +kernel
theorem d_M_fill_75 : decode b_M_fill 75 = .ok (.ireturn, 1) := by decide +kernel
theorem d_M_fill_76 : decode b_M_fill 76 = .ok (.iconst 0, 1) := by decide +kernel
theorem d_M_fill_77 : decode b_M_fill 77 = .ok (.istore 7, 2) := by decide +kernel
theorem d_M_fill_79 : decode b_M_fill 79 = .ok (.iload 7, 2) := by decide +kernel
theorem d_M_fill_81 : decode b_M_fill 81 = .ok (.iload 4, 2) := by decide +kernel
theorem d_M_fill_83 : decode b_M_fill 83 = .ok (.if_icmp .ge 31, 3) := by decide +kernel
theorem d_M_fill_86 : decode b_M_fill 86 = .ok (.aload_n 0, 1) := by decide +kernel
theorem d_M_fill_87 : decode b_M_fill 87 = .ok (.iload_n 1, 1) := by decide +kernel
theorem d_M_fill_88 : decode b_M_fill 88 = .ok (.iconst 3, 1) := by decide +kernel
theorem d_M_fill_89 : decode b_M_fill 89 = .ok (.lload_n 2, 1) := by decide +kernel
theorem d_M_fill_90 : decode b_M_fill 90 = .ok (.iload 7, 2) := by decide +kernel
theorem d_M_fill_92 : decode b_M_fill 92 = .ok (.i2l, 1) := by decide +kernel
theorem d_M_fill_93 : decode b_M_fill 93 = .ok (.iload 5, 2) := by decide +kernel
theorem d_M_fill_95 : decode b_M_fill 95 = .ok (.i2l, 1) := by decide +kernel
theorem d_M_fill_96 : decode b_M_fill 96 = .ok (.lmul, 1) := by decide +kernel
theorem d_M_fill_97 : decode b_M_fill 97 = .ok (.ladd, 1) := by decide +kernel
theorem d_M_fill_98 : decode b_M_fill 98 = .ok (.iconst 3, 1) := by decide +kernel
theorem d_M_fill_99 : decode b_M_fill 99 = .ok (.iload 7, 2) := by decide +kernel
theorem d_M_fill_101 : decode b_M_fill 101 = .ok (.i2l, 1) := by decide +kernel
theorem d_M_fill_102 : decode b_M_fill 102 = .ok (.lconst 1, 1) := by decide +kernel
theorem d_M_fill_103 : decode b_M_fill 103 = .ok (.ladd, 1) := by decide +kernel
theorem d_M_fill_104 : decode b_M_fill 104 = .ok (.invokevirtual 99, 3) := by decide +kernel
theorem d_M_fill_107 : decode b_M_fill 107 = .ok (.pop, 1) := by decide +kernel
theorem d_M_fill_108 : decode b_M_fill 108 = .ok (.iinc 7 1, 3) := by decide +kernel
theorem d_M_fill_111 : decode b_M_fill 111 = .ok (.goto (-32), 3) := by decide +kernel
theorem d_M_fill_114 : decode b_M_fill 114 = .ok (.iload 6, 2) := by decide +kernel
theorem d_M_fill_116 : decode b_M_fill 116 = .ok (.ireturn, 1) := by decide +kernel
