theorem dX12_divisor_35 : decode cX12_divisor 35 = .ok (.lload 4, 2) := by decide +kernel
theorem dX12_divisor_37 : decode cX12_divisor 37 = .ok (.lload 6, 2) := by decide +kernel
theorem dX12_divisor_39 : decode cX12_divisor 39 = .ok (.lrem, 1) := by decide +kernel
theorem dX12_divisor_40 : decode cX12_divisor 40 = .ok (.lstore 8, 2) := by decide +kernel
theorem dX12_divisor_42 : decode cX12_divisor 42 = .ok (.lload 6, 2) := by decide +kernel
theorem dX12_divisor_44 : decode cX12_divisor 44 = .ok (.lstore 4, 2) := by decide +kernel
theorem dX12_divisor_46 : decode cX12_divisor 46 = .ok (.lload 8, 2) := by decide +kernel
theorem dX12_divisor_48 : decode cX12_divisor 48 = .ok (.lstore 6, 2) := by decide +kernel
theorem dX12_divisor_50 : decode cX12_divisor 50 = .ok (.goto (-22), 3) := by decide +kernel
theorem dX12_divisor_53 : decode cX12_divisor 53 = .ok (.lload 4, 2) := by decide +kernel
theorem dX12_divisor_55 : decode cX12_divisor 55 = .ok (.lreturn, 1) := by decide +kernel
theorem dX12_isRestOf_0 : decode cX12_isRestOf 0 = .ok (.iload_n 3, 1) := by decide +kernel
theorem dX12_isRestOf_1 : decode cX12_isRestOf 1 = .ok (.iconst 2, 1) := by decide +kernel
theorem dX12_isRestOf_2 : decode cX12_isRestOf 2 = .ok (.if_icmp .ge 7, 3) := by decide +kernel
theorem dX12_isRestOf_5 : decode cX12_isRestOf 5 = .ok (.iload_n 1, 1) := by decide +kernel
theorem dX12_isRestOf_6 : decode cX12_isRestOf 6 = .ok (.goto 4, 3) := by decide +kernel
theorem dX12_isRestOf_9 : decode cX12_isRestOf 9 = .ok (.iload_n 2, 1) := by decide +kernel
theorem dX12_isRestOf_10 : decode cX12_isRestOf 10 = .ok (.istore 4, 2) := by decide +kernel
theorem dX12_isRestOf_12 : decode cX12_isRestOf 12 = .ok (.iload_n 3, 1) := by decide +kernel
theorem dX12_isRestOf_13 : decode cX12_isRestOf 13 = .ok (.iconst 2, 1) := by decide +kernel
theorem dX12_isRestOf_14 : decode cX12_isRestOf 14 = .ok (.irem, 1) := by decide +kernel
theorem dX12_isRestOf_15 : decode cX12_isRestOf 15 = .ok (.ifCond .ne 7, 3) := by decide +kernel
theorem dX12_isRestOf_18 : decode cX12_isRestOf 18 = .ok (.iload_n 1, 1) := by decide +kernel
theorem dX12_isRestOf_19 : decode cX12_isRestOf 19 = .ok (.goto 4, 3) := by decide +kernel
theorem dX12_isRestOf_22 : decode cX12_isRestOf 22 = .ok (.iload_n 2, 1) := by decide +kernel
theorem dX12_isRestOf_23 : decode cX12_isRestOf 23 = .ok (.istore 5, 2) := by decide +kernel
theorem dX12_isRestOf_25 : decode cX12_isRestOf 25 = .ok (.iload 4, 2) := by decide +kernel
theorem dX12_isRestOf_27 : decode cX12_isRestOf 27 = .ok (.iload 5, 2) := by decide +kernel
theorem dX12_isRestOf_29 : decode cX12_isRestOf 29 = .ok (.iconst 0, 1) := by decide +kernel
theorem dX12_isRestOf_30 : decode cX12_isRestOf 30 = .ok (.invokestatic 454, 3) := by decide +kernel
theorem dX12_isRestOf_33 : decode cX12_isRestOf 33 = .ok (.istore 6, 2) := by decide +kernel
theorem dX12_isRestOf_35 : decode cX12_isRestOf 35 = .ok (.aload_n 0, 1) := by decide +kernel
theorem dX12_isRestOf_36 : decode cX12_isRestOf 36 = .ok (.getfield 137, 3) := by decide +kernel
theorem dX12_isRestOf_39 : decode cX12_isRestOf 39 = .ok (.iload_n 1, 1) := by decide +kernel
theorem dX12_isRestOf_40 : decode cX12_isRestOf 40 = .ok (.iload_n 2, 1) := by decide +kernel
theorem dX12_isRestOf_41 : decode cX12_isRestOf 41 = .ok (.iadd, 1) := by decide +kernel
theorem dX12_isRestOf_42 : decode cX12_isRestOf 42 = .ok (.iload 4, 2) := by decide +kernel
theorem dX12_isRestOf_44 : decode cX12_isRestOf 44 = .ok (.isub, 1) := by decide +kernel
theorem dX12_isRestOf_45 : decode cX12_isRestOf 45 = .ok (.iload 5, 2) := by decide +kernel
theorem dX12_isRestOf_47 : decode cX12_isRestOf 47 = .ok (.iconst 0, 1) := by decide +kernel
theorem dX12_isRestOf_48 : decode cX12_isRestOf 48 = .ok (.invokestatic 454, 3) := by decide +kernel
theorem dX12_isRestOf_51 : decode cX12_isRestOf 51 = .ok (.laload, 1) := by decide +kernel
theorem dX12_isRestOf_52 : decode cX12_isRestOf 52 = .ok (.aload_n 0, 1) := by decide +kernel
theorem dX12_isRestOf_53 : decode cX12_isRestOf 53 = .ok (.getfield 137, 3) := by decide +kernel
theorem dX12_isRestOf_56 : decode cX12_isRestOf 56 = .ok (.iload 6, 2) := by decide +kernel
theorem dX12_isRestOf_58 : decode cX12_isRestOf 58 = .ok (.laload, 1) := by decide +kernel
theorem dX12_isRestOf_59 : decode cX12_isRestOf 59 = .ok (.lcmp, 1) := by decide +kernel
theorem dX12_isRestOf_60 : decode cX12_isRestOf 60 = .ok (.ifCond .gt 35, 3) := by decide +kernel
theorem dX12_isRestOf_63 : decode cX12_isRestOf 63 = .ok (.aload_n 0, 1) := by decide +kernel
theorem dX12_isRestOf_64 : decode cX12_isRestOf 64 = .ok (.getfield 140, 3) := by decide +kernel
theorem dX12_isRestOf_67 : decode cX12_isRestOf 67 = .ok (.iload 4, 2) := by decide +kernel
theorem dX12_isRestOf_69 : decode cX12_isRestOf 69 = .ok (.iload_n 1, 1) := by decide +kernel
theorem dX12_isRestOf_70 : decode cX12_isRestOf 70 = .ok (.iload_n 2, 1) := by decide +kernel
theorem dX12_isRestOf_71 : decode cX12_isRestOf 71 = .ok (.iadd, 1) := by decide +kernel
theorem dX12_isRestOf_72 : decode cX12_isRestOf 72 = .ok (.iload 5, 2) := by decide +kernel
theorem dX12_isRestOf_74 : decode cX12_isRestOf 74 = .ok (.isub, 1) := by decide +kernel
theorem dX12_isRestOf_75 : decode cX12_isRestOf 75 = .ok (.iconst 0, 1) := by decide +kernel
theorem dX12_isRestOf_76 : decode cX12_isRestOf 76 = .ok (.invokestatic 454, 3) := by decide +kernel
theorem dX12_isRestOf_79 : decode cX12_isRestOf 79 = .ok (.laload, 1) := by decide +kernel
theorem dX12_isRestOf_80 : decode cX12_isRestOf 80 = .ok (.aload_n 0, 1) := by decide +kernel
theorem dX12_isRestOf_81 : decode cX12_isRestOf 81 = .ok (.getfield 140, 3) := by decide +kernel
theorem dX12_isRestOf_84 : decode cX12_isRestOf 84 = .ok (.iload 6, 2) := by decide +kernel
theorem dX12_isRestOf_86 : decode cX12_isRestOf 86 = .ok (.laload, 1) := by decide +kernel
theorem dX12_isRestOf_87 : decode cX12_isRestOf 87 = .ok (.lcmp, 1) := by decide +kernel
theorem dX12_isRestOf_88 : decode cX12_isRestOf 88 = .ok (.ifCond .gt 7, 3) := by decide +kernel
theorem dX12_isRestOf_91 : decode cX12_isRestOf 91 = .ok (.iconst 1, 1) := by decide +kernel
theorem dX12_isRestOf_92 : decode cX12_isRestOf 92 = .ok (.goto 4, 3) := by decide +kernel
theorem dX12_isRestOf_95 : decode cX12_isRestOf 95 = .ok (.iconst 0, 1) := by decide +kernel
theorem dX12_isRestOf_96 : decode cX12_isRestOf 96 = .ok (.ireturn, 1) := by decide +kernel
theorem dX12_lots_0 : decode cX12_lots 0 = .ok (.aload_n 0, 1) := by decide +kernel
theorem dX12_lots_1 : decode cX12_lots 1 = .ok (.iload_n 1, 1) := by decide +kernel
theorem dX12_lots_2 : decode cX12_lots 2 = .ok (.iload_n 2, 1) := by decide +kernel
theorem dX12_lots_3 : decode cX12_lots 3 = .ok (.invokevirtual 461, 3) := by decide +kernel
theorem dX12_lots_6 : decode cX12_lots 6 = .ok (.ifCond .eq 36, 3) := by decide +kernel
theorem dX12_lots_9 : decode cX12_lots 9 = .ok (.aload_n 0, 1) := by decide +kernel
theorem dX12_lots_10 : decode cX12_lots 10 = .ok (.iload_n 3, 1) := by decide +kernel
theorem dX12_lots_11 : decode cX12_lots 11 = .ok (.invokevirtual 472, 3) := by decide +kernel
theorem dX12_lots_14 : decode cX12_lots 14 = .ok (.ifCond .eq 28, 3) := by decide +kernel
theorem dX12_lots_17 : decode cX12_lots 17 = .ok (.aload_n 0, 1) := by decide +kernel
theorem dX12_lots_18 : decode cX12_lots 18 = .ok (.iload 4, 2) := by decide +kernel
theorem dX12_lots_20 : decode cX12_lots 20 = .ok (.invokevirtual 472, 3) := by decide +kernel
theorem dX12_lots_23 : decode cX12_lots 23 = .ok (.ifCond .eq 19, 3) := by decide +kernel
theorem dX12_lots_26 : decode cX12_lots 26 = .ok (.iload_n 3, 1) := by decide +kernel
theorem dX12_lots_27 : decode cX12_lots 27 = .ok (.iload 4, 2) := by decide +kernel
theorem dX12_lots_29 : decode cX12_lots 29 = .ok (.if_icmp .eq 13, 3) := by decide +kernel
theorem dX12_lots_32 : decode cX12_lots 32 = .ok (.iload 5, 2) := by decide +kernel
theorem dX12_lots_34 : decode cX12_lots 34 = .ok (.iconst 0, 1) := by decide +kernel
theorem dX12_lots_35 : decode cX12_lots 35 = .ok (.iconst 3, 1) := by decide +kernel
theorem dX12_lots_36 : decode cX12_lots 36 = .ok (.invokestatic 216, 3) := by decide +kernel
theorem dX12_lots_39 : decode cX12_lots 39 = .ok (.ifCond .ne 7, 3) := by decide +kernel
theorem dX12_lots_42 : decode cX12_lots 42 = .ok (.ldc2_w 204, 3) := by decide +kernel
theorem dX12_lots_45 : decode cX12_lots 45 = .ok (.lreturn, 1) := by decide +kernel
theorem dX12_lots_46 : decode cX12_lots 46 = .ok (.aload_n 0, 1) := by decide +kernel
theorem dX12_lots_47 : decode cX12_lots 47 = .ok (.iload_n 1, 1) := by decide +kernel
theorem dX12_lots_48 : decode cX12_lots 48 = .ok (.iload_n 2, 1) := by decide +kernel
theorem dX12_lots_49 : decode cX12_lots 49 = .ok (.iconst (-1), 1) := by decide +kernel
theorem dX12_lots_50 : decode cX12_lots 50 = .ok (.invokevirtual 464, 3) := by decide +kernel
theorem dX12_lots_53 : decode cX12_lots 53 = .ok (.iload_n 3, 1) := by decide +kernel
theorem dX12_lots_54 : decode cX12_lots 54 = .ok (.iload_n 3, 1) := by decide +kernel
theorem dX12_lots_55 : decode cX12_lots 55 = .ok (.iconst 0, 1) := by decide +kernel
theorem dX12_lots_56 : decode cX12_lots 56 = .ok (.invokestatic 454, 3) := by decide +kernel
theorem dX12_lots_59 : decode cX12_lots 59 = .ok (.istore 6, 2) := by decide +kernel
theorem dX12_lots_61 : decode cX12_lots 61 = .ok (.iload_n 3, 1) := by decide +kernel
theorem dX12_lots_62 : decode cX12_lots 62 = .ok (.iload 4, 2) := by decide +kernel
theorem dX12_lots_64 : decode cX12_lots 64 = .ok (.iconst 0, 1) := by decide +kernel
theorem dX12_lots_65 : decode cX12_lots 65 = .ok (.invokestatic 454, 3) := by decide +kernel
theorem dX12_lots_68 : decode cX12_lots 68 = .ok (.istore 7, 2) := by decide +kernel
theorem dX12_lots_70 : decode cX12_lots 70 = .ok (.iload 4, 2) := by decide +kernel
theorem dX12_lots_72 : decode cX12_lots 72 = .ok (.iload_n 3, 1) := by decide +kernel
theorem dX12_lots_73 : decode cX12_lots 73 = .ok (.iconst 0, 1) := by decide +kernel
theorem dX12_lots_74 : decode cX12_lots 74 = .ok (.invokestatic 454, 3) := by decide +kernel
theorem dX12_lots_77 : decode cX12_lots 77 = .ok (.istore 8, 2) := by decide +kernel
theorem dX12_lots_79 : decode cX12_lots 79 = .ok (.iload 4, 2) := by decide +kernel
theorem dX12_lots_81 : decode cX12_lots 81 = .ok (.iload 4, 2) := by decide +kernel
theorem dX12_lots_83 : decode cX12_lots 83 = .ok (.iconst 0, 1) := by decide +kernel
theorem dX12_lots_84 : decode cX12_lots 84 = .ok (.invokestatic 454, 3) := by decide +kernel
theorem dX12_lots_87 : decode cX12_lots 87 = .ok (.istore 9, 2) := by decide +kernel
theorem dX12_lots_89 : decode cX12_lots 89 = .ok (.aload_n 0, 1) := by decide +kernel
theorem dX12_lots_90 : decode cX12_lots 90 = .ok (.getfield 134, 3) := by decide +kernel
theorem dX12_lots_93 : decode cX12_lots 93 = .ok (.iload 6, 2) := by decide +kernel
theorem dX12_lots_95 : decode cX12_lots 95 = .ok (.baload, 1) := by decide +kernel
theorem dX12_lots_96 : decode cX12_lots 96 = .ok (.ifCond .eq 33, 3) := by decide +kernel
theorem dX12_lots_99 : decode cX12_lots 99 = .ok (.aload_n 0, 1) := by decide +kernel
theorem dX12_lots_100 : decode cX12_lots 100 = .ok (.getfield 134, 3) := by decide +kernel
theorem dX12_lots_103 : decode cX12_lots 103 = .ok (.iload 7, 2) := by decide +kernel
theorem dX12_lots_105 : decode cX12_lots 105 = .ok (.baload, 1) := by decide +kernel
theorem dX12_lots_106 : decode cX12_lots 106 = .ok (.ifCond .eq 23, 3) := by decide +kernel
theorem dX12_lots_109 : decode cX12_lots 109 = .ok (.aload_n 0, 1) := by decide +kernel
theorem dX12_lots_110 : decode cX12_lots 110 = .ok (.getfield 134, 3) := by decide +kernel
theorem dX12_lots_113 : decode cX12_lots 113 = .ok (.iload 8, 2) := by decide +kernel
theorem dX12_lots_115 : decode cX12_lots 115 = .ok (.baload, 1) := by decide +kernel
theorem dX12_lots_116 : decode cX12_lots 116 = .ok (.ifCond .eq 13, 3) := by decide +kernel
theorem dX12_lots_119 : decode cX12_lots 119 = .ok (.aload_n 0, 1) := by decide +kernel
theorem dX12_lots_120 : decode cX12_lots 120 = .ok (.getfield 134, 3) := by decide +kernel
theorem dX12_lots_123 : decode cX12_lots 123 = .ok (.iload 9, 2) := by decide +kernel
theorem dX12_lots_125 : decode cX12_lots 125 = .ok (.baload, 1) := by decide +kernel
theorem dX12_lots_126 : decode cX12_lots 126 = .ok (.ifCond .ne 7, 3) := by decide +kernel
theorem dX12_lots_129 : decode cX12_lots 129 = .ok (.ldc2_w 204, 3) := by decide +kernel
theorem dX12_lots_132 : decode cX12_lots 132 = .ok (.lreturn, 1) := by decide +kernel
theorem dX12_lots_133 : decode cX12_lots 133 = .ok (.iconst 0, 1) := by decide +kernel
theorem dX12_lots_134 : decode cX12_lots 134 = .ok (.istore 10, 2) := by decide +kernel
theorem dX12_lots_136 : decode cX12_lots 136 = .ok (.iload 10, 2) := by decide +kernel
theorem dX12_lots_138 : decode cX12_lots 138 = .ok (.iconst 4, 1) := by decide +kernel
theorem dX12_lots_139 : decode cX12_lots 139 = .ok (.if_icmp .ge 25, 3) := by decide +kernel
theorem dX12_lots_142 : decode cX12_lots 142 = .ok (.aload_n 0, 1) := by decide +kernel
theorem dX12_lots_143 : decode cX12_lots 143 = .ok (.iload_n 3, 1) := by decide +kernel
theorem dX12_lots_144 : decode cX12_lots 144 = .ok (.iload 4, 2) := by decide +kernel
theorem dX12_lots_146 : decode cX12_lots 146 = .ok (.iload 10, 2) := by decide +kernel
theorem dX12_lots_148 : decode cX12_lots 148 = .ok (.invokevirtual 475, 3) := by decide +kernel
theorem dX12_lots_151 : decode cX12_lots 151 = .ok (.ifCond .eq 7, 3) := by decide +kernel
theorem dX12_lots_154 : decode cX12_lots 154 = .ok (.ldc2_w 204, 3) := by decide +kernel
theorem dX12_lots_157 : decode cX12_lots 157 = .ok (.lreturn, 1) := by decide +kernel
theorem dX12_lots_158 : decode cX12_lots 158 = .ok (.iinc 10 1, 3) := by decide +kernel
theorem dX12_lots_161 : decode cX12_lots 161 = .ok (.goto (-25), 3) := by decide +kernel
theorem dX12_lots_164 : decode cX12_lots 164 = .ok (.iload 5, 2) := by decide +kernel
theorem dX12_lots_166 : decode cX12_lots 166 = .ok (.iconst 2, 1) := by decide +kernel
theorem dX12_lots_167 : decode cX12_lots 167 = .ok (.if_icmp .ge 7, 3) := by decide +kernel
theorem dX12_lots_170 : decode cX12_lots 170 = .ok (.iconst 1, 1) := by decide +kernel
theorem dX12_lots_171 : decode cX12_lots 171 = .ok (.goto 4, 3) := by decide +kernel
theorem dX12_lots_174 : decode cX12_lots 174 = .ok (.iconst 0, 1) := by decide +kernel
theorem dX12_lots_175 : decode cX12_lots 175 = .ok (.istore 10, 2) := by decide +kernel
theorem dX12_lots_177 : decode cX12_lots 177 = .ok (.iload 10, 2) := by decide +kernel
theorem dX12_lots_179 : decode cX12_lots 179 = .ok (.ifCond .eq 21, 3) := by decide +kernel
theorem dX12_lots_182 : decode cX12_lots 182 = .ok (.aload_n 0, 1) := by decide +kernel
theorem dX12_lots_183 : decode cX12_lots 183 = .ok (.getfield 140, 3) := by decide +kernel
theorem dX12_lots_186 : decode cX12_lots 186 = .ok (.iload 9, 2) := by decide +kernel
theorem dX12_lots_188 : decode cX12_lots 188 = .ok (.laload, 1) := by decide +kernel
theorem dX12_lots_189 : decode cX12_lots 189 = .ok (.aload_n 0, 1) := by decide +kernel
theorem dX12_lots_190 : decode cX12_lots 190 = .ok (.getfield 140, 3) := by decide +kernel
theorem dX12_lots_193 : decode cX12_lots 193 = .ok (.iload 8, 2) := by decide +kernel
theorem dX12_lots_195 : decode cX12_lots 195 = .ok (.laload, 1) := by decide +kernel
theorem dX12_lots_196 : decode cX12_lots 196 = .ok (.lsub, 1) := by decide +kernel
theorem dX12_lots_197 : decode cX12_lots 197 = .ok (.goto 18, 3) := by decide +kernel
theorem dX12_lots_200 : decode cX12_lots 200 = .ok (.aload_n 0, 1) := by decide +kernel
theorem dX12_lots_201 : decode cX12_lots 201 = .ok (.getfield 137, 3) := by decide +kernel
theorem dX12_lots_204 : decode cX12_lots 204 = .ok (.iload 9, 2) := by decide +kernel
theorem dX12_lots_206 : decode cX12_lots 206 = .ok (.laload, 1) := by decide +kernel
theorem dX12_lots_207 : decode cX12_lots 207 = .ok (.aload_n 0, 1) := by decide +kernel
theorem dX12_lots_208 : decode cX12_lots 208 = .ok (.getfield 137, 3) := by decide +kernel
theorem dX12_lots_211 : decode cX12_lots 211 = .ok (.iload 7, 2) := by decide +kernel
theorem dX12_lots_213 : decode cX12_lots 213 = .ok (.laload, 1) := by decide +kernel
theorem dX12_lots_214 : decode cX12_lots 214 = .ok (.lsub, 1) := by decide +kernel
theorem dX12_lots_215 : decode cX12_lots 215 = .ok (.lstore 11, 2) := by decide +kernel
theorem dX12_lots_217 : decode cX12_lots 217 = .ok (.iload 10, 2) := by decide +kernel
theorem dX12_lots_219 : decode cX12_lots 219 = .ok (.ifCond .eq 37, 3) := by decide +kernel
theorem dX12_lots_222 : decode cX12_lots 222 = .ok (.aload_n 0, 1) := by decide +kernel
theorem dX12_lots_223 : decode cX12_lots 223 = .ok (.getfield 140, 3) := by decide +kernel
theorem dX12_lots_226 : decode cX12_lots 226 = .ok (.iload 6, 2) := by decide +kernel
theorem dX12_lots_228 : decode cX12_lots 228 = .ok (.laload, 1) := by decide +kernel
theorem dX12_lots_229 : decode cX12_lots 229 = .ok (.aload_n 0, 1) := by decide +kernel
theorem dX12_lots_230 : decode cX12_lots 230 = .ok (.getfield 140, 3) := by decide +kernel
theorem dX12_lots_233 : decode cX12_lots 233 = .ok (.iload 7, 2) := by decide +kernel
theorem dX12_lots_235 : decode cX12_lots 235 = .ok (.laload, 1) := by decide +kernel
theorem dX12_lots_236 : decode cX12_lots 236 = .ok (.lsub, 1) := by decide +kernel
theorem dX12_lots_237 : decode cX12_lots 237 = .ok (.aload_n 0, 1) := by decide +kernel
theorem dX12_lots_238 : decode cX12_lots 238 = .ok (.getfield 140, 3) := by decide +kernel
theorem dX12_lots_241 : decode cX12_lots 241 = .ok (.iload 8, 2) := by decide +kernel
theorem dX12_lots_243 : decode cX12_lots 243 = .ok (.laload, 1) := by decide +kernel
theorem dX12_lots_244 : decode cX12_lots 244 = .ok (.lsub, 1) := by decide +kernel
theorem dX12_lots_245 : decode cX12_lots 245 = .ok (.aload_n 0, 1) := by decide +kernel
theorem dX12_lots_246 : decode cX12_lots 246 = .ok (.getfield 140, 3) := by decide +kernel
theorem dX12_lots_249 : decode cX12_lots 249 = .ok (.iload 9, 2) := by decide +kernel
theorem dX12_lots_251 : decode cX12_lots 251 = .ok (.laload, 1) := by decide +kernel
theorem dX12_lots_252 : decode cX12_lots 252 = .ok (.ladd, 1) := by decide +kernel
theorem dX12_lots_253 : decode cX12_lots 253 = .ok (.goto 34, 3) := by decide +kernel
theorem dX12_lots_256 : decode cX12_lots 256 = .ok (.aload_n 0, 1) := by decide +kernel
theorem dX12_lots_257 : decode cX12_lots 257 = .ok (.getfield 137, 3) := by decide +kernel
theorem dX12_lots_260 : decode cX12_lots 260 = .ok (.iload 6, 2) := by decide +kernel
theorem dX12_lots_262 : decode cX12_lots 262 = .ok (.laload, 1) := by decide +kernel
theorem dX12_lots_263 : decode cX12_lots 263 = .ok (.aload_n 0, 1) := by decide +kernel
theorem dX12_lots_264 : decode cX12_lots 264 = .ok (.getfield 137, 3) := by decide +kernel
theorem dX12_lots_267 : decode cX12_lots 267 = .ok (.iload 7, 2) := by decide +kernel
theorem dX12_lots_269 : decode cX12_lots 269 = .ok (.laload, 1) := by decide +kernel
theorem dX12_lots_270 : decode cX12_lots 270 = .ok (.lsub, 1) := by decide +kernel
theorem dX12_lots_271 : decode cX12_lots 271 = .ok (.aload_n 0, 1) := by decide +kernel
theorem dX12_lots_272 : decode cX12_lots 272 = .ok (.getfield 137, 3) := by decide +kernel
theorem dX12_lots_275 : decode cX12_lots 275 = .ok (.iload 8, 2) := by decide +kernel
theorem dX12_lots_277 : decode cX12_lots 277 = .ok (.laload, 1) := by decide +kernel
theorem dX12_lots_278 : decode cX12_lots 278 = .ok (.lsub, 1) := by decide +kernel
theorem dX12_lots_279 : decode cX12_lots 279 = .ok (.aload_n 0, 1) := by decide +kernel
theorem dX12_lots_280 : decode cX12_lots 280 = .ok (.getfield 137, 3) := by decide +kernel
theorem dX12_lots_283 : decode cX12_lots 283 = .ok (.iload 9, 2) := by decide +kernel
theorem dX12_lots_285 : decode cX12_lots 285 = .ok (.laload, 1) := by decide +kernel
theorem dX12_lots_286 : decode cX12_lots 286 = .ok (.ladd, 1) := by decide +kernel
theorem dX12_lots_287 : decode cX12_lots 287 = .ok (.lstore 13, 2) := by decide +kernel
theorem dX12_lots_289 : decode cX12_lots 289 = .ok (.lload 11, 2) := by decide +kernel
theorem dX12_lots_291 : decode cX12_lots 291 = .ok (.lload 13, 2) := by decide +kernel
theorem dX12_lots_293 : decode cX12_lots 293 = .ok (.invokestatic 478, 3) := by decide +kernel
theorem dX12_lots_296 : decode cX12_lots 296 = .ok (.lstore 15, 2) := by decide +kernel
theorem dX12_lots_298 : decode cX12_lots 298 = .ok (.lload 13, 2) := by decide +kernel
theorem dX12_lots_300 : decode cX12_lots 300 = .ok (.lconst 0, 1) := by decide +kernel
theorem dX12_lots_301 : decode cX12_lots 301 = .ok (.lcmp, 1) := by decide +kernel
theorem dX12_lots_302 : decode cX12_lots 302 = .ok (.ifCond .ge 8, 3) := by decide +kernel
theorem dX12_lots_305 : decode cX12_lots 305 = .ok (.lload 15, 2) := by decide +kernel
theorem dX12_lots_307 : decode cX12_lots 307 = .ok (.lneg, 1) := by decide +kernel
theorem dX12_lots_308 : decode cX12_lots 308 = .ok (.lstore 15, 2) := by decide +kernel
theorem dX12_lots_310 : decode cX12_lots 310 = .ok (.iload 5, 2) := by decide +kernel
theorem dX12_lots_312 : decode cX12_lots 312 = .ok (.iconst 2, 1) := by decide +kernel
theorem dX12_lots_313 : decode cX12_lots 313 = .ok (.irem, 1) := by decide +kernel
theorem dX12_lots_314 : decode cX12_lots 314 = .ok (.ifCond .ne 11, 3) := by decide +kernel
theorem dX12_lots_317 : decode cX12_lots 317 = .ok (.lload 11, 2) := by decide +kernel
theorem dX12_lots_319 : decode cX12_lots 319 = .ok (.lload 15, 2) := by decide +kernel
theorem dX12_lots_321 : decode cX12_lots 321 = .ok (.ldiv, 1) := by decide +kernel
theorem dX12_lots_322 : decode cX12_lots 322 = .ok (.goto 8, 3) := by decide +kernel
theorem dX12_lots_325 : decode cX12_lots 325 = .ok (.lload 13, 2) := by decide +kernel
theorem dX12_lots_327 : decode cX12_lots 327 = .ok (.lload 15, 2) := by decide +kernel
theorem dX12_lots_329 : decode cX12_lots 329 = .ok (.ldiv, 1) := by decide +kernel
theorem dX12_lots_330 : decode cX12_lots 330 = .ok (.lreturn, 1) := by decide +kernel
theorem dX12_answerTo_0 : decode cX12_answerTo 0 = .ok (.iconst (-1), 1) := by decide +kernel
theorem dX12_answerTo_1 : decode cX12_answerTo 1 = .ok (.istore_n 3, 1) := by decide +kernel
theorem dX12_answerTo_2 : decode cX12_answerTo 2 = .ok (.iconst 0, 1) := by decide +kernel
theorem dX12_answerTo_3 : decode cX12_answerTo 3 = .ok (.istore 4, 2) := by decide +kernel
theorem dX12_answerTo_5 : decode cX12_answerTo 5 = .ok (.iload 4, 2) := by decide +kernel
theorem dX12_answerTo_7 : decode cX12_answerTo 7 = .ok (.aload_n 0, 1) := by decide +kernel
theorem dX12_answerTo_8 : decode cX12_answerTo 8 = .ok (.getfield 272, 3) := by decide +kernel
theorem dX12_answerTo_11 : decode cX12_answerTo 11 = .ok (.if_icmp .ge 125, 3) := by decide +kernel
theorem dX12_answerTo_14 : decode cX12_answerTo 14 = .ok (.iload_n 2, 1) := by decide +kernel
theorem dX12_answerTo_15 : decode cX12_answerTo 15 = .ok (.ifCond .eq 13, 3) := by decide +kernel
theorem dX12_answerTo_18 : decode cX12_answerTo 18 = .ok (.iload_n 1, 1) := by decide +kernel
theorem dX12_answerTo_19 : decode cX12_answerTo 19 = .ok (.iload 4, 2) := by decide +kernel
theorem dX12_answerTo_21 : decode cX12_answerTo 21 = .ok (.iconst 0, 1) := by decide +kernel
theorem dX12_answerTo_22 : decode cX12_answerTo 22 = .ok (.invokestatic 454, 3) := by decide +kernel
theorem dX12_answerTo_25 : decode cX12_answerTo 25 = .ok (.goto 10, 3) := by decide +kernel
theorem dX12_answerTo_28 : decode cX12_answerTo 28 = .ok (.iload 4, 2) := by decide +kernel
theorem dX12_answerTo_30 : decode cX12_answerTo 30 = .ok (.iload_n 1, 1) := by decide +kernel
theorem dX12_answerTo_31 : decode cX12_answerTo 31 = .ok (.iconst 0, 1) := by decide +kernel
theorem dX12_answerTo_32 : decode cX12_answerTo 32 = .ok (.invokestatic 454, 3) := by decide +kernel
theorem dX12_answerTo_35 : decode cX12_answerTo 35 = .ok (.istore 5, 2) := by decide +kernel
theorem dX12_answerTo_37 : decode cX12_answerTo 37 = .ok (.aload_n 0, 1) := by decide +kernel
theorem dX12_answerTo_38 : decode cX12_answerTo 38 = .ok (.getfield 134, 3) := by decide +kernel
theorem dX12_answerTo_41 : decode cX12_answerTo 41 = .ok (.iload 5, 2) := by decide +kernel
theorem dX12_answerTo_43 : decode cX12_answerTo 43 = .ok (.baload, 1) := by decide +kernel
theorem dX12_answerTo_44 : decode cX12_answerTo 44 = .ok (.ifCond .ne 6, 3) := by decide +kernel
theorem dX12_answerTo_47 : decode cX12_answerTo 47 = .ok (.goto 83, 3) := by decide +kernel
theorem dX12_answerTo_50 : decode cX12_answerTo 50 = .ok (.iload_n 3, 1) := by decide +kernel
theorem dX12_answerTo_51 : decode cX12_answerTo 51 = .ok (.ifCond .ge 8, 3) := by decide +kernel
theorem dX12_answerTo_54 : decode cX12_answerTo 54 = .ok (.iload 5, 2) := by decide +kernel
theorem dX12_answerTo_56 : decode cX12_answerTo 56 = .ok (.goto 22, 3) := by decide +kernel
theorem dX12_answerTo_59 : decode cX12_answerTo 59 = .ok (.iload_n 2, 1) := by decide +kernel
theorem dX12_answerTo_60 : decode cX12_answerTo 60 = .ok (.ifCond .eq 12, 3) := by decide +kernel
theorem dX12_answerTo_63 : decode cX12_answerTo 63 = .ok (.iload_n 1, 1) := by decide +kernel
theorem dX12_answerTo_64 : decode cX12_answerTo 64 = .ok (.iload_n 3, 1) := by decide +kernel
theorem dX12_answerTo_65 : decode cX12_answerTo 65 = .ok (.iconst 0, 1) := by decide +kernel
theorem dX12_answerTo_66 : decode cX12_answerTo 66 = .ok (.invokestatic 454, 3) := by decide +kernel
theorem dX12_answerTo_69 : decode cX12_answerTo 69 = .ok (.goto 9, 3) := by decide +kernel
theorem dX12_answerTo_72 : decode cX12_answerTo 72 = .ok (.iload_n 3, 1) := by decide +kernel
theorem dX12_answerTo_73 : decode cX12_answerTo 73 = .ok (.iload_n 1, 1) := by decide +kernel
theorem dX12_answerTo_74 : decode cX12_answerTo 74 = .ok (.iconst 0, 1) := by decide +kernel
theorem dX12_answerTo_75 : decode cX12_answerTo 75 = .ok (.invokestatic 454, 3) := by decide +kernel
theorem dX12_answerTo_78 : decode cX12_answerTo 78 = .ok (.istore 6, 2) := by decide +kernel
theorem dX12_answerTo_80 : decode cX12_answerTo 80 = .ok (.iload_n 3, 1) := by decide +kernel
theorem dX12_answerTo_81 : decode cX12_answerTo 81 = .ok (.ifCond .lt 46, 3) := by decide +kernel
theorem dX12_answerTo_84 : decode cX12_answerTo 84 = .ok (.iload_n 2, 1) := by decide +kernel
theorem dX12_answerTo_85 : decode cX12_answerTo 85 = .ok (.ifCond .eq 24, 3) := by decide +kernel
theorem dX12_answerTo_88 : decode cX12_answerTo 88 = .ok (.aload_n 0, 1) := by decide +kernel
theorem dX12_answerTo_89 : decode cX12_answerTo 89 = .ok (.getfield 140, 3) := by decide +kernel
theorem dX12_answerTo_92 : decode cX12_answerTo 92 = .ok (.iload 5, 2) := by decide +kernel
theorem dX12_answerTo_94 : decode cX12_answerTo 94 = .ok (.laload, 1) := by decide +kernel
theorem dX12_answerTo_95 : decode cX12_answerTo 95 = .ok (.aload_n 0, 1) := by decide +kernel
theorem dX12_answerTo_96 : decode cX12_answerTo 96 = .ok (.getfield 140, 3) := by decide +kernel
theorem dX12_answerTo_99 : decode cX12_answerTo 99 = .ok (.iload 6, 2) := by decide +kernel
theorem dX12_answerTo_101 : decode cX12_answerTo 101 = .ok (.laload, 1) := by decide +kernel
theorem dX12_answerTo_102 : decode cX12_answerTo 102 = .ok (.lcmp, 1) := by decide +kernel
theorem dX12_answerTo_103 : decode cX12_answerTo 103 = .ok (.ifCond .le 27, 3) := by decide +kernel
theorem dX12_answerTo_106 : decode cX12_answerTo 106 = .ok (.goto 21, 3) := by decide +kernel
theorem dX12_answerTo_109 : decode cX12_answerTo 109 = .ok (.aload_n 0, 1) := by decide +kernel
theorem dX12_answerTo_110 : decode cX12_answerTo 110 = .ok (.getfield 137, 3) := by decide +kernel
theorem dX12_answerTo_113 : decode cX12_answerTo 113 = .ok (.iload 5, 2) := by decide +kernel
theorem dX12_answerTo_115 : decode cX12_answerTo 115 = .ok (.laload, 1) := by decide +kernel
theorem dX12_answerTo_116 : decode cX12_answerTo 116 = .ok (.aload_n 0, 1) := by decide +kernel
theorem dX12_answerTo_117 : decode cX12_answerTo 117 = .ok (.getfield 137, 3) := by decide +kernel
theorem dX12_answerTo_120 : decode cX12_answerTo 120 = .ok (.iload 6, 2) := by decide +kernel
theorem dX12_answerTo_122 : decode cX12_answerTo 122 = .ok (.laload, 1) := by decide +kernel
theorem dX12_answerTo_123 : decode cX12_answerTo 123 = .ok (.lcmp, 1) := by decide +kernel
theorem dX12_answerTo_124 : decode cX12_answerTo 124 = .ok (.ifCond .le 6, 3) := by decide +kernel
theorem dX12_answerTo_127 : decode cX12_answerTo 127 = .ok (.iload 4, 2) := by decide +kernel
theorem dX12_answerTo_129 : decode cX12_answerTo 129 = .ok (.istore_n 3, 1) := by decide +kernel
theorem dX12_answerTo_130 : decode cX12_answerTo 130 = .ok (.iinc 4 1, 3) := by decide +kernel
theorem dX12_answerTo_133 : decode cX12_answerTo 133 = .ok (.goto (-128), 3) := by decide +kernel
theorem dX12_answerTo_136 : decode cX12_answerTo 136 = .ok (.iload_n 3, 1) := by decide +kernel
theorem dX12_answerTo_137 : decode cX12_answerTo 137 = .ok (.ireturn, 1) := by decide +kernel
theorem dX12_leads_0 : decode cX12_leads 0 = .ok (.aload_n 0, 1) := by decide +kernel
theorem dX12_leads_1 : decode cX12_leads 1 = .ok (.iconst (-1), 1) := by decide +kernel
theorem dX12_leads_2 : decode cX12_leads 2 = .ok (.putfield 482, 3) := by decide +kernel
theorem dX12_leads_5 : decode cX12_leads 5 = .ok (.lconst 0, 1) := by decide +kernel
theorem dX12_leads_6 : decode cX12_leads 6 = .ok (.lstore_n 2, 1) := by decide +kernel
theorem dX12_leads_7 : decode cX12_leads 7 = .ok (.iconst 0, 1) := by decide +kernel
theorem dX12_leads_8 : decode cX12_leads 8 = .ok (.istore 4, 2) := by decide +kernel
theorem dX12_leads_10 : decode cX12_leads 10 = .ok (.iload 4, 2) := by decide +kernel
theorem dX12_leads_12 : decode cX12_leads 12 = .ok (.aload_n 0, 1) := by decide +kernel
theorem dX12_leads_13 : decode cX12_leads 13 = .ok (.getfield 272, 3) := by decide +kernel
theorem dX12_leads_16 : decode cX12_leads 16 = .ok (.if_icmp .ge 93, 3) := by decide +kernel
theorem dX12_leads_19 : decode cX12_leads 19 = .ok (.aload_n 0, 1) := by decide +kernel
theorem dX12_leads_20 : decode cX12_leads 20 = .ok (.iload 4, 2) := by decide +kernel
theorem dX12_leads_22 : decode cX12_leads 22 = .ok (.iload_n 1, 1) := by decide +kernel
theorem dX12_leads_23 : decode cX12_leads 23 = .ok (.invokevirtual 485, 3) := by decide +kernel
theorem dX12_leads_26 : decode cX12_leads 26 = .ok (.istore 5, 2) := by decide +kernel
theorem dX12_leads_28 : decode cX12_leads 28 = .ok (.iload 5, 2) := by decide +kernel
theorem dX12_leads_30 : decode cX12_leads 30 = .ok (.ifCond .ge 6, 3) := by decide +kernel
theorem dX12_leads_33 : decode cX12_leads 33 = .ok (.goto 70, 3) := by decide +kernel
theorem dX12_leads_36 : decode cX12_leads 36 = .ok (.iload_n 1, 1) := by decide +kernel
theorem dX12_leads_37 : decode cX12_leads 37 = .ok (.ifCond .eq 19, 3) := by decide +kernel
theorem dX12_leads_40 : decode cX12_leads 40 = .ok (.aload_n 0, 1) := by decide +kernel
theorem dX12_leads_41 : decode cX12_leads 41 = .ok (.getfield 137, 3) := by decide +kernel
theorem dX12_leads_44 : decode cX12_leads 44 = .ok (.iload 4, 2) := by decide +kernel
theorem dX12_leads_46 : decode cX12_leads 46 = .ok (.iload 5, 2) := by decide +kernel
theorem dX12_leads_48 : decode cX12_leads 48 = .ok (.iconst 0, 1) := by decide +kernel
theorem dX12_leads_49 : decode cX12_leads 49 = .ok (.invokestatic 454, 3) := by decide +kernel
theorem dX12_leads_52 : decode cX12_leads 52 = .ok (.laload, 1) := by decide +kernel
theorem dX12_leads_53 : decode cX12_leads 53 = .ok (.goto 16, 3) := by decide +kernel
theorem dX12_leads_56 : decode cX12_leads 56 = .ok (.aload_n 0, 1) := by decide +kernel
theorem dX12_leads_57 : decode cX12_leads 57 = .ok (.getfield 140, 3) := by decide +kernel
theorem dX12_leads_60 : decode cX12_leads 60 = .ok (.iload 5, 2) := by decide +kernel
theorem dX12_leads_62 : decode cX12_leads 62 = .ok (.iload 4, 2) := by decide +kernel
theorem dX12_leads_64 : decode cX12_leads 64 = .ok (.iconst 0, 1) := by decide +kernel
theorem dX12_leads_65 : decode cX12_leads 65 = .ok (.invokestatic 454, 3) := by decide +kernel
theorem dX12_leads_68 : decode cX12_leads 68 = .ok (.laload, 1) := by decide +kernel
theorem dX12_leads_69 : decode cX12_leads 69 = .ok (.lstore 6, 2) := by decide +kernel
theorem dX12_leads_71 : decode cX12_leads 71 = .ok (.aload_n 0, 1) := by decide +kernel
theorem dX12_leads_72 : decode cX12_leads 72 = .ok (.getfield 482, 3) := by decide +kernel
theorem dX12_leads_75 : decode cX12_leads 75 = .ok (.ifCond .lt 13, 3) := by decide +kernel
theorem dX12_leads_78 : decode cX12_leads 78 = .ok (.lload 6, 2) := by decide +kernel
theorem dX12_leads_80 : decode cX12_leads 80 = .ok (.lload_n 2, 1) := by decide +kernel
theorem dX12_leads_81 : decode cX12_leads 81 = .ok (.lcmp, 1) := by decide +kernel
theorem dX12_leads_82 : decode cX12_leads 82 = .ok (.ifCond .gt 6, 3) := by decide +kernel
theorem dX12_leads_85 : decode cX12_leads 85 = .ok (.goto 18, 3) := by decide +kernel
theorem dX12_leads_88 : decode cX12_leads 88 = .ok (.lload 6, 2) := by decide +kernel
theorem dX12_leads_90 : decode cX12_leads 90 = .ok (.lstore_n 2, 1) := by decide +kernel
theorem dX12_leads_91 : decode cX12_leads 91 = .ok (.aload_n 0, 1) := by decide +kernel
theorem dX12_leads_92 : decode cX12_leads 92 = .ok (.iload 4, 2) := by decide +kernel
theorem dX12_leads_94 : decode cX12_leads 94 = .ok (.putfield 482, 3) := by decide +kernel
theorem dX12_leads_97 : decode cX12_leads 97 = .ok (.aload_n 0, 1) := by decide +kernel
theorem dX12_leads_98 : decode cX12_leads 98 = .ok (.iload 5, 2) := by decide +kernel
theorem dX12_leads_100 : decode cX12_leads 100 = .ok (.putfield 489, 3) := by decide +kernel
theorem dX12_leads_103 : decode cX12_leads 103 = .ok (.iinc 4 1, 3) := by decide +kernel
theorem dX12_leads_106 : decode cX12_leads 106 = .ok (.goto (-96), 3) := by decide +kernel
theorem dX12_leads_109 : decode cX12_leads 109 = .ok (.aload_n 0, 1) := by decide +kernel
theorem dX12_leads_110 : decode cX12_leads 110 = .ok (.getfield 482, 3) := by decide +kernel
theorem dX12_leads_113 : decode cX12_leads 113 = .ok (.ifCond .lt 7, 3) := by decide +kernel
theorem dX12_leads_116 : decode cX12_leads 116 = .ok (.iconst 1, 1) := by decide +kernel
theorem dX12_leads_117 : decode cX12_leads 117 = .ok (.goto 4, 3) := by decide +kernel
theorem dX12_leads_120 : decode cX12_leads 120 = .ok (.iconst 0, 1) := by decide +kernel
theorem dX12_leads_121 : decode cX12_leads 121 = .ok (.ireturn, 1) := by decide +kernel
theorem dX12_lead_0 : decode cX12_lead 0 = .ok (.aload_n 0, 1) := by decide +kernel
theorem dX12_lead_1 : decode cX12_lead 1 = .ok (.iload_n 1, 1) := by decide +kernel
theorem dX12_lead_2 : decode cX12_lead 2 = .ok (.iload_n 2, 1) := by decide +kernel
theorem dX12_lead_3 : decode cX12_lead 3 = .ok (.invokevirtual 461, 3) := by decide +kernel
theorem dX12_lead_6 : decode cX12_lead 6 = .ok (.ifCond .eq 12, 3) := by decide +kernel
theorem dX12_lead_9 : decode cX12_lead 9 = .ok (.iload_n 3, 1) := by decide +kernel
theorem dX12_lead_10 : decode cX12_lead 10 = .ok (.iconst 0, 1) := by decide +kernel
theorem dX12_lead_11 : decode cX12_lead 11 = .ok (.iconst 4, 1) := by decide +kernel
theorem dX12_lead_12 : decode cX12_lead 12 = .ok (.invokestatic 216, 3) := by decide +kernel
theorem dX12_lead_15 : decode cX12_lead 15 = .ok (.ifCond .ne 7, 3) := by decide +kernel
theorem dX12_lead_18 : decode cX12_lead 18 = .ok (.ldc2_w 492, 3) := by decide +kernel
theorem dX12_lead_21 : decode cX12_lead 21 = .ok (.lreturn, 1) := by decide +kernel
theorem dX12_lead_22 : decode cX12_lead 22 = .ok (.aload_n 0, 1) := by decide +kernel
theorem dX12_lead_23 : decode cX12_lead 23 = .ok (.iload_n 1, 1) := by decide +kernel
theorem dX12_lead_24 : decode cX12_lead 24 = .ok (.iload_n 2, 1) := by decide +kernel
theorem dX12_lead_25 : decode cX12_lead 25 = .ok (.iconst (-1), 1) := by decide +kernel
theorem dX12_lead_26 : decode cX12_lead 26 = .ok (.invokevirtual 464, 3) := by decide +kernel
theorem dX12_lead_29 : decode cX12_lead 29 = .ok (.aload_n 0, 1) := by decide +kernel
theorem dX12_lead_30 : decode cX12_lead 30 = .ok (.iconst 1, 1) := by decide +kernel
theorem dX12_lead_31 : decode cX12_lead 31 = .ok (.invokevirtual 494, 3) := by decide +kernel
theorem dX12_lead_34 : decode cX12_lead 34 = .ok (.ifCond .ne 7, 3) := by decide +kernel
theorem dX12_lead_37 : decode cX12_lead 37 = .ok (.ldc2_w 492, 3) := by decide +kernel
theorem dX12_lead_40 : decode cX12_lead 40 = .ok (.lreturn, 1) := by decide +kernel
theorem dX12_lead_41 : decode cX12_lead 41 = .ok (.aload_n 0, 1) := by decide +kernel
theorem dX12_lead_42 : decode cX12_lead 42 = .ok (.getfield 482, 3) := by decide +kernel
theorem dX12_lead_45 : decode cX12_lead 45 = .ok (.aload_n 0, 1) := by decide +kernel
theorem dX12_lead_46 : decode cX12_lead 46 = .ok (.getfield 489, 3) := by decide +kernel
theorem dX12_lead_49 : decode cX12_lead 49 = .ok (.iconst 0, 1) := by decide +kernel
theorem dX12_lead_50 : decode cX12_lead 50 = .ok (.invokestatic 454, 3) := by decide +kernel
theorem dX12_lead_53 : decode cX12_lead 53 = .ok (.istore 4, 2) := by decide +kernel
theorem dX12_lead_55 : decode cX12_lead 55 = .ok (.iload_n 3, 1) := by decide +kernel
theorem dX12_lead_56 : decode cX12_lead 56 = .ok (.iconst 2, 1) := by decide +kernel
theorem dX12_lead_57 : decode cX12_lead 57 = .ok (.if_icmp .ge 21, 3) := by decide +kernel
theorem dX12_lead_60 : decode cX12_lead 60 = .ok (.iload_n 3, 1) := by decide +kernel
theorem dX12_lead_61 : decode cX12_lead 61 = .ok (.ifCond .ne 11, 3) := by decide +kernel
theorem dX12_lead_64 : decode cX12_lead 64 = .ok (.aload_n 0, 1) := by decide +kernel
theorem dX12_lead_65 : decode cX12_lead 65 = .ok (.getfield 482, 3) := by decide +kernel
theorem dX12_lead_68 : decode cX12_lead 68 = .ok (.i2l, 1) := by decide +kernel
theorem dX12_lead_69 : decode cX12_lead 69 = .ok (.goto 8, 3) := by decide +kernel
theorem dX12_lead_72 : decode cX12_lead 72 = .ok (.aload_n 0, 1) := by decide +kernel
theorem dX12_lead_73 : decode cX12_lead 73 = .ok (.getfield 489, 3) := by decide +kernel
theorem dX12_lead_76 : decode cX12_lead 76 = .ok (.i2l, 1) := by decide +kernel
theorem dX12_lead_77 : decode cX12_lead 77 = .ok (.lreturn, 1) := by decide +kernel
theorem dX12_lead_78 : decode cX12_lead 78 = .ok (.iload_n 3, 1) := by decide +kernel
theorem dX12_lead_79 : decode cX12_lead 79 = .ok (.iconst 4, 1) := by decide +kernel
theorem dX12_lead_80 : decode cX12_lead 80 = .ok (.if_icmp .ge 26, 3) := by decide +kernel
theorem dX12_lead_83 : decode cX12_lead 83 = .ok (.iload_n 3, 1) := by decide +kernel
theorem dX12_lead_84 : decode cX12_lead 84 = .ok (.iconst 2, 1) := by decide +kernel
theorem dX12_lead_85 : decode cX12_lead 85 = .ok (.if_icmp .ne 13, 3) := by decide +kernel
theorem dX12_lead_88 : decode cX12_lead 88 = .ok (.aload_n 0, 1) := by decide +kernel
theorem dX12_lead_89 : decode cX12_lead 89 = .ok (.getfield 137, 3) := by decide +kernel
theorem dX12_lead_92 : decode cX12_lead 92 = .ok (.iload 4, 2) := by decide +kernel
theorem dX12_lead_94 : decode cX12_lead 94 = .ok (.laload, 1) := by decide +kernel
theorem dX12_lead_95 : decode cX12_lead 95 = .ok (.goto 10, 3) := by decide +kernel
theorem dX12_lead_98 : decode cX12_lead 98 = .ok (.aload_n 0, 1) := by decide +kernel
theorem dX12_lead_99 : decode cX12_lead 99 = .ok (.getfield 140, 3) := by decide +kernel
theorem dX12_lead_102 : decode cX12_lead 102 = .ok (.iload 4, 2) := by decide +kernel
theorem dX12_lead_104 : decode cX12_lead 104 = .ok (.laload, 1) := by decide +kernel
theorem dX12_lead_105 : decode cX12_lead 105 = .ok (.lreturn, 1) := by decide +kernel
theorem dX12_lead_106 : decode cX12_lead 106 = .ok (.aload_n 0, 1) := by decide +kernel
theorem dX12_lead_107 : decode cX12_lead 107 = .ok (.iconst 0, 1) := by decide +kernel
theorem dX12_lead_108 : decode cX12_lead 108 = .ok (.invokevirtual 494, 3) := by decide +kernel
theorem dX12_lead_111 : decode cX12_lead 111 = .ok (.pop, 1) := by decide +kernel
theorem dX12_lead_112 : decode cX12_lead 112 = .ok (.aload_n 0, 1) := by decide +kernel
theorem dX12_lead_113 : decode cX12_lead 113 = .ok (.getfield 137, 3) := by decide +kernel
theorem dX12_lead_116 : decode cX12_lead 116 = .ok (.iload 4, 2) := by decide +kernel
theorem dX12_lead_118 : decode cX12_lead 118 = .ok (.laload, 1) := by decide +kernel
theorem dX12_lead_119 : decode cX12_lead 119 = .ok (.aload_n 0, 1) := by decide +kernel
theorem dX12_lead_120 : decode cX12_lead 120 = .ok (.getfield 137, 3) := by decide +kernel
theorem dX12_lead_123 : decode cX12_lead 123 = .ok (.aload_n 0, 1) := by decide +kernel
theorem dX12_lead_124 : decode cX12_lead 124 = .ok (.getfield 489, 3) := by decide +kernel
theorem dX12_lead_127 : decode cX12_lead 127 = .ok (.aload_n 0, 1) := by decide +kernel
theorem dX12_lead_128 : decode cX12_lead 128 = .ok (.getfield 482, 3) := by decide +kernel
theorem dX12_lead_131 : decode cX12_lead 131 = .ok (.iconst 0, 1) := by decide +kernel
theorem dX12_lead_132 : decode cX12_lead 132 = .ok (.invokestatic 454, 3) := by decide +kernel
theorem dX12_lead_135 : decode cX12_lead 135 = .ok (.laload, 1) := by decide +kernel
theorem dX12_lead_136 : decode cX12_lead 136 = .ok (.lsub, 1) := by decide +kernel
theorem dX12_lead_137 : decode cX12_lead 137 = .ok (.lreturn, 1) := by decide +kernel
theorem dX12_asks_0 : decode cX12_asks 0 = .ok (.aload_n 0, 1) := by decide +kernel
theorem dX12_asks_1 : decode cX12_asks 1 = .ok (.getfield 110, 3) := by decide +kernel
theorem dX12_asks_4 : decode cX12_asks 4 = .ok (.iload_n 1, 1) := by decide +kernel
theorem dX12_asks_5 : decode cX12_asks 5 = .ok (.iaload, 1) := by decide +kernel
theorem dX12_asks_6 : decode cX12_asks 6 = .ok (.istore_n 3, 1) := by decide +kernel
theorem dX12_asks_7 : decode cX12_asks 7 = .ok (.aload_n 0, 1) := by decide +kernel
theorem dX12_asks_8 : decode cX12_asks 8 = .ok (.getfield 110, 3) := by decide +kernel
theorem dX12_asks_11 : decode cX12_asks 11 = .ok (.iload_n 2, 1) := by decide +kernel
theorem dX12_asks_12 : decode cX12_asks 12 = .ok (.iaload, 1) := by decide +kernel
theorem dX12_asks_13 : decode cX12_asks 13 = .ok (.istore 4, 2) := by decide +kernel
theorem dX12_asks_15 : decode cX12_asks 15 = .ok (.aload_n 0, 1) := by decide +kernel
theorem dX12_asks_16 : decode cX12_asks 16 = .ok (.aload_n 0, 1) := by decide +kernel
theorem dX12_asks_17 : decode cX12_asks 17 = .ok (.getfield 351, 3) := by decide +kernel
theorem dX12_asks_20 : decode cX12_asks 20 = .ok (.ifCond .lt 10, 3) := by decide +kernel
theorem dX12_asks_23 : decode cX12_asks 23 = .ok (.aload_n 0, 1) := by decide +kernel
theorem dX12_asks_24 : decode cX12_asks 24 = .ok (.getfield 351, 3) := by decide +kernel
theorem dX12_asks_27 : decode cX12_asks 27 = .ok (.goto 7, 3) := by decide +kernel
theorem dX12_asks_30 : decode cX12_asks 30 = .ok (.aload_n 0, 1) := by decide +kernel
theorem dX12_asks_31 : decode cX12_asks 31 = .ok (.getfield 16, 3) := by decide +kernel
theorem dX12_asks_34 : decode cX12_asks 34 = .ok (.putfield 498, 3) := by decide +kernel
theorem dX12_asks_37 : decode cX12_asks 37 = .ok (.aload_n 0, 1) := by decide +kernel
theorem dX12_asks_38 : decode cX12_asks 38 = .ok (.aload_n 0, 1) := by decide +kernel
theorem dX12_asks_39 : decode cX12_asks 39 = .ok (.getfield 351, 3) := by decide +kernel
theorem dX12_asks_42 : decode cX12_asks 42 = .ok (.ifCond .lt 7, 3) := by decide +kernel
theorem dX12_asks_45 : decode cX12_asks 45 = .ok (.iconst 1, 1) := by decide +kernel
theorem dX12_asks_46 : decode cX12_asks 46 = .ok (.goto 14, 3) := by decide +kernel
theorem dX12_asks_49 : decode cX12_asks 49 = .ok (.aload_n 0, 1) := by decide +kernel
theorem dX12_asks_50 : decode cX12_asks 50 = .ok (.getfield 19, 3) := by decide +kernel
theorem dX12_asks_53 : decode cX12_asks 53 = .ok (.aload_n 0, 1) := by decide +kernel
theorem dX12_asks_54 : decode cX12_asks 54 = .ok (.getfield 16, 3) := by decide +kernel
theorem dX12_asks_57 : decode cX12_asks 57 = .ok (.isub, 1) := by decide +kernel
theorem dX12_asks_58 : decode cX12_asks 58 = .ok (.iconst 1, 1) := by decide +kernel
theorem dX12_asks_59 : decode cX12_asks 59 = .ok (.iadd, 1) := by decide +kernel
theorem dX12_asks_60 : decode cX12_asks 60 = .ok (.putfield 501, 3) := by decide +kernel
theorem dX12_asks_63 : decode cX12_asks 63 = .ok (.iconst 0, 1) := by decide +kernel
theorem dX12_asks_64 : decode cX12_asks 64 = .ok (.istore 5, 2) := by decide +kernel
theorem dX12_asks_66 : decode cX12_asks 66 = .ok (.iload 5, 2) := by decide +kernel
theorem dX12_asks_68 : decode cX12_asks 68 = .ok (.aload_n 0, 1) := by decide +kernel
theorem dX12_asks_69 : decode cX12_asks 69 = .ok (.getfield 501, 3) := by decide +kernel
theorem dX12_asks_72 : decode cX12_asks 72 = .ok (.if_icmp .ge 93, 3) := by decide +kernel
theorem dX12_asks_75 : decode cX12_asks 75 = .ok (.iconst 0, 1) := by decide +kernel
theorem dX12_asks_76 : decode cX12_asks 76 = .ok (.istore 6, 2) := by decide +kernel
theorem dX12_asks_78 : decode cX12_asks 78 = .ok (.iload 6, 2) := by decide +kernel
theorem dX12_asks_80 : decode cX12_asks 80 = .ok (.aload_n 0, 1) := by decide +kernel
theorem dX12_asks_81 : decode cX12_asks 81 = .ok (.getfield 501, 3) := by decide +kernel
theorem dX12_asks_84 : decode cX12_asks 84 = .ok (.if_icmp .ge 75, 3) := by decide +kernel
theorem dX12_asks_87 : decode cX12_asks 87 = .ok (.aload_n 0, 1) := by decide +kernel
theorem dX12_asks_88 : decode cX12_asks 88 = .ok (.getfield 110, 3) := by decide +kernel
theorem dX12_asks_91 : decode cX12_asks 91 = .ok (.iload_n 1, 1) := by decide +kernel
theorem dX12_asks_92 : decode cX12_asks 92 = .ok (.aload_n 0, 1) := by decide +kernel
theorem dX12_asks_93 : decode cX12_asks 93 = .ok (.getfield 498, 3) := by decide +kernel
theorem dX12_asks_96 : decode cX12_asks 96 = .ok (.iload 5, 2) := by decide +kernel
theorem dX12_asks_98 : decode cX12_asks 98 = .ok (.iadd, 1) := by decide +kernel
theorem dX12_asks_99 : decode cX12_asks 99 = .ok (.iastore, 1) := by decide +kernel
theorem dX12_asks_100 : decode cX12_asks 100 = .ok (.aload_n 0, 1) := by decide +kernel
theorem dX12_asks_101 : decode cX12_asks 101 = .ok (.getfield 110, 3) := by decide +kernel
theorem dX12_asks_104 : decode cX12_asks 104 = .ok (.iload_n 2, 1) := by decide +kernel
theorem dX12_asks_105 : decode cX12_asks 105 = .ok (.aload_n 0, 1) := by decide +kernel
theorem dX12_asks_106 : decode cX12_asks 106 = .ok (.getfield 498, 3) := by decide +kernel
theorem dX12_asks_109 : decode cX12_asks 109 = .ok (.iload 6, 2) := by decide +kernel
theorem dX12_asks_111 : decode cX12_asks 111 = .ok (.iadd, 1) := by decide +kernel
theorem dX12_asks_112 : decode cX12_asks 112 = .ok (.iastore, 1) := by decide +kernel
theorem dX12_asks_113 : decode cX12_asks 113 = .ok (.aload_n 0, 1) := by decide +kernel
theorem dX12_asks_114 : decode cX12_asks 114 = .ok (.invokevirtual 407, 3) := by decide +kernel
theorem dX12_asks_117 : decode cX12_asks 117 = .ok (.aload_n 0, 1) := by decide +kernel
theorem dX12_asks_118 : decode cX12_asks 118 = .ok (.getfield 146, 3) := by decide +kernel
theorem dX12_asks_121 : decode cX12_asks 121 = .ok (.bipush 21, 2) := by decide +kernel
theorem dX12_asks_123 : decode cX12_asks 123 = .ok (.iload 5, 2) := by decide +kernel
theorem dX12_asks_125 : decode cX12_asks 125 = .ok (.imul, 1) := by decide +kernel
theorem dX12_asks_126 : decode cX12_asks 126 = .ok (.iload 6, 2) := by decide +kernel
theorem dX12_asks_128 : decode cX12_asks 128 = .ok (.iadd, 1) := by decide +kernel
theorem dX12_asks_129 : decode cX12_asks 129 = .ok (.aload_n 0, 1) := by decide +kernel
theorem dX12_asks_130 : decode cX12_asks 130 = .ok (.iload_n 1, 1) := by decide +kernel
theorem dX12_asks_131 : decode cX12_asks 131 = .ok (.invokevirtual 400, 3) := by decide +kernel
theorem dX12_asks_134 : decode cX12_asks 134 = .ok (.lastore, 1) := by decide +kernel
theorem dX12_asks_135 : decode cX12_asks 135 = .ok (.aload_n 0, 1) := by decide +kernel
theorem dX12_asks_136 : decode cX12_asks 136 = .ok (.getfield 149, 3) := by decide +kernel
theorem dX12_asks_139 : decode cX12_asks 139 = .ok (.bipush 21, 2) := by decide +kernel
theorem dX12_asks_141 : decode cX12_asks 141 = .ok (.iload 5, 2) := by decide +kernel
theorem dX12_asks_143 : decode cX12_asks 143 = .ok (.imul, 1) := by decide +kernel
theorem dX12_asks_144 : decode cX12_asks 144 = .ok (.iload 6, 2) := by decide +kernel
theorem dX12_asks_146 : decode cX12_asks 146 = .ok (.iadd, 1) := by decide +kernel
theorem dX12_asks_147 : decode cX12_asks 147 = .ok (.aload_n 0, 1) := by decide +kernel
theorem dX12_asks_148 : decode cX12_asks 148 = .ok (.iload_n 2, 1) := by decide +kernel
theorem dX12_asks_149 : decode cX12_asks 149 = .ok (.invokevirtual 400, 3) := by decide +kernel
theorem dX12_asks_152 : decode cX12_asks 152 = .ok (.lastore, 1) := by decide +kernel
theorem dX12_asks_153 : decode cX12_asks 153 = .ok (.iinc 6 1, 3) := by decide +kernel
theorem dX12_asks_156 : decode cX12_asks 156 = .ok (.goto (-78), 3) := by decide +kernel
theorem dX12_asks_159 : decode cX12_asks 159 = .ok (.iinc 5 1, 3) := by decide +kernel
theorem dX12_asks_162 : decode cX12_asks 162 = .ok (.goto (-96), 3) := by decide +kernel
theorem dX12_asks_165 : decode cX12_asks 165 = .ok (.aload_n 0, 1) := by decide +kernel
theorem dX12_asks_166 : decode cX12_asks 166 = .ok (.getfield 110, 3) := by decide +kernel
theorem dX12_asks_169 : decode cX12_asks 169 = .ok (.iload_n 1, 1) := by decide +kernel
theorem dX12_asks_170 : decode cX12_asks 170 = .ok (.iload_n 3, 1) := by decide +kernel
theorem dX12_asks_171 : decode cX12_asks 171 = .ok (.iastore, 1) := by decide +kernel
theorem dX12_asks_172 : decode cX12_asks 172 = .ok (.aload_n 0, 1) := by decide +kernel
theorem dX12_asks_173 : decode cX12_asks 173 = .ok (.getfield 110, 3) := by decide +kernel
theorem dX12_asks_176 : decode cX12_asks 176 = .ok (.iload_n 2, 1) := by decide +kernel
theorem dX12_asks_177 : decode cX12_asks 177 = .ok (.iload 4, 2) := by decide +kernel
theorem dX12_asks_179 : decode cX12_asks 179 = .ok (.iastore, 1) := by decide +kernel
theorem dX12_asks_180 : decode cX12_asks 180 = .ok (.return_, 1) := by decide +kernel
theorem dX12_arePrices_0 : decode cX12_arePrices 0 = .ok (.iconst 1, 1) := by decide +kernel
theorem dX12_arePrices_1 : decode cX12_arePrices 1 = .ok (.istore_n 3, 1) := by decide +kernel
theorem dX12_arePrices_2 : decode cX12_arePrices 2 = .ok (.iconst 0, 1) := by decide +kernel
theorem dX12_arePrices_3 : decode cX12_arePrices 3 = .ok (.istore 4, 2) := by decide +kernel
theorem dX12_arePrices_5 : decode cX12_arePrices 5 = .ok (.iload 4, 2) := by decide +kernel
theorem dX12_arePrices_7 : decode cX12_arePrices 7 = .ok (.aload_n 0, 1) := by decide +kernel
theorem dX12_arePrices_8 : decode cX12_arePrices 8 = .ok (.getfield 501, 3) := by decide +kernel
theorem dX12_arePrices_11 : decode cX12_arePrices 11 = .ok (.if_icmp .ge 73, 3) := by decide +kernel
theorem dX12_arePrices_14 : decode cX12_arePrices 14 = .ok (.iload_n 3, 1) := by decide +kernel
theorem dX12_arePrices_15 : decode cX12_arePrices 15 = .ok (.ifCond .eq 61, 3) := by decide +kernel
theorem dX12_arePrices_18 : decode cX12_arePrices 18 = .ok (.aload_n 0, 1) := by decide +kernel
theorem dX12_arePrices_19 : decode cX12_arePrices 19 = .ok (.getfield 146, 3) := by decide +kernel
theorem dX12_arePrices_22 : decode cX12_arePrices 22 = .ok (.bipush 21, 2) := by decide +kernel
theorem dX12_arePrices_24 : decode cX12_arePrices 24 = .ok (.iload 4, 2) := by decide +kernel
theorem dX12_arePrices_26 : decode cX12_arePrices 26 = .ok (.imul, 1) := by decide +kernel
theorem dX12_arePrices_27 : decode cX12_arePrices 27 = .ok (.iload_n 2, 1) := by decide +kernel
theorem dX12_arePrices_28 : decode cX12_arePrices 28 = .ok (.iadd, 1) := by decide +kernel
theorem dX12_arePrices_29 : decode cX12_arePrices 29 = .ok (.laload, 1) := by decide +kernel
theorem dX12_arePrices_30 : decode cX12_arePrices 30 = .ok (.aload_n 0, 1) := by decide +kernel
theorem dX12_arePrices_31 : decode cX12_arePrices 31 = .ok (.getfield 146, 3) := by decide +kernel
theorem dX12_arePrices_34 : decode cX12_arePrices 34 = .ok (.bipush 21, 2) := by decide +kernel
theorem dX12_arePrices_36 : decode cX12_arePrices 36 = .ok (.iload_n 1, 1) := by decide +kernel
theorem dX12_arePrices_37 : decode cX12_arePrices 37 = .ok (.imul, 1) := by decide +kernel
theorem dX12_arePrices_38 : decode cX12_arePrices 38 = .ok (.iload_n 2, 1) := by decide +kernel
theorem dX12_arePrices_39 : decode cX12_arePrices 39 = .ok (.iadd, 1) := by decide +kernel
theorem dX12_arePrices_40 : decode cX12_arePrices 40 = .ok (.laload, 1) := by decide +kernel
theorem dX12_arePrices_41 : decode cX12_arePrices 41 = .ok (.lcmp, 1) := by decide +kernel
theorem dX12_arePrices_42 : decode cX12_arePrices 42 = .ok (.ifCond .gt 34, 3) := by decide +kernel
theorem dX12_arePrices_45 : decode cX12_arePrices 45 = .ok (.aload_n 0, 1) := by decide +kernel
theorem dX12_arePrices_46 : decode cX12_arePrices 46 = .ok (.getfield 149, 3) := by decide +kernel
theorem dX12_arePrices_49 : decode cX12_arePrices 49 = .ok (.bipush 21, 2) := by decide +kernel
theorem dX12_arePrices_51 : decode cX12_arePrices 51 = .ok (.iload_n 1, 1) := by decide +kernel
theorem dX12_arePrices_52 : decode cX12_arePrices 52 = .ok (.imul, 1) := by decide +kernel
theorem dX12_arePrices_53 : decode cX12_arePrices 53 = .ok (.iload 4, 2) := by decide +kernel
theorem dX12_arePrices_55 : decode cX12_arePrices 55 = .ok (.iadd, 1) := by decide +kernel
theorem dX12_arePrices_56 : decode cX12_arePrices 56 = .ok (.laload, 1) := by decide +kernel
theorem dX12_arePrices_57 : decode cX12_arePrices 57 = .ok (.aload_n 0, 1) := by decide +kernel
theorem dX12_arePrices_58 : decode cX12_arePrices 58 = .ok (.getfield 149, 3) := by decide +kernel
theorem dX12_arePrices_61 : decode cX12_arePrices 61 = .ok (.bipush 21, 2) := by decide +kernel
theorem dX12_arePrices_63 : decode cX12_arePrices 63 = .ok (.iload_n 1, 1) := by decide +kernel
theorem dX12_arePrices_64 : decode cX12_arePrices 64 = .ok (.imul, 1) := by decide +kernel
theorem dX12_arePrices_65 : decode cX12_arePrices 65 = .ok (.iload_n 2, 1) := by decide +kernel
theorem dX12_arePrices_66 : decode cX12_arePrices 66 = .ok (.iadd, 1) := by decide +kernel
theorem dX12_arePrices_67 : decode cX12_arePrices 67 = .ok (.laload, 1) := by decide +kernel
theorem dX12_arePrices_68 : decode cX12_arePrices 68 = .ok (.lcmp, 1) := by decide +kernel
theorem dX12_arePrices_69 : decode cX12_arePrices 69 = .ok (.ifCond .gt 7, 3) := by decide +kernel
theorem dX12_arePrices_72 : decode cX12_arePrices 72 = .ok (.iconst 1, 1) := by decide +kernel
theorem dX12_arePrices_73 : decode cX12_arePrices 73 = .ok (.goto 4, 3) := by decide +kernel
theorem dX12_arePrices_76 : decode cX12_arePrices 76 = .ok (.iconst 0, 1) := by decide +kernel
theorem dX12_arePrices_77 : decode cX12_arePrices 77 = .ok (.istore_n 3, 1) := by decide +kernel
theorem dX12_arePrices_78 : decode cX12_arePrices 78 = .ok (.iinc 4 1, 3) := by decide +kernel
theorem dX12_arePrices_81 : decode cX12_arePrices 81 = .ok (.goto (-76), 3) := by decide +kernel
theorem dX12_arePrices_84 : decode cX12_arePrices 84 = .ok (.iload_n 3, 1) := by decide +kernel
theorem dX12_arePrices_85 : decode cX12_arePrices 85 = .ok (.ireturn, 1) := by decide +kernel
theorem dX12_pairOf_0 : decode cX12_pairOf 0 = .ok (.iconst 0, 1) := by decide +kernel
theorem dX12_pairOf_1 : decode cX12_pairOf 1 = .ok (.istore_n 2, 1) := by decide +kernel
theorem dX12_pairOf_2 : decode cX12_pairOf 2 = .ok (.iconst 0, 1) := by decide +kernel
theorem dX12_pairOf_3 : decode cX12_pairOf 3 = .ok (.istore_n 3, 1) := by decide +kernel
theorem dX12_pairOf_4 : decode cX12_pairOf 4 = .ok (.iload_n 3, 1) := by decide +kernel
theorem dX12_pairOf_5 : decode cX12_pairOf 5 = .ok (.aload_n 0, 1) := by decide +kernel
theorem dX12_pairOf_6 : decode cX12_pairOf 6 = .ok (.getfield 501, 3) := by decide +kernel
theorem dX12_pairOf_9 : decode cX12_pairOf 9 = .ok (.if_icmp .ge 56, 3) := by decide +kernel
theorem dX12_pairOf_12 : decode cX12_pairOf 12 = .ok (.iconst 0, 1) := by decide +kernel
theorem dX12_pairOf_13 : decode cX12_pairOf 13 = .ok (.istore 4, 2) := by decide +kernel
theorem dX12_pairOf_15 : decode cX12_pairOf 15 = .ok (.iload 4, 2) := by decide +kernel
theorem dX12_pairOf_17 : decode cX12_pairOf 17 = .ok (.aload_n 0, 1) := by decide +kernel
theorem dX12_pairOf_18 : decode cX12_pairOf 18 = .ok (.getfield 501, 3) := by decide +kernel
theorem dX12_pairOf_21 : decode cX12_pairOf 21 = .ok (.if_icmp .ge 38, 3) := by decide +kernel
theorem dX12_pairOf_24 : decode cX12_pairOf 24 = .ok (.aload_n 0, 1) := by decide +kernel
theorem dX12_pairOf_25 : decode cX12_pairOf 25 = .ok (.iload_n 3, 1) := by decide +kernel
theorem dX12_pairOf_26 : decode cX12_pairOf 26 = .ok (.iload 4, 2) := by decide +kernel
theorem dX12_pairOf_28 : decode cX12_pairOf 28 = .ok (.invokevirtual 504, 3) := by decide +kernel
theorem dX12_pairOf_31 : decode cX12_pairOf 31 = .ok (.ifCond .ne 6, 3) := by decide +kernel
theorem dX12_pairOf_34 : decode cX12_pairOf 34 = .ok (.goto 19, 3) := by decide +kernel
theorem dX12_pairOf_37 : decode cX12_pairOf 37 = .ok (.iload_n 2, 1) := by decide +kernel
theorem dX12_pairOf_38 : decode cX12_pairOf 38 = .ok (.iload_n 1, 1) := by decide +kernel
theorem dX12_pairOf_39 : decode cX12_pairOf 39 = .ok (.if_icmp .ne 11, 3) := by decide +kernel
theorem dX12_pairOf_42 : decode cX12_pairOf 42 = .ok (.bipush 21, 2) := by decide +kernel
theorem dX12_pairOf_44 : decode cX12_pairOf 44 = .ok (.iload_n 3, 1) := by decide +kernel
theorem dX12_pairOf_45 : decode cX12_pairOf 45 = .ok (.imul, 1) := by decide +kernel
theorem dX12_pairOf_46 : decode cX12_pairOf 46 = .ok (.iload 4, 2) := by decide +kernel
theorem dX12_pairOf_48 : decode cX12_pairOf 48 = .ok (.iadd, 1) := by decide +kernel
theorem dX12_pairOf_49 : decode cX12_pairOf 49 = .ok (.ireturn, 1) := by decide +kernel
theorem dX12_pairOf_50 : decode cX12_pairOf 50 = .ok (.iinc 2 1, 3) := by decide +kernel
theorem dX12_pairOf_53 : decode cX12_pairOf 53 = .ok (.iinc 4 1, 3) := by decide +kernel
theorem dX12_pairOf_56 : decode cX12_pairOf 56 = .ok (.goto (-41), 3) := by decide +kernel
theorem dX12_pairOf_59 : decode cX12_pairOf 59 = .ok (.iinc 3 1, 3) := by decide +kernel
theorem dX12_pairOf_62 : decode cX12_pairOf 62 = .ok (.goto (-58), 3) := by decide +kernel
theorem dX12_pairOf_65 : decode cX12_pairOf 65 = .ok (.iconst (-1), 1) := by decide +kernel
theorem dX12_pairOf_66 : decode cX12_pairOf 66 = .ok (.iload_n 2, 1) := by decide +kernel
theorem dX12_pairOf_67 : decode cX12_pairOf 67 = .ok (.isub, 1) := by decide +kernel
theorem dX12_pairOf_68 : decode cX12_pairOf 68 = .ok (.ireturn, 1) := by decide +kernel
theorem dX12_prices_0 : decode cX12_prices 0 = .ok (.aload_n 0, 1) := by decide +kernel
theorem dX12_prices_1 : decode cX12_prices 1 = .ok (.iload_n 1, 1) := by decide +kernel
theorem dX12_prices_2 : decode cX12_prices 2 = .ok (.iload_n 2, 1) := by decide +kernel
theorem dX12_prices_3 : decode cX12_prices 3 = .ok (.invokevirtual 461, 3) := by decide +kernel
theorem dX12_prices_6 : decode cX12_prices 6 = .ok (.ifCond .eq 8, 3) := by decide +kernel
theorem dX12_prices_9 : decode cX12_prices 9 = .ok (.iload_n 3, 1) := by decide +kernel
theorem dX12_prices_10 : decode cX12_prices 10 = .ok (.iconst (-1), 1) := by decide +kernel
theorem dX12_prices_11 : decode cX12_prices 11 = .ok (.if_icmp .ge 5, 3) := by decide +kernel
theorem dX12_prices_14 : decode cX12_prices 14 = .ok (.iconst (-1), 1) := by decide +kernel
theorem dX12_prices_15 : decode cX12_prices 15 = .ok (.ireturn, 1) := by decide +kernel
theorem dX12_prices_16 : decode cX12_prices 16 = .ok (.aload_n 0, 1) := by decide +kernel
theorem dX12_prices_17 : decode cX12_prices 17 = .ok (.iload_n 1, 1) := by decide +kernel
theorem dX12_prices_18 : decode cX12_prices 18 = .ok (.iload_n 2, 1) := by decide +kernel
theorem dX12_prices_19 : decode cX12_prices 19 = .ok (.invokevirtual 507, 3) := by decide +kernel
theorem dX12_prices_22 : decode cX12_prices 22 = .ok (.aload_n 0, 1) := by decide +kernel
theorem dX12_prices_23 : decode cX12_prices 23 = .ok (.iload_n 3, 1) := by decide +kernel
theorem dX12_prices_24 : decode cX12_prices 24 = .ok (.invokevirtual 510, 3) := by decide +kernel
theorem dX12_prices_27 : decode cX12_prices 27 = .ok (.istore 4, 2) := by decide +kernel
theorem dX12_prices_29 : decode cX12_prices 29 = .ok (.iload_n 3, 1) := by decide +kernel
theorem dX12_prices_30 : decode cX12_prices 30 = .ok (.iconst (-1), 1) := by decide +kernel
theorem dX12_prices_31 : decode cX12_prices 31 = .ok (.if_icmp .ne 8, 3) := by decide +kernel
theorem dX12_prices_34 : decode cX12_prices 34 = .ok (.iconst (-1), 1) := by decide +kernel
theorem dX12_prices_35 : decode cX12_prices 35 = .ok (.iload 4, 2) := by decide +kernel
theorem dX12_prices_37 : decode cX12_prices 37 = .ok (.isub, 1) := by decide +kernel
theorem dX12_prices_38 : decode cX12_prices 38 = .ok (.ireturn, 1) := by decide +kernel
theorem dX12_prices_39 : decode cX12_prices 39 = .ok (.iload 4, 2) := by decide +kernel
theorem dX12_prices_41 : decode cX12_prices 41 = .ok (.ifCond .ge 7, 3) := by decide +kernel
theorem dX12_prices_44 : decode cX12_prices 44 = .ok (.iconst (-1), 1) := by decide +kernel
theorem dX12_prices_45 : decode cX12_prices 45 = .ok (.goto 27, 3) := by decide +kernel
theorem dX12_prices_48 : decode cX12_prices 48 = .ok (.bipush 100, 2) := by decide +kernel
theorem dX12_prices_50 : decode cX12_prices 50 = .ok (.aload_n 0, 1) := by decide +kernel
theorem dX12_prices_51 : decode cX12_prices 51 = .ok (.getfield 498, 3) := by decide +kernel
theorem dX12_prices_54 : decode cX12_prices 54 = .ok (.iload 4, 2) := by decide +kernel
theorem dX12_prices_56 : decode cX12_prices 56 = .ok (.bipush 21, 2) := by decide +kernel
theorem dX12_prices_58 : decode cX12_prices 58 = .ok (.idiv, 1) := by decide +kernel
theorem dX12_prices_59 : decode cX12_prices 59 = .ok (.iadd, 1) := by decide +kernel
theorem dX12_prices_60 : decode cX12_prices 60 = .ok (.imul, 1) := by decide +kernel
theorem dX12_prices_61 : decode cX12_prices 61 = .ok (.aload_n 0, 1) := by decide +kernel
theorem dX12_prices_62 : decode cX12_prices 62 = .ok (.getfield 498, 3) := by decide +kernel
theorem dX12_prices_65 : decode cX12_prices 65 = .ok (.iadd, 1) := by decide +kernel
theorem dX12_prices_66 : decode cX12_prices 66 = .ok (.iload 4, 2) := by decide +kernel
theorem dX12_prices_68 : decode cX12_prices 68 = .ok (.bipush 21, 2) := by decide +kernel
theorem dX12_prices_70 : decode cX12_prices 70 = .ok (.irem, 1) := by decide +kernel
theorem dX12_prices_71 : decode cX12_prices 71 = .ok (.iadd, 1) := by decide +kernel
theorem dX12_prices_72 : decode cX12_prices 72 = .ok (.ireturn, 1) := by decide +kernel
theorem dX12_stage_0 : decode cX12_stage 0 = .ok (.aload_n 0, 1) := by decide +kernel
theorem dX12_stage_1 : decode cX12_stage 1 = .ok (.iload_n 1, 1) := by decide +kernel
theorem dX12_stage_2 : decode cX12_stage 2 = .ok (.iload_n 2, 1) := by decide +kernel
theorem dX12_stage_3 : decode cX12_stage 3 = .ok (.invokevirtual 461, 3) := by decide +kernel
theorem dX12_stage_6 : decode cX12_stage 6 = .ok (.ifCond .eq 36, 3) := by decide +kernel
theorem dX12_stage_9 : decode cX12_stage 9 = .ok (.aload_n 0, 1) := by decide +kernel
theorem dX12_stage_10 : decode cX12_stage 10 = .ok (.iload_n 3, 1) := by decide +kernel
theorem dX12_stage_11 : decode cX12_stage 11 = .ok (.invokevirtual 472, 3) := by decide +kernel
theorem dX12_stage_14 : decode cX12_stage 14 = .ok (.ifCond .eq 28, 3) := by decide +kernel
theorem dX12_stage_17 : decode cX12_stage 17 = .ok (.aload_n 0, 1) := by decide +kernel
theorem dX12_stage_18 : decode cX12_stage 18 = .ok (.iload 4, 2) := by decide +kernel
theorem dX12_stage_20 : decode cX12_stage 20 = .ok (.invokevirtual 472, 3) := by decide +kernel
theorem dX12_stage_23 : decode cX12_stage 23 = .ok (.ifCond .eq 19, 3) := by decide +kernel
theorem dX12_stage_26 : decode cX12_stage 26 = .ok (.iload_n 3, 1) := by decide +kernel
theorem dX12_stage_27 : decode cX12_stage 27 = .ok (.iload 4, 2) := by decide +kernel
theorem dX12_stage_29 : decode cX12_stage 29 = .ok (.if_icmp .eq 13, 3) := by decide +kernel
theorem dX12_stage_32 : decode cX12_stage 32 = .ok (.iload 5, 2) := by decide +kernel
theorem dX12_stage_34 : decode cX12_stage 34 = .ok (.iconst 0, 1) := by decide +kernel
theorem dX12_stage_35 : decode cX12_stage 35 = .ok (.iconst 2, 1) := by decide +kernel
theorem dX12_stage_36 : decode cX12_stage 36 = .ok (.invokestatic 216, 3) := by decide +kernel
theorem dX12_stage_39 : decode cX12_stage 39 = .ok (.ifCond .ne 5, 3) := by decide +kernel
theorem dX12_stage_42 : decode cX12_stage 42 = .ok (.iconst (-1), 1) := by decide +kernel
theorem dX12_stage_43 : decode cX12_stage 43 = .ok (.ireturn, 1) := by decide +kernel
theorem dX12_stage_44 : decode cX12_stage 44 = .ok (.aload_n 0, 1) := by decide +kernel
theorem dX12_stage_45 : decode cX12_stage 45 = .ok (.getfield 107, 3) := by decide +kernel
theorem dX12_stage_48 : decode cX12_stage 48 = .ok (.iload_n 1, 1) := by decide +kernel
theorem dX12_stage_49 : decode cX12_stage 49 = .ok (.iaload, 1) := by decide +kernel
theorem dX12_stage_50 : decode cX12_stage 50 = .ok (.istore 6, 2) := by decide +kernel
theorem dX12_stage_52 : decode cX12_stage 52 = .ok (.aload_n 0, 1) := by decide +kernel
theorem dX12_stage_53 : decode cX12_stage 53 = .ok (.getfield 107, 3) := by decide +kernel
theorem dX12_stage_56 : decode cX12_stage 56 = .ok (.iload_n 2, 1) := by decide +kernel
theorem dX12_stage_57 : decode cX12_stage 57 = .ok (.iaload, 1) := by decide +kernel
theorem dX12_stage_58 : decode cX12_stage 58 = .ok (.istore 7, 2) := by decide +kernel
theorem dX12_stage_60 : decode cX12_stage 60 = .ok (.iconst 0, 1) := by decide +kernel
theorem dX12_stage_61 : decode cX12_stage 61 = .ok (.istore 8, 2) := by decide +kernel
theorem dX12_stage_63 : decode cX12_stage 63 = .ok (.iload 8, 2) := by decide +kernel
theorem dX12_stage_65 : decode cX12_stage 65 = .ok (.iconst 4, 1) := by decide +kernel
theorem dX12_stage_66 : decode cX12_stage 66 = .ok (.if_icmp .ge 125, 3) := by decide +kernel
theorem dX12_stage_69 : decode cX12_stage 69 = .ok (.aload_n 0, 1) := by decide +kernel
theorem dX12_stage_70 : decode cX12_stage 70 = .ok (.getfield 107, 3) := by decide +kernel
theorem dX12_stage_73 : decode cX12_stage 73 = .ok (.iload_n 1, 1) := by decide +kernel
theorem dX12_stage_74 : decode cX12_stage 74 = .ok (.iload 8, 2) := by decide +kernel
theorem dX12_stage_76 : decode cX12_stage 76 = .ok (.iconst 2, 1) := by decide +kernel
theorem dX12_stage_77 : decode cX12_stage 77 = .ok (.if_icmp .ge 7, 3) := by decide +kernel
theorem dX12_stage_80 : decode cX12_stage 80 = .ok (.iload_n 3, 1) := by decide +kernel
theorem dX12_stage_81 : decode cX12_stage 81 = .ok (.goto 5, 3) := by decide +kernel
theorem dX12_stage_84 : decode cX12_stage 84 = .ok (.iload 4, 2) := by decide +kernel
theorem dX12_stage_86 : decode cX12_stage 86 = .ok (.iastore, 1) := by decide +kernel
theorem dX12_stage_87 : decode cX12_stage 87 = .ok (.aload_n 0, 1) := by decide +kernel
theorem dX12_stage_88 : decode cX12_stage 88 = .ok (.getfield 107, 3) := by decide +kernel
theorem dX12_stage_91 : decode cX12_stage 91 = .ok (.iload_n 2, 1) := by decide +kernel
theorem dX12_stage_92 : decode cX12_stage 92 = .ok (.iload 8, 2) := by decide +kernel
theorem dX12_stage_94 : decode cX12_stage 94 = .ok (.iconst 2, 1) := by decide +kernel
theorem dX12_stage_95 : decode cX12_stage 95 = .ok (.irem, 1) := by decide +kernel
theorem dX12_stage_96 : decode cX12_stage 96 = .ok (.ifCond .ne 7, 3) := by decide +kernel
theorem dX12_stage_99 : decode cX12_stage 99 = .ok (.iload_n 3, 1) := by decide +kernel
theorem dX12_stage_100 : decode cX12_stage 100 = .ok (.goto 5, 3) := by decide +kernel
theorem dX12_stage_103 : decode cX12_stage 103 = .ok (.iload 4, 2) := by decide +kernel
theorem dX12_stage_105 : decode cX12_stage 105 = .ok (.iastore, 1) := by decide +kernel
theorem dX12_stage_106 : decode cX12_stage 106 = .ok (.aload_n 0, 1) := by decide +kernel
theorem dX12_stage_107 : decode cX12_stage 107 = .ok (.getfield 158, 3) := by decide +kernel
theorem dX12_stage_110 : decode cX12_stage 110 = .ok (.iload 8, 2) := by decide +kernel
theorem dX12_stage_112 : decode cX12_stage 112 = .ok (.iconst (-1), 1) := by decide +kernel
theorem dX12_stage_113 : decode cX12_stage 113 = .ok (.iastore, 1) := by decide +kernel
theorem dX12_stage_114 : decode cX12_stage 114 = .ok (.aload_n 0, 1) := by decide +kernel
theorem dX12_stage_115 : decode cX12_stage 115 = .ok (.iload_n 1, 1) := by decide +kernel
theorem dX12_stage_116 : decode cX12_stage 116 = .ok (.iload_n 2, 1) := by decide +kernel
theorem dX12_stage_117 : decode cX12_stage 117 = .ok (.iconst (-1), 1) := by decide +kernel
theorem dX12_stage_118 : decode cX12_stage 118 = .ok (.invokevirtual 458, 3) := by decide +kernel
theorem dX12_stage_121 : decode cX12_stage 121 = .ok (.ifCond .ne 6, 3) := by decide +kernel
theorem dX12_stage_124 : decode cX12_stage 124 = .ok (.goto 61, 3) := by decide +kernel
theorem dX12_stage_127 : decode cX12_stage 127 = .ok (.aload_n 0, 1) := by decide +kernel
theorem dX12_stage_128 : decode cX12_stage 128 = .ok (.iload_n 1, 1) := by decide +kernel
theorem dX12_stage_129 : decode cX12_stage 129 = .ok (.iload_n 2, 1) := by decide +kernel
theorem dX12_stage_130 : decode cX12_stage 130 = .ok (.invokevirtual 507, 3) := by decide +kernel
theorem dX12_stage_133 : decode cX12_stage 133 = .ok (.aload_n 0, 1) := by decide +kernel
theorem dX12_stage_134 : decode cX12_stage 134 = .ok (.iconst 0, 1) := by decide +kernel
theorem dX12_stage_135 : decode cX12_stage 135 = .ok (.invokevirtual 510, 3) := by decide +kernel
theorem dX12_stage_138 : decode cX12_stage 138 = .ok (.istore 9, 2) := by decide +kernel
theorem dX12_stage_140 : decode cX12_stage 140 = .ok (.iload 9, 2) := by decide +kernel
theorem dX12_stage_142 : decode cX12_stage 142 = .ok (.ifCond .ge 6, 3) := by decide +kernel
theorem dX12_stage_145 : decode cX12_stage 145 = .ok (.goto 40, 3) := by decide +kernel
theorem dX12_stage_148 : decode cX12_stage 148 = .ok (.aload_n 0, 1) := by decide +kernel
theorem dX12_stage_149 : decode cX12_stage 149 = .ok (.getfield 158, 3) := by decide +kernel
theorem dX12_stage_152 : decode cX12_stage 152 = .ok (.iload 8, 2) := by decide +kernel
theorem dX12_stage_154 : decode cX12_stage 154 = .ok (.iload 9, 2) := by decide +kernel
theorem dX12_stage_156 : decode cX12_stage 156 = .ok (.iastore, 1) := by decide +kernel
theorem dX12_stage_157 : decode cX12_stage 157 = .ok (.aload_n 0, 1) := by decide +kernel
theorem dX12_stage_158 : decode cX12_stage 158 = .ok (.getfield 152, 3) := by decide +kernel
theorem dX12_stage_161 : decode cX12_stage 161 = .ok (.iload 8, 2) := by decide +kernel
theorem dX12_stage_163 : decode cX12_stage 163 = .ok (.aload_n 0, 1) := by decide +kernel
theorem dX12_stage_164 : decode cX12_stage 164 = .ok (.getfield 146, 3) := by decide +kernel
theorem dX12_stage_167 : decode cX12_stage 167 = .ok (.iload 9, 2) := by decide +kernel
theorem dX12_stage_169 : decode cX12_stage 169 = .ok (.laload, 1) := by decide +kernel
theorem dX12_stage_170 : decode cX12_stage 170 = .ok (.lastore, 1) := by decide +kernel
theorem dX12_stage_171 : decode cX12_stage 171 = .ok (.aload_n 0, 1) := by decide +kernel
theorem dX12_stage_172 : decode cX12_stage 172 = .ok (.getfield 155, 3) := by decide +kernel
theorem dX12_stage_175 : decode cX12_stage 175 = .ok (.iload 8, 2) := by decide +kernel
theorem dX12_stage_177 : decode cX12_stage 177 = .ok (.aload_n 0, 1) := by decide +kernel
theorem dX12_stage_178 : decode cX12_stage 178 = .ok (.getfield 149, 3) := by decide +kernel
theorem dX12_stage_181 : decode cX12_stage 181 = .ok (.iload 9, 2) := by decide +kernel
theorem dX12_stage_183 : decode cX12_stage 183 = .ok (.laload, 1) := by decide +kernel
theorem dX12_stage_184 : decode cX12_stage 184 = .ok (.lastore, 1) := by decide +kernel
theorem dX12_stage_185 : decode cX12_stage 185 = .ok (.iinc 8 1, 3) := by decide +kernel
theorem dX12_stage_188 : decode cX12_stage 188 = .ok (.goto (-125), 3) := by decide +kernel
theorem dX12_stage_191 : decode cX12_stage 191 = .ok (.aload_n 0, 1) := by decide +kernel
theorem dX12_stage_192 : decode cX12_stage 192 = .ok (.getfield 107, 3) := by decide +kernel
theorem dX12_stage_195 : decode cX12_stage 195 = .ok (.iload_n 1, 1) := by decide +kernel
theorem dX12_stage_196 : decode cX12_stage 196 = .ok (.iload 6, 2) := by decide +kernel
theorem dX12_stage_198 : decode cX12_stage 198 = .ok (.iastore, 1) := by decide +kernel
theorem dX12_stage_199 : decode cX12_stage 199 = .ok (.aload_n 0, 1) := by decide +kernel
theorem dX12_stage_200 : decode cX12_stage 200 = .ok (.getfield 107, 3) := by decide +kernel
theorem dX12_stage_203 : decode cX12_stage 203 = .ok (.iload_n 2, 1) := by decide +kernel
theorem dX12_stage_204 : decode cX12_stage 204 = .ok (.iload 7, 2) := by decide +kernel
theorem dX12_stage_206 : decode cX12_stage 206 = .ok (.iastore, 1) := by decide +kernel
theorem dX12_stage_207 : decode cX12_stage 207 = .ok (.iconst 0, 1) := by decide +kernel
theorem dX12_stage_208 : decode cX12_stage 208 = .ok (.istore 8, 2) := by decide +kernel
theorem dX12_stage_210 : decode cX12_stage 210 = .ok (.iload 8, 2) := by decide +kernel
theorem dX12_stage_212 : decode cX12_stage 212 = .ok (.iconst 4, 1) := by decide +kernel
theorem dX12_stage_213 : decode cX12_stage 213 = .ok (.if_icmp .ge 156, 3) := by decide +kernel
theorem dX12_stage_216 : decode cX12_stage 216 = .ok (.iload 8, 2) := by decide +kernel
theorem dX12_stage_218 : decode cX12_stage 218 = .ok (.iconst 2, 1) := by decide +kernel
theorem dX12_stage_219 : decode cX12_stage 219 = .ok (.iadd, 1) := by decide +kernel
theorem dX12_stage_220 : decode cX12_stage 220 = .ok (.iconst 4, 1) := by decide +kernel
theorem dX12_stage_221 : decode cX12_stage 221 = .ok (.irem, 1) := by decide +kernel
theorem dX12_stage_222 : decode cX12_stage 222 = .ok (.istore 9, 2) := by decide +kernel
theorem dX12_stage_224 : decode cX12_stage 224 = .ok (.iload 8, 2) := by decide +kernel
theorem dX12_stage_226 : decode cX12_stage 226 = .ok (.iconst 2, 1) := by decide +kernel
theorem dX12_stage_227 : decode cX12_stage 227 = .ok (.irem, 1) := by decide +kernel
theorem dX12_stage_228 : decode cX12_stage 228 = .ok (.ifCond .ne 10, 3) := by decide +kernel
theorem dX12_stage_231 : decode cX12_stage 231 = .ok (.iload 8, 2) := by decide +kernel
theorem dX12_stage_233 : decode cX12_stage 233 = .ok (.iconst 1, 1) := by decide +kernel
theorem dX12_stage_234 : decode cX12_stage 234 = .ok (.iadd, 1) := by decide +kernel
theorem dX12_stage_235 : decode cX12_stage 235 = .ok (.goto 7, 3) := by decide +kernel
theorem dX12_stage_238 : decode cX12_stage 238 = .ok (.iload 8, 2) := by decide +kernel
theorem dX12_stage_240 : decode cX12_stage 240 = .ok (.iconst 1, 1) := by decide +kernel
theorem dX12_stage_241 : decode cX12_stage 241 = .ok (.isub, 1) := by decide +kernel
theorem dX12_stage_242 : decode cX12_stage 242 = .ok (.istore 10, 2) := by decide +kernel
theorem dX12_stage_244 : decode cX12_stage 244 = .ok (.aload_n 0, 1) := by decide +kernel
theorem dX12_stage_245 : decode cX12_stage 245 = .ok (.getfield 158, 3) := by decide +kernel
theorem dX12_stage_248 : decode cX12_stage 248 = .ok (.iload 8, 2) := by decide +kernel
theorem dX12_stage_250 : decode cX12_stage 250 = .ok (.iaload, 1) := by decide +kernel
theorem dX12_stage_251 : decode cX12_stage 251 = .ok (.ifCond .lt 112, 3) := by decide +kernel
theorem dX12_stage_254 : decode cX12_stage 254 = .ok (.aload_n 0, 1) := by decide +kernel
theorem dX12_stage_255 : decode cX12_stage 255 = .ok (.getfield 158, 3) := by decide +kernel
theorem dX12_stage_258 : decode cX12_stage 258 = .ok (.iload 9, 2) := by decide +kernel
theorem dX12_stage_260 : decode cX12_stage 260 = .ok (.iaload, 1) := by decide +kernel
theorem dX12_stage_261 : decode cX12_stage 261 = .ok (.ifCond .lt 21, 3) := by decide +kernel
theorem dX12_stage_264 : decode cX12_stage 264 = .ok (.aload_n 0, 1) := by decide +kernel
theorem dX12_stage_265 : decode cX12_stage 265 = .ok (.getfield 152, 3) := by decide +kernel
theorem dX12_stage_268 : decode cX12_stage 268 = .ok (.iload 9, 2) := by decide +kernel
theorem dX12_stage_270 : decode cX12_stage 270 = .ok (.laload, 1) := by decide +kernel
theorem dX12_stage_271 : decode cX12_stage 271 = .ok (.aload_n 0, 1) := by decide +kernel
theorem dX12_stage_272 : decode cX12_stage 272 = .ok (.getfield 152, 3) := by decide +kernel
theorem dX12_stage_275 : decode cX12_stage 275 = .ok (.iload 8, 2) := by decide +kernel
theorem dX12_stage_277 : decode cX12_stage 277 = .ok (.laload, 1) := by decide +kernel
theorem dX12_stage_278 : decode cX12_stage 278 = .ok (.lcmp, 1) := by decide +kernel
theorem dX12_stage_279 : decode cX12_stage 279 = .ok (.ifCond .gt 84, 3) := by decide +kernel
theorem dX12_stage_282 : decode cX12_stage 282 = .ok (.aload_n 0, 1) := by decide +kernel
theorem dX12_stage_283 : decode cX12_stage 283 = .ok (.getfield 158, 3) := by decide +kernel
theorem dX12_stage_286 : decode cX12_stage 286 = .ok (.iload 10, 2) := by decide +kernel
theorem dX12_stage_288 : decode cX12_stage 288 = .ok (.iaload, 1) := by decide +kernel
theorem dX12_stage_289 : decode cX12_stage 289 = .ok (.ifCond .lt 24, 3) := by decide +kernel
theorem dX12_stage_292 : decode cX12_stage 292 = .ok (.aload_n 0, 1) := by decide +kernel
theorem dX12_stage_293 : decode cX12_stage 293 = .ok (.getfield 155, 3) := by decide +kernel
theorem dX12_stage_296 : decode cX12_stage 296 = .ok (.iload 10, 2) := by decide +kernel
theorem dX12_stage_298 : decode cX12_stage 298 = .ok (.laload, 1) := by decide +kernel
theorem dX12_stage_299 : decode cX12_stage 299 = .ok (.aload_n 0, 1) := by decide +kernel
theorem dX12_stage_300 : decode cX12_stage 300 = .ok (.getfield 155, 3) := by decide +kernel
theorem dX12_stage_303 : decode cX12_stage 303 = .ok (.iload 8, 2) := by decide +kernel
theorem dX12_stage_305 : decode cX12_stage 305 = .ok (.laload, 1) := by decide +kernel
theorem dX12_stage_306 : decode cX12_stage 306 = .ok (.lcmp, 1) := by decide +kernel
theorem dX12_stage_307 : decode cX12_stage 307 = .ok (.ifCond .le 6, 3) := by decide +kernel
theorem dX12_stage_310 : decode cX12_stage 310 = .ok (.goto 53, 3) := by decide +kernel
theorem dX12_stage_313 : decode cX12_stage 313 = .ok (.iload 5, 2) := by decide +kernel
theorem dX12_stage_315 : decode cX12_stage 315 = .ok (.ifCond .ne 8, 3) := by decide +kernel
theorem dX12_stage_318 : decode cX12_stage 318 = .ok (.iload 8, 2) := by decide +kernel
theorem dX12_stage_320 : decode cX12_stage 320 = .ok (.goto 42, 3) := by decide +kernel
theorem dX12_stage_323 : decode cX12_stage 323 = .ok (.iload 5, 2) := by decide +kernel
theorem dX12_stage_325 : decode cX12_stage 325 = .ok (.iconst 1, 1) := by decide +kernel
theorem dX12_stage_326 : decode cX12_stage 326 = .ok (.if_icmp .ne 21, 3) := by decide +kernel
theorem dX12_stage_329 : decode cX12_stage 329 = .ok (.aload_n 0, 1) := by decide +kernel
theorem dX12_stage_330 : decode cX12_stage 330 = .ok (.getfield 498, 3) := by decide +kernel
theorem dX12_stage_333 : decode cX12_stage 333 = .ok (.aload_n 0, 1) := by decide +kernel
theorem dX12_stage_334 : decode cX12_stage 334 = .ok (.getfield 158, 3) := by decide +kernel
theorem dX12_stage_337 : decode cX12_stage 337 = .ok (.iload 8, 2) := by decide +kernel
theorem dX12_stage_339 : decode cX12_stage 339 = .ok (.iaload, 1) := by decide +kernel
theorem dX12_stage_340 : decode cX12_stage 340 = .ok (.bipush 21, 2) := by decide +kernel
theorem dX12_stage_342 : decode cX12_stage 342 = .ok (.idiv, 1) := by decide +kernel
theorem dX12_stage_343 : decode cX12_stage 343 = .ok (.iadd, 1) := by decide +kernel
theorem dX12_stage_344 : decode cX12_stage 344 = .ok (.goto 18, 3) := by decide +kernel
theorem dX12_stage_347 : decode cX12_stage 347 = .ok (.aload_n 0, 1) := by decide +kernel
theorem dX12_stage_348 : decode cX12_stage 348 = .ok (.getfield 498, 3) := by decide +kernel
theorem dX12_stage_351 : decode cX12_stage 351 = .ok (.aload_n 0, 1) := by decide +kernel
theorem dX12_stage_352 : decode cX12_stage 352 = .ok (.getfield 158, 3) := by decide +kernel
theorem dX12_stage_355 : decode cX12_stage 355 = .ok (.iload 8, 2) := by decide +kernel
theorem dX12_stage_357 : decode cX12_stage 357 = .ok (.iaload, 1) := by decide +kernel
theorem dX12_stage_358 : decode cX12_stage 358 = .ok (.bipush 21, 2) := by decide +kernel
theorem dX12_stage_360 : decode cX12_stage 360 = .ok (.irem, 1) := by decide +kernel
theorem dX12_stage_361 : decode cX12_stage 361 = .ok (.iadd, 1) := by decide +kernel
theorem dX12_stage_362 : decode cX12_stage 362 = .ok (.ireturn, 1) := by decide +kernel
theorem dX12_stage_363 : decode cX12_stage 363 = .ok (.iinc 8 1, 3) := by decide +kernel
theorem dX12_stage_366 : decode cX12_stage 366 = .ok (.goto (-156), 3) := by decide +kernel
theorem dX12_stage_369 : decode cX12_stage 369 = .ok (.iconst (-1), 1) := by decide +kernel
theorem dX12_stage_370 : decode cX12_stage 370 = .ok (.ireturn, 1) := by decide +kernel
theorem dX12_halves_0 : decode cX12_halves 0 = .ok (.iconst 2, 1) := by decide +kernel
theorem dX12_halves_1 : decode cX12_halves 1 = .ok (.aload_n 0, 1) := by decide +kernel
theorem dX12_halves_2 : decode cX12_halves 2 = .ok (.getfield 161, 3) := by decide +kernel
theorem dX12_halves_5 : decode cX12_halves 5 = .ok (.aload_n 0, 1) := by decide +kernel
theorem dX12_halves_6 : decode cX12_halves 6 = .ok (.getfield 91, 3) := by decide +kernel
theorem dX12_halves_9 : decode cX12_halves 9 = .ok (.iload_n 1, 1) := by decide +kernel
theorem dX12_halves_10 : decode cX12_halves 10 = .ok (.iaload, 1) := by decide +kernel
theorem dX12_halves_11 : decode cX12_halves 11 = .ok (.iaload, 1) := by decide +kernel
theorem dX12_halves_12 : decode cX12_halves 12 = .ok (.imul, 1) := by decide +kernel
theorem dX12_halves_13 : decode cX12_halves 13 = .ok (.iload_n 2, 1) := by decide +kernel
theorem dX12_halves_14 : decode cX12_halves 14 = .ok (.iadd, 1) := by decide +kernel
theorem dX12_halves_15 : decode cX12_halves 15 = .ok (.iconst 2, 1) := by decide +kernel
theorem dX12_halves_16 : decode cX12_halves 16 = .ok (.aload_n 0, 1) := by decide +kernel
theorem dX12_halves_17 : decode cX12_halves 17 = .ok (.getfield 161, 3) := by decide +kernel
theorem dX12_halves_20 : decode cX12_halves 20 = .ok (.aload_n 0, 1) := by decide +kernel
theorem dX12_halves_21 : decode cX12_halves 21 = .ok (.getfield 94, 3) := by decide +kernel
theorem dX12_halves_24 : decode cX12_halves 24 = .ok (.iload_n 1, 1) := by decide +kernel
theorem dX12_halves_25 : decode cX12_halves 25 = .ok (.iaload, 1) := by decide +kernel
theorem dX12_halves_26 : decode cX12_halves 26 = .ok (.iaload, 1) := by decide +kernel
theorem dX12_halves_27 : decode cX12_halves 27 = .ok (.imul, 1) := by decide +kernel
theorem dX12_halves_28 : decode cX12_halves 28 = .ok (.iconst 2, 1) := by decide +kernel
theorem dX12_halves_29 : decode cX12_halves 29 = .ok (.aload_n 0, 1) := by decide +kernel
theorem dX12_halves_30 : decode cX12_halves 30 = .ok (.getfield 97, 3) := by decide +kernel
theorem dX12_halves_33 : decode cX12_halves 33 = .ok (.iload_n 1, 1) := by decide +kernel
theorem dX12_halves_34 : decode cX12_halves 34 = .ok (.iaload, 1) := by decide +kernel
theorem dX12_halves_35 : decode cX12_halves 35 = .ok (.imul, 1) := by decide +kernel
theorem dX12_halves_36 : decode cX12_halves 36 = .ok (.iadd, 1) := by decide +kernel
theorem dX12_halves_37 : decode cX12_halves 37 = .ok (.iload_n 2, 1) := by decide +kernel
theorem dX12_halves_38 : decode cX12_halves 38 = .ok (.isub, 1) := by decide +kernel
theorem dX12_halves_39 : decode cX12_halves 39 = .ok (.invokestatic 223, 3) := by decide +kernel
theorem dX12_halves_42 : decode cX12_halves 42 = .ok (.istore_n 3, 1) := by decide +kernel
theorem dX12_halves_43 : decode cX12_halves 43 = .ok (.iconst 0, 1) := by decide +kernel
theorem dX12_halves_44 : decode cX12_halves 44 = .ok (.istore 4, 2) := by decide +kernel
theorem dX12_halves_46 : decode cX12_halves 46 = .ok (.iload 4, 2) := by decide +kernel
theorem dX12_halves_48 : decode cX12_halves 48 = .ok (.aload_n 0, 1) := by decide +kernel
theorem dX12_halves_49 : decode cX12_halves 49 = .ok (.getfield 513, 3) := by decide +kernel
theorem dX12_halves_52 : decode cX12_halves 52 = .ok (.if_icmp .ge 57, 3) := by decide +kernel
theorem dX12_halves_55 : decode cX12_halves 55 = .ok (.aload_n 0, 1) := by decide +kernel
theorem dX12_halves_56 : decode cX12_halves 56 = .ok (.getfield 164, 3) := by decide +kernel
theorem dX12_halves_59 : decode cX12_halves 59 = .ok (.iload 4, 2) := by decide +kernel
theorem dX12_halves_61 : decode cX12_halves 61 = .ok (.iaload, 1) := by decide +kernel
theorem dX12_halves_62 : decode cX12_halves 62 = .ok (.bipush 100, 2) := by decide +kernel
theorem dX12_halves_64 : decode cX12_halves 64 = .ok (.if_icmp .lt 39, 3) := by decide +kernel
theorem dX12_halves_67 : decode cX12_halves 67 = .ok (.aload_n 0, 1) := by decide +kernel
theorem dX12_halves_68 : decode cX12_halves 68 = .ok (.getfield 164, 3) := by decide +kernel
theorem dX12_halves_71 : decode cX12_halves 71 = .ok (.iload 4, 2) := by decide +kernel
theorem dX12_halves_73 : decode cX12_halves 73 = .ok (.iaload, 1) := by decide +kernel
theorem dX12_halves_74 : decode cX12_halves 74 = .ok (.invokestatic 357, 3) := by decide +kernel
theorem dX12_halves_77 : decode cX12_halves 77 = .ok (.iload_n 1, 1) := by decide +kernel
theorem dX12_halves_78 : decode cX12_halves 78 = .ok (.if_icmp .ne 25, 3) := by decide +kernel
theorem dX12_halves_81 : decode cX12_halves 81 = .ok (.iload_n 3, 1) := by decide +kernel
theorem dX12_halves_82 : decode cX12_halves 82 = .ok (.iload_n 2, 1) := by decide +kernel
theorem dX12_halves_83 : decode cX12_halves 83 = .ok (.iconst 2, 1) := by decide +kernel
theorem dX12_halves_84 : decode cX12_halves 84 = .ok (.aload_n 0, 1) := by decide +kernel
theorem dX12_halves_85 : decode cX12_halves 85 = .ok (.getfield 164, 3) := by decide +kernel
theorem dX12_halves_88 : decode cX12_halves 88 = .ok (.iload 4, 2) := by decide +kernel
theorem dX12_halves_90 : decode cX12_halves 90 = .ok (.iaload, 1) := by decide +kernel
theorem dX12_halves_91 : decode cX12_halves 91 = .ok (.invokestatic 361, 3) := by decide +kernel
theorem dX12_halves_94 : decode cX12_halves 94 = .ok (.imul, 1) := by decide +kernel
theorem dX12_halves_95 : decode cX12_halves 95 = .ok (.isub, 1) := by decide +kernel
theorem dX12_halves_96 : decode cX12_halves 96 = .ok (.invokestatic 367, 3) := by decide +kernel
theorem dX12_halves_99 : decode cX12_halves 99 = .ok (.invokestatic 223, 3) := by decide +kernel
theorem dX12_halves_102 : decode cX12_halves 102 = .ok (.istore_n 3, 1) := by decide +kernel
theorem dX12_halves_103 : decode cX12_halves 103 = .ok (.iinc 4 1, 3) := by decide +kernel
theorem dX12_halves_106 : decode cX12_halves 106 = .ok (.goto (-60), 3) := by decide +kernel
theorem dX12_halves_109 : decode cX12_halves 109 = .ok (.iload_n 3, 1) := by decide +kernel
theorem dX12_halves_110 : decode cX12_halves 110 = .ok (.ireturn, 1) := by decide +kernel
theorem dX12_walkOf_0 : decode cX12_walkOf 0 = .ok (.iconst 0, 1) := by decide +kernel
theorem dX12_walkOf_1 : decode cX12_walkOf 1 = .ok (.istore_n 1, 1) := by decide +kernel
theorem dX12_walkOf_2 : decode cX12_walkOf 2 = .ok (.iload_n 1, 1) := by decide +kernel
theorem dX12_walkOf_3 : decode cX12_walkOf 3 = .ok (.aload_n 0, 1) := by decide +kernel
theorem dX12_walkOf_4 : decode cX12_walkOf 4 = .ok (.getfield 272, 3) := by decide +kernel
theorem dX12_walkOf_7 : decode cX12_walkOf 7 = .ok (.if_icmp .ge 59, 3) := by decide +kernel
theorem dX12_walkOf_10 : decode cX12_walkOf 10 = .ok (.aload_n 0, 1) := by decide +kernel
theorem dX12_walkOf_11 : decode cX12_walkOf 11 = .ok (.getfield 161, 3) := by decide +kernel
theorem dX12_walkOf_14 : decode cX12_walkOf 14 = .ok (.iload_n 1, 1) := by decide +kernel
theorem dX12_walkOf_15 : decode cX12_walkOf 15 = .ok (.ldc 222, 2) := by decide +kernel
theorem dX12_walkOf_17 : decode cX12_walkOf 17 = .ok (.iastore, 1) := by decide +kernel
theorem dX12_walkOf_18 : decode cX12_walkOf 18 = .ok (.iconst 0, 1) := by decide +kernel
theorem dX12_walkOf_19 : decode cX12_walkOf 19 = .ok (.istore_n 2, 1) := by decide +kernel
theorem dX12_walkOf_20 : decode cX12_walkOf 20 = .ok (.iload_n 2, 1) := by decide +kernel
theorem dX12_walkOf_21 : decode cX12_walkOf 21 = .ok (.aload_n 0, 1) := by decide +kernel
theorem dX12_walkOf_22 : decode cX12_walkOf 22 = .ok (.getfield 513, 3) := by decide +kernel
theorem dX12_walkOf_25 : decode cX12_walkOf 25 = .ok (.if_icmp .ge 35, 3) := by decide +kernel
theorem dX12_walkOf_28 : decode cX12_walkOf 28 = .ok (.aload_n 0, 1) := by decide +kernel
theorem dX12_walkOf_29 : decode cX12_walkOf 29 = .ok (.getfield 161, 3) := by decide +kernel
theorem dX12_walkOf_32 : decode cX12_walkOf 32 = .ok (.iload_n 1, 1) := by decide +kernel
theorem dX12_walkOf_33 : decode cX12_walkOf 33 = .ok (.aload_n 0, 1) := by decide +kernel
theorem dX12_walkOf_34 : decode cX12_walkOf 34 = .ok (.getfield 161, 3) := by decide +kernel
theorem dX12_walkOf_37 : decode cX12_walkOf 37 = .ok (.iload_n 1, 1) := by decide +kernel
theorem dX12_walkOf_38 : decode cX12_walkOf 38 = .ok (.iaload, 1) := by decide +kernel
theorem dX12_walkOf_39 : decode cX12_walkOf 39 = .ok (.aload_n 0, 1) := by decide +kernel
theorem dX12_walkOf_40 : decode cX12_walkOf 40 = .ok (.aload_n 0, 1) := by decide +kernel
theorem dX12_walkOf_41 : decode cX12_walkOf 41 = .ok (.getfield 164, 3) := by decide +kernel
theorem dX12_walkOf_44 : decode cX12_walkOf 44 = .ok (.iload_n 2, 1) := by decide +kernel
theorem dX12_walkOf_45 : decode cX12_walkOf 45 = .ok (.iaload, 1) := by decide +kernel
theorem dX12_walkOf_46 : decode cX12_walkOf 46 = .ok (.iload_n 1, 1) := by decide +kernel
theorem dX12_walkOf_47 : decode cX12_walkOf 47 = .ok (.invokevirtual 364, 3) := by decide +kernel
theorem dX12_walkOf_50 : decode cX12_walkOf 50 = .ok (.invokestatic 223, 3) := by decide +kernel
theorem dX12_walkOf_53 : decode cX12_walkOf 53 = .ok (.iastore, 1) := by decide +kernel
theorem dX12_walkOf_54 : decode cX12_walkOf 54 = .ok (.iinc 2 1, 3) := by decide +kernel
theorem dX12_walkOf_57 : decode cX12_walkOf 57 = .ok (.goto (-37), 3) := by decide +kernel
theorem dX12_walkOf_60 : decode cX12_walkOf 60 = .ok (.iinc 1 1, 3) := by decide +kernel
theorem dX12_walkOf_63 : decode cX12_walkOf 63 = .ok (.goto (-61), 3) := by decide +kernel
theorem dX12_walkOf_66 : decode cX12_walkOf 66 = .ok (.lconst 0, 1) := by decide +kernel
theorem dX12_walkOf_67 : decode cX12_walkOf 67 = .ok (.lstore_n 1, 1) := by decide +kernel
theorem dX12_walkOf_68 : decode cX12_walkOf 68 = .ok (.iconst 0, 1) := by decide +kernel
theorem dX12_walkOf_69 : decode cX12_walkOf 69 = .ok (.istore_n 3, 1) := by decide +kernel
theorem dX12_walkOf_70 : decode cX12_walkOf 70 = .ok (.iload_n 3, 1) := by decide +kernel
theorem dX12_walkOf_71 : decode cX12_walkOf 71 = .ok (.aload_n 0, 1) := by decide +kernel
theorem dX12_walkOf_72 : decode cX12_walkOf 72 = .ok (.getfield 272, 3) := by decide +kernel
theorem dX12_walkOf_75 : decode cX12_walkOf 75 = .ok (.if_icmp .ge 58, 3) := by decide +kernel
theorem dX12_walkOf_78 : decode cX12_walkOf 78 = .ok (.aload_n 0, 1) := by decide +kernel
theorem dX12_walkOf_79 : decode cX12_walkOf 79 = .ok (.getfield 29, 3) := by decide +kernel
theorem dX12_walkOf_82 : decode cX12_walkOf 82 = .ok (.iload_n 3, 1) := by decide +kernel
theorem dX12_walkOf_83 : decode cX12_walkOf 83 = .ok (.iaload, 1) := by decide +kernel
theorem dX12_walkOf_84 : decode cX12_walkOf 84 = .ok (.ifCond .ne 6, 3) := by decide +kernel
theorem dX12_walkOf_87 : decode cX12_walkOf 87 = .ok (.goto 40, 3) := by decide +kernel
theorem dX12_walkOf_90 : decode cX12_walkOf 90 = .ok (.aload_n 0, 1) := by decide +kernel
theorem dX12_walkOf_91 : decode cX12_walkOf 91 = .ok (.getfield 161, 3) := by decide +kernel
theorem dX12_walkOf_94 : decode cX12_walkOf 94 = .ok (.iload_n 3, 1) := by decide +kernel
theorem dX12_walkOf_95 : decode cX12_walkOf 95 = .ok (.iaload, 1) := by decide +kernel
theorem dX12_walkOf_96 : decode cX12_walkOf 96 = .ok (.ldc 222, 2) := by decide +kernel
theorem dX12_walkOf_98 : decode cX12_walkOf 98 = .ok (.if_icmp .lt 7, 3) := by decide +kernel
theorem dX12_walkOf_101 : decode cX12_walkOf 101 = .ok (.ldc2_w 204, 3) := by decide +kernel
theorem dX12_walkOf_104 : decode cX12_walkOf 104 = .ok (.lreturn, 1) := by decide +kernel
theorem dX12_walkOf_105 : decode cX12_walkOf 105 = .ok (.lload_n 1, 1) := by decide +kernel
theorem dX12_walkOf_106 : decode cX12_walkOf 106 = .ok (.ldc2_w 516, 3) := by decide +kernel
theorem dX12_walkOf_109 : decode cX12_walkOf 109 = .ok (.aload_n 0, 1) := by decide +kernel
theorem dX12_walkOf_110 : decode cX12_walkOf 110 = .ok (.getfield 29, 3) := by decide +kernel
theorem dX12_walkOf_113 : decode cX12_walkOf 113 = .ok (.iload_n 3, 1) := by decide +kernel
theorem dX12_walkOf_114 : decode cX12_walkOf 114 = .ok (.iaload, 1) := by decide +kernel
theorem dX12_walkOf_115 : decode cX12_walkOf 115 = .ok (.i2l, 1) := by decide +kernel
theorem dX12_walkOf_116 : decode cX12_walkOf 116 = .ok (.lmul, 1) := by decide +kernel
theorem dX12_walkOf_117 : decode cX12_walkOf 117 = .ok (.aload_n 0, 1) := by decide +kernel
theorem dX12_walkOf_118 : decode cX12_walkOf 118 = .ok (.getfield 161, 3) := by decide +kernel
theorem dX12_walkOf_121 : decode cX12_walkOf 121 = .ok (.iload_n 3, 1) := by decide +kernel
theorem dX12_walkOf_122 : decode cX12_walkOf 122 = .ok (.iaload, 1) := by decide +kernel
theorem dX12_walkOf_123 : decode cX12_walkOf 123 = .ok (.i2l, 1) := by decide +kernel
theorem dX12_walkOf_124 : decode cX12_walkOf 124 = .ok (.lmul, 1) := by decide +kernel
theorem dX12_walkOf_125 : decode cX12_walkOf 125 = .ok (.ladd, 1) := by decide +kernel
theorem dX12_walkOf_126 : decode cX12_walkOf 126 = .ok (.lstore_n 1, 1) := by decide +kernel
theorem dX12_walkOf_127 : decode cX12_walkOf 127 = .ok (.iinc 3 1, 3) := by decide +kernel
theorem dX12_walkOf_130 : decode cX12_walkOf 130 = .ok (.goto (-60), 3) := by decide +kernel
theorem dX12_walkOf_133 : decode cX12_walkOf 133 = .ok (.iconst 0, 1) := by decide +kernel
theorem dX12_walkOf_134 : decode cX12_walkOf 134 = .ok (.istore_n 3, 1) := by decide +kernel
theorem dX12_walkOf_135 : decode cX12_walkOf 135 = .ok (.iload_n 3, 1) := by decide +kernel
theorem dX12_walkOf_136 : decode cX12_walkOf 136 = .ok (.aload_n 0, 1) := by decide +kernel
theorem dX12_walkOf_137 : decode cX12_walkOf 137 = .ok (.getfield 320, 3) := by decide +kernel
theorem dX12_walkOf_140 : decode cX12_walkOf 140 = .ok (.if_icmp .ge 107, 3) := by decide +kernel
theorem dX12_walkOf_143 : decode cX12_walkOf 143 = .ok (.aload_n 0, 1) := by decide +kernel
theorem dX12_walkOf_144 : decode cX12_walkOf 144 = .ok (.getfield 103, 3) := by decide +kernel
theorem dX12_walkOf_147 : decode cX12_walkOf 147 = .ok (.iload_n 3, 1) := by decide +kernel
theorem dX12_walkOf_148 : decode cX12_walkOf 148 = .ok (.baload, 1) := by decide +kernel
theorem dX12_walkOf_149 : decode cX12_walkOf 149 = .ok (.ifCond .ne 92, 3) := by decide +kernel
theorem dX12_walkOf_152 : decode cX12_walkOf 152 = .ok (.aload_n 0, 1) := by decide +kernel
theorem dX12_walkOf_153 : decode cX12_walkOf 153 = .ok (.getfield 51, 3) := by decide +kernel
theorem dX12_walkOf_156 : decode cX12_walkOf 156 = .ok (.iload_n 3, 1) := by decide +kernel
theorem dX12_walkOf_157 : decode cX12_walkOf 157 = .ok (.iaload, 1) := by decide +kernel
theorem dX12_walkOf_158 : decode cX12_walkOf 158 = .ok (.ifCond .ne 6, 3) := by decide +kernel
theorem dX12_walkOf_161 : decode cX12_walkOf 161 = .ok (.goto 80, 3) := by decide +kernel
theorem dX12_walkOf_164 : decode cX12_walkOf 164 = .ok (.iconst 0, 1) := by decide +kernel
theorem dX12_walkOf_165 : decode cX12_walkOf 165 = .ok (.istore 4, 2) := by decide +kernel
theorem dX12_walkOf_167 : decode cX12_walkOf 167 = .ok (.iload 4, 2) := by decide +kernel
theorem dX12_walkOf_169 : decode cX12_walkOf 169 = .ok (.iconst 2, 1) := by decide +kernel
theorem dX12_walkOf_170 : decode cX12_walkOf 170 = .ok (.aload_n 0, 1) := by decide +kernel
theorem dX12_walkOf_171 : decode cX12_walkOf 171 = .ok (.getfield 97, 3) := by decide +kernel
theorem dX12_walkOf_174 : decode cX12_walkOf 174 = .ok (.iload_n 3, 1) := by decide +kernel
theorem dX12_walkOf_175 : decode cX12_walkOf 175 = .ok (.iaload, 1) := by decide +kernel
theorem dX12_walkOf_176 : decode cX12_walkOf 176 = .ok (.imul, 1) := by decide +kernel
theorem dX12_walkOf_177 : decode cX12_walkOf 177 = .ok (.if_icmp .ge 64, 3) := by decide +kernel
theorem dX12_walkOf_180 : decode cX12_walkOf 180 = .ok (.aload_n 0, 1) := by decide +kernel
theorem dX12_walkOf_181 : decode cX12_walkOf 181 = .ok (.iload_n 3, 1) := by decide +kernel
theorem dX12_walkOf_182 : decode cX12_walkOf 182 = .ok (.iload 4, 2) := by decide +kernel
theorem dX12_walkOf_184 : decode cX12_walkOf 184 = .ok (.invokevirtual 518, 3) := by decide +kernel
theorem dX12_walkOf_187 : decode cX12_walkOf 187 = .ok (.istore 5, 2) := by decide +kernel
theorem dX12_walkOf_189 : decode cX12_walkOf 189 = .ok (.aload_n 0, 1) := by decide +kernel
theorem dX12_walkOf_190 : decode cX12_walkOf 190 = .ok (.iload_n 3, 1) := by decide +kernel
theorem dX12_walkOf_191 : decode cX12_walkOf 191 = .ok (.iload 4, 2) := by decide +kernel
theorem dX12_walkOf_193 : decode cX12_walkOf 193 = .ok (.iconst 1, 1) := by decide +kernel
theorem dX12_walkOf_194 : decode cX12_walkOf 194 = .ok (.iadd, 1) := by decide +kernel
theorem dX12_walkOf_195 : decode cX12_walkOf 195 = .ok (.invokevirtual 518, 3) := by decide +kernel
theorem dX12_walkOf_198 : decode cX12_walkOf 198 = .ok (.istore 6, 2) := by decide +kernel
theorem dX12_walkOf_200 : decode cX12_walkOf 200 = .ok (.iload 5, 2) := by decide +kernel
theorem dX12_walkOf_202 : decode cX12_walkOf 202 = .ok (.ldc 222, 2) := by decide +kernel
theorem dX12_walkOf_204 : decode cX12_walkOf 204 = .ok (.if_icmp .ge 10, 3) := by decide +kernel
theorem dX12_walkOf_207 : decode cX12_walkOf 207 = .ok (.iload 6, 2) := by decide +kernel
theorem dX12_walkOf_209 : decode cX12_walkOf 209 = .ok (.ldc 222, 2) := by decide +kernel
theorem dX12_walkOf_211 : decode cX12_walkOf 211 = .ok (.if_icmp .lt 7, 3) := by decide +kernel
theorem dX12_walkOf_214 : decode cX12_walkOf 214 = .ok (.ldc2_w 204, 3) := by decide +kernel
theorem dX12_walkOf_217 : decode cX12_walkOf 217 = .ok (.lreturn, 1) := by decide +kernel
theorem dX12_walkOf_218 : decode cX12_walkOf 218 = .ok (.lload_n 1, 1) := by decide +kernel
theorem dX12_walkOf_219 : decode cX12_walkOf 219 = .ok (.aload_n 0, 1) := by decide +kernel
theorem dX12_walkOf_220 : decode cX12_walkOf 220 = .ok (.getfield 51, 3) := by decide +kernel
theorem dX12_walkOf_223 : decode cX12_walkOf 223 = .ok (.iload_n 3, 1) := by decide +kernel
theorem dX12_walkOf_224 : decode cX12_walkOf 224 = .ok (.iaload, 1) := by decide +kernel
theorem dX12_walkOf_225 : decode cX12_walkOf 225 = .ok (.i2l, 1) := by decide +kernel
theorem dX12_walkOf_226 : decode cX12_walkOf 226 = .ok (.iload 5, 2) := by decide +kernel
theorem dX12_walkOf_228 : decode cX12_walkOf 228 = .ok (.iload 6, 2) := by decide +kernel
theorem dX12_walkOf_230 : decode cX12_walkOf 230 = .ok (.iadd, 1) := by decide +kernel
theorem dX12_walkOf_231 : decode cX12_walkOf 231 = .ok (.i2l, 1) := by decide +kernel
theorem dX12_walkOf_232 : decode cX12_walkOf 232 = .ok (.lmul, 1) := by decide +kernel
theorem dX12_walkOf_233 : decode cX12_walkOf 233 = .ok (.ladd, 1) := by decide +kernel
theorem dX12_walkOf_234 : decode cX12_walkOf 234 = .ok (.lstore_n 1, 1) := by decide +kernel
theorem dX12_walkOf_235 : decode cX12_walkOf 235 = .ok (.iinc 4 1, 3) := by decide +kernel
theorem dX12_walkOf_238 : decode cX12_walkOf 238 = .ok (.goto (-71), 3) := by decide +kernel
theorem dX12_walkOf_241 : decode cX12_walkOf 241 = .ok (.iinc 3 1, 3) := by decide +kernel
theorem dX12_walkOf_244 : decode cX12_walkOf 244 = .ok (.goto (-109), 3) := by decide +kernel
theorem dX12_walkOf_247 : decode cX12_walkOf 247 = .ok (.lload_n 1, 1) := by decide +kernel
theorem dX12_walkOf_248 : decode cX12_walkOf 248 = .ok (.lreturn, 1) := by decide +kernel
theorem dX12_walkTo_0 : decode cX12_walkTo 0 = .ok (.aload_n 0, 1) := by decide +kernel
theorem dX12_walkTo_1 : decode cX12_walkTo 1 = .ok (.getfield 164, 3) := by decide +kernel
theorem dX12_walkTo_4 : decode cX12_walkTo 4 = .ok (.iconst 0, 1) := by decide +kernel
theorem dX12_walkTo_5 : decode cX12_walkTo 5 = .ok (.iload_n 1, 1) := by decide +kernel
theorem dX12_walkTo_6 : decode cX12_walkTo 6 = .ok (.iastore, 1) := by decide +kernel
theorem dX12_walkTo_7 : decode cX12_walkTo 7 = .ok (.aload_n 0, 1) := by decide +kernel
theorem dX12_walkTo_8 : decode cX12_walkTo 8 = .ok (.getfield 164, 3) := by decide +kernel
theorem dX12_walkTo_11 : decode cX12_walkTo 11 = .ok (.iconst 1, 1) := by decide +kernel
theorem dX12_walkTo_12 : decode cX12_walkTo 12 = .ok (.iload_n 2, 1) := by decide +kernel
theorem dX12_walkTo_13 : decode cX12_walkTo 13 = .ok (.iastore, 1) := by decide +kernel
theorem dX12_walkTo_14 : decode cX12_walkTo 14 = .ok (.aload_n 0, 1) := by decide +kernel
theorem dX12_walkTo_15 : decode cX12_walkTo 15 = .ok (.iload_n 2, 1) := by decide +kernel
theorem dX12_walkTo_16 : decode cX12_walkTo 16 = .ok (.ifCond .ge 7, 3) := by decide +kernel
theorem dX12_walkTo_19 : decode cX12_walkTo 19 = .ok (.iconst 1, 1) := by decide +kernel
theorem dX12_walkTo_20 : decode cX12_walkTo 20 = .ok (.goto 4, 3) := by decide +kernel
theorem dX12_walkTo_23 : decode cX12_walkTo 23 = .ok (.iconst 2, 1) := by decide +kernel
theorem dX12_walkTo_24 : decode cX12_walkTo 24 = .ok (.putfield 513, 3) := by decide +kernel
theorem dX12_walkTo_27 : decode cX12_walkTo 27 = .ok (.aload_n 0, 1) := by decide +kernel
theorem dX12_walkTo_28 : decode cX12_walkTo 28 = .ok (.invokevirtual 521, 3) := by decide +kernel
theorem dX12_walkTo_31 : decode cX12_walkTo 31 = .ok (.lreturn, 1) := by decide +kernel
theorem dX12_walk_0 : decode cX12_walk 0 = .ok (.aload_n 0, 1) := by decide +kernel
theorem dX12_walk_1 : decode cX12_walk 1 = .ok (.iload_n 1, 1) := by decide +kernel
theorem dX12_walk_2 : decode cX12_walk 2 = .ok (.invokevirtual 370, 3) := by decide +kernel
theorem dX12_walk_5 : decode cX12_walk 5 = .ok (.ifCond .eq 16, 3) := by decide +kernel
theorem dX12_walk_8 : decode cX12_walk 8 = .ok (.iload_n 2, 1) := by decide +kernel
theorem dX12_walk_9 : decode cX12_walk 9 = .ok (.iconst (-1), 1) := by decide +kernel
theorem dX12_walk_10 : decode cX12_walk 10 = .ok (.if_icmp .eq 17, 3) := by decide +kernel
theorem dX12_walk_13 : decode cX12_walk 13 = .ok (.aload_n 0, 1) := by decide +kernel
theorem dX12_walk_14 : decode cX12_walk 14 = .ok (.iload_n 2, 1) := by decide +kernel
theorem dX12_walk_15 : decode cX12_walk 15 = .ok (.invokevirtual 370, 3) := by decide +kernel
theorem dX12_walk_18 : decode cX12_walk 18 = .ok (.ifCond .ne 9, 3) := by decide +kernel
theorem dX12_walk_21 : decode cX12_walk 21 = .ok (.ldc2_w 204, 3) := by decide +kernel
theorem dX12_walk_24 : decode cX12_walk 24 = .ok (.goto 9, 3) := by decide +kernel
theorem dX12_walk_27 : decode cX12_walk 27 = .ok (.aload_n 0, 1) := by decide +kernel
theorem dX12_walk_28 : decode cX12_walk 28 = .ok (.iload_n 1, 1) := by decide +kernel
theorem dX12_walk_29 : decode cX12_walk 29 = .ok (.iload_n 2, 1) := by decide +kernel
theorem dX12_walk_30 : decode cX12_walk 30 = .ok (.invokevirtual 525, 3) := by decide +kernel
theorem dX12_walk_33 : decode cX12_walk 33 = .ok (.lreturn, 1) := by decide +kernel
theorem dX12_ownOf_0 : decode cX12_ownOf 0 = .ok (.ldc2_w 204, 3) := by decide +kernel
theorem dX12_ownOf_3 : decode cX12_ownOf 3 = .ok (.lstore_n 2, 1) := by decide +kernel
theorem dX12_ownOf_4 : decode cX12_ownOf 4 = .ok (.iconst 0, 1) := by decide +kernel
theorem dX12_ownOf_5 : decode cX12_ownOf 5 = .ok (.istore 4, 2) := by decide +kernel
theorem dX12_ownOf_7 : decode cX12_ownOf 7 = .ok (.iload 4, 2) := by decide +kernel
theorem dX12_ownOf_9 : decode cX12_ownOf 9 = .ok (.aload_n 0, 1) := by decide +kernel
theorem dX12_ownOf_10 : decode cX12_ownOf 10 = .ok (.getfield 272, 3) := by decide +kernel
theorem dX12_ownOf_13 : decode cX12_ownOf 13 = .ok (.if_icmp .ge 110, 3) := by decide +kernel
theorem dX12_ownOf_16 : decode cX12_ownOf 16 = .ok (.iload_n 1, 1) := by decide +kernel
theorem dX12_ownOf_17 : decode cX12_ownOf 17 = .ok (.iconst 1, 1) := by decide +kernel
theorem dX12_ownOf_18 : decode cX12_ownOf 18 = .ok (.if_icmp .ne 12, 3) := by decide +kernel
theorem dX12_ownOf_21 : decode cX12_ownOf 21 = .ok (.aload_n 0, 1) := by decide +kernel
theorem dX12_ownOf_22 : decode cX12_ownOf 22 = .ok (.getfield 272, 3) := by decide +kernel
theorem dX12_ownOf_25 : decode cX12_ownOf 25 = .ok (.iconst 1, 1) := by decide +kernel
theorem dX12_ownOf_26 : decode cX12_ownOf 26 = .ok (.isub, 1) := by decide +kernel
theorem dX12_ownOf_27 : decode cX12_ownOf 27 = .ok (.goto 7, 3) := by decide +kernel
theorem dX12_ownOf_30 : decode cX12_ownOf 30 = .ok (.iload 4, 2) := by decide +kernel
theorem dX12_ownOf_32 : decode cX12_ownOf 32 = .ok (.iconst 1, 1) := by decide +kernel
theorem dX12_ownOf_33 : decode cX12_ownOf 33 = .ok (.iadd, 1) := by decide +kernel
theorem dX12_ownOf_34 : decode cX12_ownOf 34 = .ok (.istore 5, 2) := by decide +kernel
theorem dX12_ownOf_36 : decode cX12_ownOf 36 = .ok (.iload 5, 2) := by decide +kernel
theorem dX12_ownOf_38 : decode cX12_ownOf 38 = .ok (.aload_n 0, 1) := by decide +kernel
theorem dX12_ownOf_39 : decode cX12_ownOf 39 = .ok (.getfield 272, 3) := by decide +kernel
theorem dX12_ownOf_42 : decode cX12_ownOf 42 = .ok (.if_icmp .ge 75, 3) := by decide +kernel
theorem dX12_ownOf_45 : decode cX12_ownOf 45 = .ok (.aload_n 0, 1) := by decide +kernel
theorem dX12_ownOf_46 : decode cX12_ownOf 46 = .ok (.iload 4, 2) := by decide +kernel
theorem dX12_ownOf_48 : decode cX12_ownOf 48 = .ok (.iload_n 1, 1) := by decide +kernel
theorem dX12_ownOf_49 : decode cX12_ownOf 49 = .ok (.iconst 1, 1) := by decide +kernel
theorem dX12_ownOf_50 : decode cX12_ownOf 50 = .ok (.if_icmp .ne 7, 3) := by decide +kernel
theorem dX12_ownOf_53 : decode cX12_ownOf 53 = .ok (.iconst (-1), 1) := by decide +kernel
theorem dX12_ownOf_54 : decode cX12_ownOf 54 = .ok (.goto 5, 3) := by decide +kernel
theorem dX12_ownOf_57 : decode cX12_ownOf 57 = .ok (.iload 5, 2) := by decide +kernel
theorem dX12_ownOf_59 : decode cX12_ownOf 59 = .ok (.invokevirtual 525, 3) := by decide +kernel
theorem dX12_ownOf_62 : decode cX12_ownOf 62 = .ok (.lstore 6, 2) := by decide +kernel
theorem dX12_ownOf_64 : decode cX12_ownOf 64 = .ok (.lload 6, 2) := by decide +kernel
theorem dX12_ownOf_66 : decode cX12_ownOf 66 = .ok (.lconst 0, 1) := by decide +kernel
theorem dX12_ownOf_67 : decode cX12_ownOf 67 = .ok (.lcmp, 1) := by decide +kernel
theorem dX12_ownOf_68 : decode cX12_ownOf 68 = .ok (.ifCond .lt 43, 3) := by decide +kernel
theorem dX12_ownOf_71 : decode cX12_ownOf 71 = .ok (.lload_n 2, 1) := by decide +kernel
theorem dX12_ownOf_72 : decode cX12_ownOf 72 = .ok (.lconst 0, 1) := by decide +kernel
theorem dX12_ownOf_73 : decode cX12_ownOf 73 = .ok (.lcmp, 1) := by decide +kernel
theorem dX12_ownOf_74 : decode cX12_ownOf 74 = .ok (.ifCond .lt 13, 3) := by decide +kernel
theorem dX12_ownOf_77 : decode cX12_ownOf 77 = .ok (.lload 6, 2) := by decide +kernel
theorem dX12_ownOf_79 : decode cX12_ownOf 79 = .ok (.lload_n 2, 1) := by decide +kernel
theorem dX12_ownOf_80 : decode cX12_ownOf 80 = .ok (.lcmp, 1) := by decide +kernel
theorem dX12_ownOf_81 : decode cX12_ownOf 81 = .ok (.ifCond .lt 6, 3) := by decide +kernel
theorem dX12_ownOf_84 : decode cX12_ownOf 84 = .ok (.goto 27, 3) := by decide +kernel
theorem dX12_ownOf_87 : decode cX12_ownOf 87 = .ok (.lload 6, 2) := by decide +kernel
theorem dX12_ownOf_89 : decode cX12_ownOf 89 = .ok (.lstore_n 2, 1) := by decide +kernel
theorem dX12_ownOf_90 : decode cX12_ownOf 90 = .ok (.aload_n 0, 1) := by decide +kernel
theorem dX12_ownOf_91 : decode cX12_ownOf 91 = .ok (.iload 4, 2) := by decide +kernel
theorem dX12_ownOf_93 : decode cX12_ownOf 93 = .ok (.putfield 529, 3) := by decide +kernel
theorem dX12_ownOf_96 : decode cX12_ownOf 96 = .ok (.aload_n 0, 1) := by decide +kernel
theorem dX12_ownOf_97 : decode cX12_ownOf 97 = .ok (.iload_n 1, 1) := by decide +kernel
theorem dX12_ownOf_98 : decode cX12_ownOf 98 = .ok (.iconst 1, 1) := by decide +kernel
theorem dX12_ownOf_99 : decode cX12_ownOf 99 = .ok (.if_icmp .ne 7, 3) := by decide +kernel
theorem dX12_ownOf_102 : decode cX12_ownOf 102 = .ok (.iconst (-1), 1) := by decide +kernel
theorem dX12_ownOf_103 : decode cX12_ownOf 103 = .ok (.goto 5, 3) := by decide +kernel
theorem dX12_ownOf_106 : decode cX12_ownOf 106 = .ok (.iload 5, 2) := by decide +kernel
theorem dX12_ownOf_108 : decode cX12_ownOf 108 = .ok (.putfield 532, 3) := by decide +kernel
theorem dX12_ownOf_111 : decode cX12_ownOf 111 = .ok (.iinc 5 1, 3) := by decide +kernel
theorem dX12_ownOf_114 : decode cX12_ownOf 114 = .ok (.goto (-78), 3) := by decide +kernel
theorem dX12_ownOf_117 : decode cX12_ownOf 117 = .ok (.iinc 4 1, 3) := by decide +kernel
theorem dX12_ownOf_120 : decode cX12_ownOf 120 = .ok (.goto (-113), 3) := by decide +kernel
theorem dX12_ownOf_123 : decode cX12_ownOf 123 = .ok (.lload_n 2, 1) := by decide +kernel
theorem dX12_ownOf_124 : decode cX12_ownOf 124 = .ok (.lreturn, 1) := by decide +kernel
theorem dX12_own_0 : decode cX12_own 0 = .ok (.iload_n 1, 1) := by decide +kernel
theorem dX12_own_1 : decode cX12_own 1 = .ok (.iconst 1, 1) := by decide +kernel
theorem dX12_own_2 : decode cX12_own 2 = .ok (.iconst 2, 1) := by decide +kernel
theorem dX12_own_3 : decode cX12_own 3 = .ok (.invokestatic 216, 3) := by decide +kernel
theorem dX12_own_6 : decode cX12_own 6 = .ok (.ifCond .eq 12, 3) := by decide +kernel
theorem dX12_own_9 : decode cX12_own 9 = .ok (.iload_n 2, 1) := by decide +kernel
theorem dX12_own_10 : decode cX12_own 10 = .ok (.iconst 0, 1) := by decide +kernel
theorem dX12_own_11 : decode cX12_own 11 = .ok (.iload_n 1, 1) := by decide +kernel
theorem dX12_own_12 : decode cX12_own 12 = .ok (.invokestatic 216, 3) := by decide +kernel
theorem dX12_own_15 : decode cX12_own 15 = .ok (.ifCond .ne 7, 3) := by decide +kernel
theorem dX12_own_18 : decode cX12_own 18 = .ok (.ldc2_w 204, 3) := by decide +kernel
theorem dX12_own_21 : decode cX12_own 21 = .ok (.lreturn, 1) := by decide +kernel
theorem dX12_own_22 : decode cX12_own 22 = .ok (.aload_n 0, 1) := by decide +kernel
theorem dX12_own_23 : decode cX12_own 23 = .ok (.iload_n 1, 1) := by decide +kernel
theorem dX12_own_24 : decode cX12_own 24 = .ok (.invokevirtual 535, 3) := by decide +kernel
theorem dX12_own_27 : decode cX12_own 27 = .ok (.lstore_n 3, 1) := by decide +kernel
theorem dX12_own_28 : decode cX12_own 28 = .ok (.lload_n 3, 1) := by decide +kernel
theorem dX12_own_29 : decode cX12_own 29 = .ok (.lconst 0, 1) := by decide +kernel
theorem dX12_own_30 : decode cX12_own 30 = .ok (.lcmp, 1) := by decide +kernel
theorem dX12_own_31 : decode cX12_own 31 = .ok (.ifCond .ge 9, 3) := by decide +kernel
theorem dX12_own_34 : decode cX12_own 34 = .ok (.ldc2_w 204, 3) := by decide +kernel
theorem dX12_own_37 : decode cX12_own 37 = .ok (.goto 29, 3) := by decide +kernel
theorem dX12_own_40 : decode cX12_own 40 = .ok (.iload_n 2, 1) := by decide +kernel
theorem dX12_own_41 : decode cX12_own 41 = .ok (.ifCond .ne 7, 3) := by decide +kernel
theorem dX12_own_44 : decode cX12_own 44 = .ok (.lload_n 3, 1) := by decide +kernel
theorem dX12_own_45 : decode cX12_own 45 = .ok (.goto 21, 3) := by decide +kernel
theorem dX12_own_48 : decode cX12_own 48 = .ok (.iload_n 2, 1) := by decide +kernel
theorem dX12_own_49 : decode cX12_own 49 = .ok (.iconst 1, 1) := by decide +kernel
theorem dX12_own_50 : decode cX12_own 50 = .ok (.if_icmp .ne 11, 3) := by decide +kernel
theorem dX12_own_53 : decode cX12_own 53 = .ok (.aload_n 0, 1) := by decide +kernel
theorem dX12_own_54 : decode cX12_own 54 = .ok (.getfield 529, 3) := by decide +kernel
theorem dX12_own_57 : decode cX12_own 57 = .ok (.i2l, 1) := by decide +kernel
theorem dX12_own_58 : decode cX12_own 58 = .ok (.goto 8, 3) := by decide +kernel
theorem dX12_own_61 : decode cX12_own 61 = .ok (.aload_n 0, 1) := by decide +kernel
theorem dX12_own_62 : decode cX12_own 62 = .ok (.getfield 532, 3) := by decide +kernel
theorem dX12_own_65 : decode cX12_own 65 = .ok (.i2l, 1) := by decide +kernel
theorem dX12_own_66 : decode cX12_own 66 = .ok (.lreturn, 1) := by decide +kernel
theorem dX12_loss_0 : decode cX12_loss 0 = .ok (.aload_n 0, 1) := by decide +kernel
theorem dX12_loss_1 : decode cX12_loss 1 = .ok (.getfield 329, 3) := by decide +kernel
theorem dX12_loss_4 : decode cX12_loss 4 = .ok (.ifCond .ne 7, 3) := by decide +kernel
theorem dX12_loss_7 : decode cX12_loss 7 = .ok (.ldc2_w 492, 3) := by decide +kernel
theorem dX12_loss_10 : decode cX12_loss 10 = .ok (.lreturn, 1) := by decide +kernel
theorem dX12_loss_11 : decode cX12_loss 11 = .ok (.aload_n 0, 1) := by decide +kernel
theorem dX12_loss_12 : decode cX12_loss 12 = .ok (.aload_n 0, 1) := by decide +kernel
theorem dX12_loss_13 : decode cX12_loss 13 = .ok (.getfield 329, 3) := by decide +kernel
theorem dX12_loss_16 : decode cX12_loss 16 = .ok (.putfield 513, 3) := by decide +kernel
theorem dX12_loss_19 : decode cX12_loss 19 = .ok (.iconst 0, 1) := by decide +kernel
theorem dX12_loss_20 : decode cX12_loss 20 = .ok (.istore_n 1, 1) := by decide +kernel
theorem dX12_loss_21 : decode cX12_loss 21 = .ok (.iload_n 1, 1) := by decide +kernel
theorem dX12_loss_22 : decode cX12_loss 22 = .ok (.aload_n 0, 1) := by decide +kernel
theorem dX12_loss_23 : decode cX12_loss 23 = .ok (.getfield 329, 3) := by decide +kernel
theorem dX12_loss_26 : decode cX12_loss 26 = .ok (.if_icmp .ge 21, 3) := by decide +kernel
theorem dX12_loss_29 : decode cX12_loss 29 = .ok (.aload_n 0, 1) := by decide +kernel
theorem dX12_loss_30 : decode cX12_loss 30 = .ok (.getfield 164, 3) := by decide +kernel
theorem dX12_loss_33 : decode cX12_loss 33 = .ok (.iload_n 1, 1) := by decide +kernel
theorem dX12_loss_34 : decode cX12_loss 34 = .ok (.aload_n 0, 1) := by decide +kernel
theorem dX12_loss_35 : decode cX12_loss 35 = .ok (.getfield 107, 3) := by decide +kernel
theorem dX12_loss_38 : decode cX12_loss 38 = .ok (.iload_n 1, 1) := by decide +kernel
theorem dX12_loss_39 : decode cX12_loss 39 = .ok (.iaload, 1) := by decide +kernel
theorem dX12_loss_40 : decode cX12_loss 40 = .ok (.iastore, 1) := by decide +kernel
theorem dX12_loss_41 : decode cX12_loss 41 = .ok (.iinc 1 1, 3) := by decide +kernel
theorem dX12_loss_44 : decode cX12_loss 44 = .ok (.goto (-23), 3) := by decide +kernel
theorem dX12_loss_47 : decode cX12_loss 47 = .ok (.aload_n 0, 1) := by decide +kernel
theorem dX12_loss_48 : decode cX12_loss 48 = .ok (.invokevirtual 521, 3) := by decide +kernel
theorem dX12_loss_51 : decode cX12_loss 51 = .ok (.lstore_n 1, 1) := by decide +kernel
theorem dX12_loss_52 : decode cX12_loss 52 = .ok (.aload_n 0, 1) := by decide +kernel
theorem dX12_loss_53 : decode cX12_loss 53 = .ok (.aload_n 0, 1) := by decide +kernel
theorem dX12_loss_54 : decode cX12_loss 54 = .ok (.getfield 329, 3) := by decide +kernel
theorem dX12_loss_57 : decode cX12_loss 57 = .ok (.iconst 1, 1) := by decide +kernel
theorem dX12_loss_58 : decode cX12_loss 58 = .ok (.if_icmp .ne 7, 3) := by decide +kernel
theorem dX12_loss_61 : decode cX12_loss 61 = .ok (.iconst 1, 1) := by decide +kernel
theorem dX12_loss_62 : decode cX12_loss 62 = .ok (.goto 4, 3) := by decide +kernel
theorem dX12_loss_65 : decode cX12_loss 65 = .ok (.iconst 2, 1) := by decide +kernel
theorem dX12_loss_66 : decode cX12_loss 66 = .ok (.invokevirtual 535, 3) := by decide +kernel
theorem dX12_loss_69 : decode cX12_loss 69 = .ok (.lstore_n 3, 1) := by decide +kernel
theorem dX12_loss_70 : decode cX12_loss 70 = .ok (.lload_n 1, 1) := by decide +kernel
theorem dX12_loss_71 : decode cX12_loss 71 = .ok (.lconst 0, 1) := by decide +kernel
theorem dX12_loss_72 : decode cX12_loss 72 = .ok (.lcmp, 1) := by decide +kernel
theorem dX12_loss_73 : decode cX12_loss 73 = .ok (.ifCond .lt 9, 3) := by decide +kernel
theorem dX12_loss_76 : decode cX12_loss 76 = .ok (.lload_n 3, 1) := by decide +kernel
theorem dX12_loss_77 : decode cX12_loss 77 = .ok (.lconst 0, 1) := by decide +kernel
theorem dX12_loss_78 : decode cX12_loss 78 = .ok (.lcmp, 1) := by decide +kernel
theorem dX12_loss_79 : decode cX12_loss 79 = .ok (.ifCond .ge 9, 3) := by decide +kernel
theorem dX12_loss_82 : decode cX12_loss 82 = .ok (.ldc2_w 492, 3) := by decide +kernel
theorem dX12_loss_85 : decode cX12_loss 85 = .ok (.goto 6, 3) := by decide +kernel
theorem dX12_loss_88 : decode cX12_loss 88 = .ok (.lload_n 1, 1) := by decide +kernel
theorem dX12_loss_89 : decode cX12_loss 89 = .ok (.lload_n 3, 1) := by decide +kernel
theorem dX12_loss_90 : decode cX12_loss 90 = .ok (.lsub, 1) := by decide +kernel
theorem dX12_loss_91 : decode cX12_loss 91 = .ok (.lreturn, 1) := by decide +kernel
theorem dX12_lawWalk_0 : decode cX12_lawWalk 0 = .ok (.aload_n 0, 1) := by decide +kernel
theorem dX12_lawWalk_1 : decode cX12_lawWalk 1 = .ok (.iload_n 1, 1) := by decide +kernel
theorem dX12_lawWalk_2 : decode cX12_lawWalk 2 = .ok (.iload_n 2, 1) := by decide +kernel
theorem dX12_lawWalk_3 : decode cX12_lawWalk 3 = .ok (.iconst (-1), 1) := by decide +kernel
theorem dX12_lawWalk_4 : decode cX12_lawWalk 4 = .ok (.invokevirtual 464, 3) := by decide +kernel
theorem dX12_lawWalk_7 : decode cX12_lawWalk 7 = .ok (.aload_n 0, 1) := by decide +kernel
theorem dX12_lawWalk_8 : decode cX12_lawWalk 8 = .ok (.iconst 0, 1) := by decide +kernel
theorem dX12_lawWalk_9 : decode cX12_lawWalk 9 = .ok (.putfield 538, 3) := by decide +kernel
theorem dX12_lawWalk_12 : decode cX12_lawWalk 12 = .ok (.ldc2_w 204, 3) := by decide +kernel
theorem dX12_lawWalk_15 : decode cX12_lawWalk 15 = .ok (.lstore_n 3, 1) := by decide +kernel
theorem dX12_lawWalk_16 : decode cX12_lawWalk 16 = .ok (.iconst 0, 1) := by decide +kernel
theorem dX12_lawWalk_17 : decode cX12_lawWalk 17 = .ok (.istore 5, 2) := by decide +kernel
theorem dX12_lawWalk_19 : decode cX12_lawWalk 19 = .ok (.iload 5, 2) := by decide +kernel
theorem dX12_lawWalk_21 : decode cX12_lawWalk 21 = .ok (.aload_n 0, 1) := by decide +kernel
theorem dX12_lawWalk_22 : decode cX12_lawWalk 22 = .ok (.getfield 272, 3) := by decide +kernel
theorem dX12_lawWalk_25 : decode cX12_lawWalk 25 = .ok (.if_icmp .ge 86, 3) := by decide +kernel
theorem dX12_lawWalk_28 : decode cX12_lawWalk 28 = .ok (.iconst 0, 1) := by decide +kernel
theorem dX12_lawWalk_29 : decode cX12_lawWalk 29 = .ok (.istore 6, 2) := by decide +kernel
theorem dX12_lawWalk_31 : decode cX12_lawWalk 31 = .ok (.iload 6, 2) := by decide +kernel
theorem dX12_lawWalk_33 : decode cX12_lawWalk 33 = .ok (.aload_n 0, 1) := by decide +kernel
theorem dX12_lawWalk_34 : decode cX12_lawWalk 34 = .ok (.getfield 272, 3) := by decide +kernel
theorem dX12_lawWalk_37 : decode cX12_lawWalk 37 = .ok (.if_icmp .ge 68, 3) := by decide +kernel
theorem dX12_lawWalk_40 : decode cX12_lawWalk 40 = .ok (.aload_n 0, 1) := by decide +kernel
theorem dX12_lawWalk_41 : decode cX12_lawWalk 41 = .ok (.iload 5, 2) := by decide +kernel
theorem dX12_lawWalk_43 : decode cX12_lawWalk 43 = .ok (.iload 6, 2) := by decide +kernel
theorem dX12_lawWalk_45 : decode cX12_lawWalk 45 = .ok (.iconst 0, 1) := by decide +kernel
theorem dX12_lawWalk_46 : decode cX12_lawWalk 46 = .ok (.iconst 0, 1) := by decide +kernel
theorem dX12_lawWalk_47 : decode cX12_lawWalk 47 = .ok (.invokevirtual 468, 3) := by decide +kernel
theorem dX12_lawWalk_50 : decode cX12_lawWalk 50 = .ok (.ifCond .ne 6, 3) := by decide +kernel
theorem dX12_lawWalk_53 : decode cX12_lawWalk 53 = .ok (.goto 46, 3) := by decide +kernel
theorem dX12_lawWalk_56 : decode cX12_lawWalk 56 = .ok (.aload_n 0, 1) := by decide +kernel
theorem dX12_lawWalk_57 : decode cX12_lawWalk 57 = .ok (.dup, 1) := by decide +kernel
theorem dX12_lawWalk_58 : decode cX12_lawWalk 58 = .ok (.getfield 538, 3) := by decide +kernel
theorem dX12_lawWalk_61 : decode cX12_lawWalk 61 = .ok (.iconst 1, 1) := by decide +kernel
theorem dX12_lawWalk_62 : decode cX12_lawWalk 62 = .ok (.iadd, 1) := by decide +kernel
theorem dX12_lawWalk_63 : decode cX12_lawWalk 63 = .ok (.putfield 538, 3) := by decide +kernel
theorem dX12_lawWalk_66 : decode cX12_lawWalk 66 = .ok (.aload_n 0, 1) := by decide +kernel
theorem dX12_lawWalk_67 : decode cX12_lawWalk 67 = .ok (.iload 5, 2) := by decide +kernel
theorem dX12_lawWalk_69 : decode cX12_lawWalk 69 = .ok (.iload 6, 2) := by decide +kernel
theorem dX12_lawWalk_71 : decode cX12_lawWalk 71 = .ok (.invokevirtual 525, 3) := by decide +kernel
theorem dX12_lawWalk_74 : decode cX12_lawWalk 74 = .ok (.lstore 7, 2) := by decide +kernel
theorem dX12_lawWalk_76 : decode cX12_lawWalk 76 = .ok (.lload 7, 2) := by decide +kernel
theorem dX12_lawWalk_78 : decode cX12_lawWalk 78 = .ok (.lconst 0, 1) := by decide +kernel
theorem dX12_lawWalk_79 : decode cX12_lawWalk 79 = .ok (.lcmp, 1) := by decide +kernel
theorem dX12_lawWalk_80 : decode cX12_lawWalk 80 = .ok (.ifCond .lt 19, 3) := by decide +kernel
theorem dX12_lawWalk_83 : decode cX12_lawWalk 83 = .ok (.lload_n 3, 1) := by decide +kernel
theorem dX12_lawWalk_84 : decode cX12_lawWalk 84 = .ok (.lconst 0, 1) := by decide +kernel
theorem dX12_lawWalk_85 : decode cX12_lawWalk 85 = .ok (.lcmp, 1) := by decide +kernel
theorem dX12_lawWalk_86 : decode cX12_lawWalk 86 = .ok (.ifCond .lt 10, 3) := by decide +kernel
theorem dX12_lawWalk_89 : decode cX12_lawWalk 89 = .ok (.lload 7, 2) := by decide +kernel
theorem dX12_lawWalk_91 : decode cX12_lawWalk 91 = .ok (.lload_n 3, 1) := by decide +kernel
theorem dX12_lawWalk_92 : decode cX12_lawWalk 92 = .ok (.lcmp, 1) := by decide +kernel
theorem dX12_lawWalk_93 : decode cX12_lawWalk 93 = .ok (.ifCond .ge 6, 3) := by decide +kernel
theorem dX12_lawWalk_96 : decode cX12_lawWalk 96 = .ok (.lload 7, 2) := by decide +kernel
theorem dX12_lawWalk_98 : decode cX12_lawWalk 98 = .ok (.lstore_n 3, 1) := by decide +kernel
theorem dX12_lawWalk_99 : decode cX12_lawWalk 99 = .ok (.iinc 6 1, 3) := by decide +kernel
theorem dX12_lawWalk_102 : decode cX12_lawWalk 102 = .ok (.goto (-71), 3) := by decide +kernel
theorem dX12_lawWalk_105 : decode cX12_lawWalk 105 = .ok (.iinc 5 1, 3) := by decide +kernel
theorem dX12_lawWalk_108 : decode cX12_lawWalk 108 = .ok (.goto (-89), 3) := by decide +kernel
theorem dX12_lawWalk_111 : decode cX12_lawWalk 111 = .ok (.lload_n 3, 1) := by decide +kernel
theorem dX12_lawWalk_112 : decode cX12_lawWalk 112 = .ok (.lreturn, 1) := by decide +kernel
theorem dX12_bestLaw_0 : decode cX12_bestLaw 0 = .ok (.aload_n 0, 1) := by decide +kernel
theorem dX12_bestLaw_1 : decode cX12_bestLaw 1 = .ok (.iload_n 1, 1) := by decide +kernel
theorem dX12_bestLaw_2 : decode cX12_bestLaw 2 = .ok (.iload_n 2, 1) := by decide +kernel
theorem dX12_bestLaw_3 : decode cX12_bestLaw 3 = .ok (.invokevirtual 461, 3) := by decide +kernel
theorem dX12_bestLaw_6 : decode cX12_bestLaw 6 = .ok (.ifCond .eq 12, 3) := by decide +kernel
theorem dX12_bestLaw_9 : decode cX12_bestLaw 9 = .ok (.iload_n 3, 1) := by decide +kernel
theorem dX12_bestLaw_10 : decode cX12_bestLaw 10 = .ok (.iconst 0, 1) := by decide +kernel
theorem dX12_bestLaw_11 : decode cX12_bestLaw 11 = .ok (.iconst 2, 1) := by decide +kernel
theorem dX12_bestLaw_12 : decode cX12_bestLaw 12 = .ok (.invokestatic 216, 3) := by decide +kernel
theorem dX12_bestLaw_15 : decode cX12_bestLaw 15 = .ok (.ifCond .ne 7, 3) := by decide +kernel
theorem dX12_bestLaw_18 : decode cX12_bestLaw 18 = .ok (.ldc2_w 204, 3) := by decide +kernel
theorem dX12_bestLaw_21 : decode cX12_bestLaw 21 = .ok (.lreturn, 1) := by decide +kernel
theorem dX12_bestLaw_22 : decode cX12_bestLaw 22 = .ok (.aload_n 0, 1) := by decide +kernel
theorem dX12_bestLaw_23 : decode cX12_bestLaw 23 = .ok (.getfield 73, 3) := by decide +kernel
theorem dX12_bestLaw_26 : decode cX12_bestLaw 26 = .ok (.istore 4, 2) := by decide +kernel
theorem dX12_bestLaw_28 : decode cX12_bestLaw 28 = .ok (.ldc2_w 204, 3) := by decide +kernel
theorem dX12_bestLaw_31 : decode cX12_bestLaw 31 = .ok (.lstore 5, 2) := by decide +kernel
theorem dX12_bestLaw_33 : decode cX12_bestLaw 33 = .ok (.iconst (-1), 1) := by decide +kernel
theorem dX12_bestLaw_34 : decode cX12_bestLaw 34 = .ok (.istore 7, 2) := by decide +kernel
theorem dX12_bestLaw_36 : decode cX12_bestLaw 36 = .ok (.iconst 0, 1) := by decide +kernel
theorem dX12_bestLaw_37 : decode cX12_bestLaw 37 = .ok (.istore 8, 2) := by decide +kernel
theorem dX12_bestLaw_39 : decode cX12_bestLaw 39 = .ok (.iconst (-1), 1) := by decide +kernel
theorem dX12_bestLaw_40 : decode cX12_bestLaw 40 = .ok (.istore 9, 2) := by decide +kernel
theorem dX12_bestLaw_42 : decode cX12_bestLaw 42 = .ok (.iload 9, 2) := by decide +kernel
theorem dX12_bestLaw_44 : decode cX12_bestLaw 44 = .ok (.aload_n 0, 1) := by decide +kernel
theorem dX12_bestLaw_45 : decode cX12_bestLaw 45 = .ok (.getfield 332, 3) := by decide +kernel
theorem dX12_bestLaw_48 : decode cX12_bestLaw 48 = .ok (.if_icmp .ge 76, 3) := by decide +kernel
theorem dX12_bestLaw_51 : decode cX12_bestLaw 51 = .ok (.aload_n 0, 1) := by decide +kernel
theorem dX12_bestLaw_52 : decode cX12_bestLaw 52 = .ok (.iload 9, 2) := by decide +kernel
theorem dX12_bestLaw_54 : decode cX12_bestLaw 54 = .ok (.putfield 73, 3) := by decide +kernel
theorem dX12_bestLaw_57 : decode cX12_bestLaw 57 = .ok (.aload_n 0, 1) := by decide +kernel
theorem dX12_bestLaw_58 : decode cX12_bestLaw 58 = .ok (.invokevirtual 338, 3) := by decide +kernel
theorem dX12_bestLaw_61 : decode cX12_bestLaw 61 = .ok (.aload_n 0, 1) := by decide +kernel
theorem dX12_bestLaw_62 : decode cX12_bestLaw 62 = .ok (.iload_n 1, 1) := by decide +kernel
theorem dX12_bestLaw_63 : decode cX12_bestLaw 63 = .ok (.iload_n 2, 1) := by decide +kernel
theorem dX12_bestLaw_64 : decode cX12_bestLaw 64 = .ok (.invokevirtual 541, 3) := by decide +kernel
theorem dX12_bestLaw_67 : decode cX12_bestLaw 67 = .ok (.lstore 10, 2) := by decide +kernel
theorem dX12_bestLaw_69 : decode cX12_bestLaw 69 = .ok (.lload 10, 2) := by decide +kernel
theorem dX12_bestLaw_71 : decode cX12_bestLaw 71 = .ok (.lconst 0, 1) := by decide +kernel
theorem dX12_bestLaw_72 : decode cX12_bestLaw 72 = .ok (.lcmp, 1) := by decide +kernel
theorem dX12_bestLaw_73 : decode cX12_bestLaw 73 = .ok (.ifCond .lt 45, 3) := by decide +kernel
theorem dX12_bestLaw_76 : decode cX12_bestLaw 76 = .ok (.lload 5, 2) := by decide +kernel
theorem dX12_bestLaw_78 : decode cX12_bestLaw 78 = .ok (.lconst 0, 1) := by decide +kernel
theorem dX12_bestLaw_79 : decode cX12_bestLaw 79 = .ok (.lcmp, 1) := by decide +kernel
theorem dX12_bestLaw_80 : decode cX12_bestLaw 80 = .ok (.ifCond .lt 14, 3) := by decide +kernel
theorem dX12_bestLaw_83 : decode cX12_bestLaw 83 = .ok (.lload 10, 2) := by decide +kernel
theorem dX12_bestLaw_85 : decode cX12_bestLaw 85 = .ok (.lload 5, 2) := by decide +kernel
theorem dX12_bestLaw_87 : decode cX12_bestLaw 87 = .ok (.lcmp, 1) := by decide +kernel
theorem dX12_bestLaw_88 : decode cX12_bestLaw 88 = .ok (.ifCond .lt 6, 3) := by decide +kernel
theorem dX12_bestLaw_91 : decode cX12_bestLaw 91 = .ok (.goto 27, 3) := by decide +kernel
theorem dX12_bestLaw_94 : decode cX12_bestLaw 94 = .ok (.lload 10, 2) := by decide +kernel
theorem dX12_bestLaw_96 : decode cX12_bestLaw 96 = .ok (.lstore 5, 2) := by decide +kernel
theorem dX12_bestLaw_98 : decode cX12_bestLaw 98 = .ok (.iload 9, 2) := by decide +kernel
theorem dX12_bestLaw_100 : decode cX12_bestLaw 100 = .ok (.ifCond .ge 8, 3) := by decide +kernel
theorem dX12_bestLaw_103 : decode cX12_bestLaw 103 = .ok (.bipush 9, 2) := by decide +kernel
theorem dX12_bestLaw_105 : decode cX12_bestLaw 105 = .ok (.goto 5, 3) := by decide +kernel
theorem dX12_bestLaw_108 : decode cX12_bestLaw 108 = .ok (.iload 9, 2) := by decide +kernel
theorem dX12_bestLaw_110 : decode cX12_bestLaw 110 = .ok (.istore 7, 2) := by decide +kernel
theorem dX12_bestLaw_112 : decode cX12_bestLaw 112 = .ok (.aload_n 0, 1) := by decide +kernel
theorem dX12_bestLaw_113 : decode cX12_bestLaw 113 = .ok (.getfield 538, 3) := by decide +kernel
theorem dX12_bestLaw_116 : decode cX12_bestLaw 116 = .ok (.istore 8, 2) := by decide +kernel
theorem dX12_bestLaw_118 : decode cX12_bestLaw 118 = .ok (.iinc 9 1, 3) := by decide +kernel
theorem dX12_bestLaw_121 : decode cX12_bestLaw 121 = .ok (.goto (-79), 3) := by decide +kernel
theorem dX12_bestLaw_124 : decode cX12_bestLaw 124 = .ok (.aload_n 0, 1) := by decide +kernel
theorem dX12_bestLaw_125 : decode cX12_bestLaw 125 = .ok (.iload 4, 2) := by decide +kernel
theorem dX12_bestLaw_127 : decode cX12_bestLaw 127 = .ok (.putfield 73, 3) := by decide +kernel
theorem dX12_bestLaw_130 : decode cX12_bestLaw 130 = .ok (.aload_n 0, 1) := by decide +kernel
theorem dX12_bestLaw_131 : decode cX12_bestLaw 131 = .ok (.invokevirtual 338, 3) := by decide +kernel
theorem dX12_bestLaw_134 : decode cX12_bestLaw 134 = .ok (.iload 7, 2) := by decide +kernel
theorem dX12_bestLaw_136 : decode cX12_bestLaw 136 = .ok (.ifCond .ge 9, 3) := by decide +kernel
theorem dX12_bestLaw_139 : decode cX12_bestLaw 139 = .ok (.ldc2_w 204, 3) := by decide +kernel
theorem dX12_bestLaw_142 : decode cX12_bestLaw 142 = .ok (.goto 26, 3) := by decide +kernel
theorem dX12_bestLaw_145 : decode cX12_bestLaw 145 = .ok (.iload_n 3, 1) := by decide +kernel
theorem dX12_bestLaw_146 : decode cX12_bestLaw 146 = .ok (.ifCond .ne 9, 3) := by decide +kernel
theorem dX12_bestLaw_149 : decode cX12_bestLaw 149 = .ok (.iload 7, 2) := by decide +kernel
theorem dX12_bestLaw_151 : decode cX12_bestLaw 151 = .ok (.i2l, 1) := by decide +kernel
theorem dX12_bestLaw_152 : decode cX12_bestLaw 152 = .ok (.goto 16, 3) := by decide +kernel
theorem dX12_bestLaw_155 : decode cX12_bestLaw 155 = .ok (.iload_n 3, 1) := by decide +kernel
theorem dX12_bestLaw_156 : decode cX12_bestLaw 156 = .ok (.iconst 1, 1) := by decide +kernel
theorem dX12_bestLaw_157 : decode cX12_bestLaw 157 = .ok (.if_icmp .ne 8, 3) := by decide +kernel
theorem dX12_bestLaw_160 : decode cX12_bestLaw 160 = .ok (.lload 5, 2) := by decide +kernel
theorem dX12_bestLaw_162 : decode cX12_bestLaw 162 = .ok (.goto 6, 3) := by decide +kernel
theorem dX12_bestLaw_165 : decode cX12_bestLaw 165 = .ok (.iload 8, 2) := by decide +kernel
theorem dX12_bestLaw_167 : decode cX12_bestLaw 167 = .ok (.i2l, 1) := by decide +kernel
theorem dX12_bestLaw_168 : decode cX12_bestLaw 168 = .ok (.lreturn, 1) := by decide +kernel
theorem dX12_shift_0 : decode cX12_shift 0 = .ok (.aload_n 0, 1) := by decide +kernel
theorem dX12_shift_1 : decode cX12_shift 1 = .ok (.iload_n 1, 1) := by decide +kernel
theorem dX12_shift_2 : decode cX12_shift 2 = .ok (.invokevirtual 472, 3) := by decide +kernel
theorem dX12_shift_5 : decode cX12_shift 5 = .ok (.ifCond .eq 24, 3) := by decide +kernel
theorem dX12_shift_8 : decode cX12_shift 8 = .ok (.aload_n 0, 1) := by decide +kernel
theorem dX12_shift_9 : decode cX12_shift 9 = .ok (.iload_n 2, 1) := by decide +kernel
theorem dX12_shift_10 : decode cX12_shift 10 = .ok (.invokevirtual 472, 3) := by decide +kernel
theorem dX12_shift_13 : decode cX12_shift 13 = .ok (.ifCond .eq 16, 3) := by decide +kernel
theorem dX12_shift_16 : decode cX12_shift 16 = .ok (.iload_n 1, 1) := by decide +kernel
theorem dX12_shift_17 : decode cX12_shift 17 = .ok (.iload_n 2, 1) := by decide +kernel
theorem dX12_shift_18 : decode cX12_shift 18 = .ok (.if_icmp .eq 11, 3) := by decide +kernel
theorem dX12_shift_21 : decode cX12_shift 21 = .ok (.aload_n 0, 1) := by decide +kernel
theorem dX12_shift_22 : decode cX12_shift 22 = .ok (.invokevirtual 544, 3) := by decide +kernel
theorem dX12_shift_25 : decode cX12_shift 25 = .ok (.iconst (-1), 1) := by decide +kernel
theorem dX12_shift_26 : decode cX12_shift 26 = .ok (.if_icmp .eq 5, 3) := by decide +kernel
theorem dX12_shift_29 : decode cX12_shift 29 = .ok (.iconst (-1), 1) := by decide +kernel
theorem dX12_shift_30 : decode cX12_shift 30 = .ok (.ireturn, 1) := by decide +kernel
theorem dX12_shift_31 : decode cX12_shift 31 = .ok (.aload_n 0, 1) := by decide +kernel
theorem dX12_shift_32 : decode cX12_shift 32 = .ok (.getfield 29, 3) := by decide +kernel
theorem dX12_shift_35 : decode cX12_shift 35 = .ok (.iload_n 1, 1) := by decide +kernel
theorem dX12_shift_36 : decode cX12_shift 36 = .ok (.iaload, 1) := by decide +kernel
theorem dX12_shift_37 : decode cX12_shift 37 = .ok (.istore_n 3, 1) := by decide +kernel
theorem dX12_shift_38 : decode cX12_shift 38 = .ok (.aload_n 0, 1) := by decide +kernel
theorem dX12_shift_39 : decode cX12_shift 39 = .ok (.getfield 29, 3) := by decide +kernel
theorem dX12_shift_42 : decode cX12_shift 42 = .ok (.iload_n 2, 1) := by decide +kernel
theorem dX12_shift_43 : decode cX12_shift 43 = .ok (.iaload, 1) := by decide +kernel
theorem dX12_shift_44 : decode cX12_shift 44 = .ok (.istore 4, 2) := by decide +kernel
theorem dX12_shift_46 : decode cX12_shift 46 = .ok (.iconst (-1), 1) := by decide +kernel
theorem dX12_shift_47 : decode cX12_shift 47 = .ok (.istore 5, 2) := by decide +kernel
theorem dX12_shift_49 : decode cX12_shift 49 = .ok (.iconst 1, 1) := by decide +kernel
theorem dX12_shift_50 : decode cX12_shift 50 = .ok (.istore 6, 2) := by decide +kernel
theorem dX12_shift_52 : decode cX12_shift 52 = .ok (.iload 6, 2) := by decide +kernel
theorem dX12_shift_54 : decode cX12_shift 54 = .ok (.iload_n 3, 1) := by decide +kernel
theorem dX12_shift_55 : decode cX12_shift 55 = .ok (.if_icmp .gt 47, 3) := by decide +kernel
theorem dX12_shift_58 : decode cX12_shift 58 = .ok (.iload 5, 2) := by decide +kernel
theorem dX12_shift_60 : decode cX12_shift 60 = .ok (.ifCond .ge 42, 3) := by decide +kernel
theorem dX12_shift_63 : decode cX12_shift 63 = .ok (.aload_n 0, 1) := by decide +kernel
theorem dX12_shift_64 : decode cX12_shift 64 = .ok (.getfield 29, 3) := by decide +kernel
theorem dX12_shift_67 : decode cX12_shift 67 = .ok (.iload_n 1, 1) := by decide +kernel
theorem dX12_shift_68 : decode cX12_shift 68 = .ok (.iload_n 3, 1) := by decide +kernel
theorem dX12_shift_69 : decode cX12_shift 69 = .ok (.iload 6, 2) := by decide +kernel
theorem dX12_shift_71 : decode cX12_shift 71 = .ok (.isub, 1) := by decide +kernel
theorem dX12_shift_72 : decode cX12_shift 72 = .ok (.iastore, 1) := by decide +kernel
theorem dX12_shift_73 : decode cX12_shift 73 = .ok (.aload_n 0, 1) := by decide +kernel
theorem dX12_shift_74 : decode cX12_shift 74 = .ok (.getfield 29, 3) := by decide +kernel
theorem dX12_shift_77 : decode cX12_shift 77 = .ok (.iload_n 2, 1) := by decide +kernel
theorem dX12_shift_78 : decode cX12_shift 78 = .ok (.iload 4, 2) := by decide +kernel
theorem dX12_shift_80 : decode cX12_shift 80 = .ok (.iload 6, 2) := by decide +kernel
theorem dX12_shift_82 : decode cX12_shift 82 = .ok (.iadd, 1) := by decide +kernel
theorem dX12_shift_83 : decode cX12_shift 83 = .ok (.iastore, 1) := by decide +kernel
theorem dX12_shift_84 : decode cX12_shift 84 = .ok (.aload_n 0, 1) := by decide +kernel
theorem dX12_shift_85 : decode cX12_shift 85 = .ok (.invokevirtual 544, 3) := by decide +kernel
theorem dX12_shift_88 : decode cX12_shift 88 = .ok (.iconst (-1), 1) := by decide +kernel
theorem dX12_shift_89 : decode cX12_shift 89 = .ok (.if_icmp .eq 7, 3) := by decide +kernel
theorem dX12_shift_92 : decode cX12_shift 92 = .ok (.iload 6, 2) := by decide +kernel
theorem dX12_shift_94 : decode cX12_shift 94 = .ok (.istore 5, 2) := by decide +kernel
theorem dX12_shift_96 : decode cX12_shift 96 = .ok (.iinc 6 1, 3) := by decide +kernel
theorem dX12_shift_99 : decode cX12_shift 99 = .ok (.goto (-47), 3) := by decide +kernel
theorem dX12_shift_102 : decode cX12_shift 102 = .ok (.aload_n 0, 1) := by decide +kernel
theorem dX12_shift_103 : decode cX12_shift 103 = .ok (.getfield 29, 3) := by decide +kernel
theorem dX12_shift_106 : decode cX12_shift 106 = .ok (.iload_n 1, 1) := by decide +kernel
theorem dX12_shift_107 : decode cX12_shift 107 = .ok (.iload_n 3, 1) := by decide +kernel
theorem dX12_shift_108 : decode cX12_shift 108 = .ok (.iastore, 1) := by decide +kernel
theorem dX12_shift_109 : decode cX12_shift 109 = .ok (.aload_n 0, 1) := by decide +kernel
theorem dX12_shift_110 : decode cX12_shift 110 = .ok (.getfield 29, 3) := by decide +kernel
theorem dX12_shift_113 : decode cX12_shift 113 = .ok (.iload_n 2, 1) := by decide +kernel
theorem dX12_shift_114 : decode cX12_shift 114 = .ok (.iload 4, 2) := by decide +kernel
theorem dX12_shift_116 : decode cX12_shift 116 = .ok (.iastore, 1) := by decide +kernel
theorem dX12_shift_117 : decode cX12_shift 117 = .ok (.iload 5, 2) := by decide +kernel
theorem dX12_shift_119 : decode cX12_shift 119 = .ok (.ireturn, 1) := by decide +kernel
theorem dX12_image_0 : decode cX12_image 0 = .ok (.aload_n 0, 1) := by decide +kernel
theorem dX12_image_1 : decode cX12_image 1 = .ok (.getfield 335, 3) := by decide +kernel
theorem dX12_image_4 : decode cX12_image 4 = .ok (.iconst 4, 1) := by decide +kernel
theorem dX12_image_5 : decode cX12_image 5 = .ok (.if_icmp .eq 10, 3) := by decide +kernel
theorem dX12_image_8 : decode cX12_image 8 = .ok (.aload_n 0, 1) := by decide +kernel
theorem dX12_image_9 : decode cX12_image 9 = .ok (.getfield 329, 3) := by decide +kernel
theorem dX12_image_12 : decode cX12_image 12 = .ok (.ifCond .ne 5, 3) := by decide +kernel
theorem dX12_image_15 : decode cX12_image 15 = .ok (.iconst (-1), 1) := by decide +kernel
theorem dX12_image_16 : decode cX12_image 16 = .ok (.ireturn, 1) := by decide +kernel
theorem dX12_image_17 : decode cX12_image 17 = .ok (.aload_n 0, 1) := by decide +kernel
theorem dX12_image_18 : decode cX12_image 18 = .ok (.getfield 167, 3) := by decide +kernel
theorem dX12_image_21 : decode cX12_image 21 = .ok (.aload_n 0, 1) := by decide +kernel
theorem dX12_image_22 : decode cX12_image 22 = .ok (.getfield 335, 3) := by decide +kernel
theorem dX12_image_25 : decode cX12_image 25 = .ok (.aload_n 0, 1) := by decide +kernel
theorem dX12_image_26 : decode cX12_image 26 = .ok (.getfield 329, 3) := by decide +kernel
theorem dX12_image_29 : decode cX12_image 29 = .ok (.iastore, 1) := by decide +kernel
theorem dX12_image_30 : decode cX12_image 30 = .ok (.aload_n 0, 1) := by decide +kernel
theorem dX12_image_31 : decode cX12_image 31 = .ok (.getfield 170, 3) := by decide +kernel
theorem dX12_image_34 : decode cX12_image 34 = .ok (.aload_n 0, 1) := by decide +kernel
theorem dX12_image_35 : decode cX12_image 35 = .ok (.getfield 335, 3) := by decide +kernel
theorem dX12_image_38 : decode cX12_image 38 = .ok (.aload_n 0, 1) := by decide +kernel
theorem dX12_image_39 : decode cX12_image 39 = .ok (.getfield 73, 3) := by decide +kernel
theorem dX12_image_42 : decode cX12_image 42 = .ok (.iastore, 1) := by decide +kernel
theorem dX12_image_43 : decode cX12_image 43 = .ok (.iconst 0, 1) := by decide +kernel
theorem dX12_image_44 : decode cX12_image 44 = .ok (.istore_n 1, 1) := by decide +kernel
theorem dX12_image_45 : decode cX12_image 45 = .ok (.iload_n 1, 1) := by decide +kernel
theorem dX12_image_46 : decode cX12_image 46 = .ok (.aload_n 0, 1) := by decide +kernel
theorem dX12_image_47 : decode cX12_image 47 = .ok (.getfield 329, 3) := by decide +kernel
theorem dX12_image_50 : decode cX12_image 50 = .ok (.if_icmp .ge 78, 3) := by decide +kernel
theorem dX12_image_53 : decode cX12_image 53 = .ok (.iconst 4, 1) := by decide +kernel
theorem dX12_image_54 : decode cX12_image 54 = .ok (.aload_n 0, 1) := by decide +kernel
theorem dX12_image_55 : decode cX12_image 55 = .ok (.getfield 335, 3) := by decide +kernel
theorem dX12_image_58 : decode cX12_image 58 = .ok (.imul, 1) := by decide +kernel
theorem dX12_image_59 : decode cX12_image 59 = .ok (.iload_n 1, 1) := by decide +kernel
theorem dX12_image_60 : decode cX12_image 60 = .ok (.iadd, 1) := by decide +kernel
theorem dX12_image_61 : decode cX12_image 61 = .ok (.istore_n 2, 1) := by decide +kernel
theorem dX12_image_62 : decode cX12_image 62 = .ok (.aload_n 0, 1) := by decide +kernel
theorem dX12_image_63 : decode cX12_image 63 = .ok (.getfield 173, 3) := by decide +kernel
theorem dX12_image_66 : decode cX12_image 66 = .ok (.iload_n 2, 1) := by decide +kernel
theorem dX12_image_67 : decode cX12_image 67 = .ok (.aload_n 0, 1) := by decide +kernel
theorem dX12_image_68 : decode cX12_image 68 = .ok (.getfield 107, 3) := by decide +kernel
theorem dX12_image_71 : decode cX12_image 71 = .ok (.iload_n 1, 1) := by decide +kernel
theorem dX12_image_72 : decode cX12_image 72 = .ok (.iaload, 1) := by decide +kernel
theorem dX12_image_73 : decode cX12_image 73 = .ok (.iastore, 1) := by decide +kernel
theorem dX12_image_74 : decode cX12_image 74 = .ok (.aload_n 0, 1) := by decide +kernel
theorem dX12_image_75 : decode cX12_image 75 = .ok (.getfield 176, 3) := by decide +kernel
theorem dX12_image_78 : decode cX12_image 78 = .ok (.iload_n 2, 1) := by decide +kernel
theorem dX12_image_79 : decode cX12_image 79 = .ok (.aload_n 0, 1) := by decide +kernel
theorem dX12_image_80 : decode cX12_image 80 = .ok (.getfield 110, 3) := by decide +kernel
theorem dX12_image_83 : decode cX12_image 83 = .ok (.iload_n 1, 1) := by decide +kernel
theorem dX12_image_84 : decode cX12_image 84 = .ok (.iaload, 1) := by decide +kernel
theorem dX12_image_85 : decode cX12_image 85 = .ok (.iastore, 1) := by decide +kernel
theorem dX12_image_86 : decode cX12_image 86 = .ok (.aload_n 0, 1) := by decide +kernel
theorem dX12_image_87 : decode cX12_image 87 = .ok (.getfield 179, 3) := by decide +kernel
theorem dX12_image_90 : decode cX12_image 90 = .ok (.iload_n 2, 1) := by decide +kernel
theorem dX12_image_91 : decode cX12_image 91 = .ok (.aload_n 0, 1) := by decide +kernel
theorem dX12_image_92 : decode cX12_image 92 = .ok (.getfield 113, 3) := by decide +kernel
theorem dX12_image_95 : decode cX12_image 95 = .ok (.iload_n 1, 1) := by decide +kernel
theorem dX12_image_96 : decode cX12_image 96 = .ok (.iaload, 1) := by decide +kernel
theorem dX12_image_97 : decode cX12_image 97 = .ok (.iastore, 1) := by decide +kernel
theorem dX12_image_98 : decode cX12_image 98 = .ok (.aload_n 0, 1) := by decide +kernel
theorem dX12_image_99 : decode cX12_image 99 = .ok (.getfield 182, 3) := by decide +kernel
theorem dX12_image_102 : decode cX12_image 102 = .ok (.iload_n 2, 1) := by decide +kernel
theorem dX12_image_103 : decode cX12_image 103 = .ok (.aload_n 0, 1) := by decide +kernel
theorem dX12_image_104 : decode cX12_image 104 = .ok (.getfield 116, 3) := by decide +kernel
theorem dX12_image_107 : decode cX12_image 107 = .ok (.iload_n 1, 1) := by decide +kernel
theorem dX12_image_108 : decode cX12_image 108 = .ok (.iaload, 1) := by decide +kernel
theorem dX12_image_109 : decode cX12_image 109 = .ok (.iastore, 1) := by decide +kernel
theorem dX12_image_110 : decode cX12_image 110 = .ok (.aload_n 0, 1) := by decide +kernel
theorem dX12_image_111 : decode cX12_image 111 = .ok (.getfield 185, 3) := by decide +kernel
theorem dX12_image_114 : decode cX12_image 114 = .ok (.iload_n 2, 1) := by decide +kernel
theorem dX12_image_115 : decode cX12_image 115 = .ok (.aload_n 0, 1) := by decide +kernel
theorem dX12_image_116 : decode cX12_image 116 = .ok (.getfield 119, 3) := by decide +kernel
theorem dX12_image_119 : decode cX12_image 119 = .ok (.iload_n 1, 1) := by decide +kernel
theorem dX12_image_120 : decode cX12_image 120 = .ok (.iaload, 1) := by decide +kernel
theorem dX12_image_121 : decode cX12_image 121 = .ok (.iastore, 1) := by decide +kernel
theorem dX12_image_122 : decode cX12_image 122 = .ok (.iinc 1 1, 3) := by decide +kernel
theorem dX12_image_125 : decode cX12_image 125 = .ok (.goto (-80), 3) := by decide +kernel
theorem dX12_image_128 : decode cX12_image 128 = .ok (.aload_n 0, 1) := by decide +kernel
theorem dX12_image_129 : decode cX12_image 129 = .ok (.dup, 1) := by decide +kernel
theorem dX12_image_130 : decode cX12_image 130 = .ok (.getfield 335, 3) := by decide +kernel
theorem dX12_image_133 : decode cX12_image 133 = .ok (.iconst 1, 1) := by decide +kernel
theorem dX12_image_134 : decode cX12_image 134 = .ok (.iadd, 1) := by decide +kernel
theorem dX12_image_135 : decode cX12_image 135 = .ok (.putfield 335, 3) := by decide +kernel
theorem dX12_image_138 : decode cX12_image 138 = .ok (.aload_n 0, 1) := by decide +kernel
theorem dX12_image_139 : decode cX12_image 139 = .ok (.getfield 335, 3) := by decide +kernel
theorem dX12_image_142 : decode cX12_image 142 = .ok (.iconst 1, 1) := by decide +kernel
theorem dX12_image_143 : decode cX12_image 143 = .ok (.isub, 1) := by decide +kernel
theorem dX12_image_144 : decode cX12_image 144 = .ok (.ireturn, 1) := by decide +kernel
theorem dX12_back_0 : decode cX12_back 0 = .ok (.iload_n 1, 1) := by decide +kernel
theorem dX12_back_1 : decode cX12_back 1 = .ok (.iconst 0, 1) := by decide +kernel
theorem dX12_back_2 : decode cX12_back 2 = .ok (.aload_n 0, 1) := by decide +kernel
theorem dX12_back_3 : decode cX12_back 3 = .ok (.getfield 335, 3) := by decide +kernel
theorem dX12_back_6 : decode cX12_back 6 = .ok (.iconst 1, 1) := by decide +kernel
theorem dX12_back_7 : decode cX12_back 7 = .ok (.isub, 1) := by decide +kernel
theorem dX12_back_8 : decode cX12_back 8 = .ok (.invokestatic 216, 3) := by decide +kernel
theorem dX12_back_11 : decode cX12_back 11 = .ok (.ifCond .ne 5, 3) := by decide +kernel
theorem dX12_back_14 : decode cX12_back 14 = .ok (.iconst 0, 1) := by decide +kernel
theorem dX12_back_15 : decode cX12_back 15 = .ok (.ireturn, 1) := by decide +kernel
theorem dX12_back_16 : decode cX12_back 16 = .ok (.aload_n 0, 1) := by decide +kernel
theorem dX12_back_17 : decode cX12_back 17 = .ok (.aload_n 0, 1) := by decide +kernel
theorem dX12_back_18 : decode cX12_back 18 = .ok (.getfield 167, 3) := by decide +kernel
theorem dX12_back_21 : decode cX12_back 21 = .ok (.iload_n 1, 1) := by decide +kernel
theorem dX12_back_22 : decode cX12_back 22 = .ok (.iaload, 1) := by decide +kernel
theorem dX12_back_23 : decode cX12_back 23 = .ok (.putfield 329, 3) := by decide +kernel
theorem dX12_back_26 : decode cX12_back 26 = .ok (.iconst 0, 1) := by decide +kernel
theorem dX12_back_27 : decode cX12_back 27 = .ok (.istore_n 2, 1) := by decide +kernel
theorem dX12_back_28 : decode cX12_back 28 = .ok (.iload_n 2, 1) := by decide +kernel
theorem dX12_back_29 : decode cX12_back 29 = .ok (.aload_n 0, 1) := by decide +kernel
theorem dX12_back_30 : decode cX12_back 30 = .ok (.getfield 329, 3) := by decide +kernel
theorem dX12_back_33 : decode cX12_back 33 = .ok (.if_icmp .ge 75, 3) := by decide +kernel
theorem dX12_back_36 : decode cX12_back 36 = .ok (.iconst 4, 1) := by decide +kernel
theorem dX12_back_37 : decode cX12_back 37 = .ok (.iload_n 1, 1) := by decide +kernel
theorem dX12_back_38 : decode cX12_back 38 = .ok (.imul, 1) := by decide +kernel
theorem dX12_back_39 : decode cX12_back 39 = .ok (.iload_n 2, 1) := by decide +kernel
theorem dX12_back_40 : decode cX12_back 40 = .ok (.iadd, 1) := by decide +kernel
theorem dX12_back_41 : decode cX12_back 41 = .ok (.istore_n 3, 1) := by decide +kernel
theorem dX12_back_42 : decode cX12_back 42 = .ok (.aload_n 0, 1) := by decide +kernel
theorem dX12_back_43 : decode cX12_back 43 = .ok (.getfield 107, 3) := by decide +kernel
theorem dX12_back_46 : decode cX12_back 46 = .ok (.iload_n 2, 1) := by decide +kernel
theorem dX12_back_47 : decode cX12_back 47 = .ok (.aload_n 0, 1) := by decide +kernel
theorem dX12_back_48 : decode cX12_back 48 = .ok (.getfield 173, 3) := by decide +kernel
theorem dX12_back_51 : decode cX12_back 51 = .ok (.iload_n 3, 1) := by decide +kernel
theorem dX12_back_52 : decode cX12_back 52 = .ok (.iaload, 1) := by decide +kernel
theorem dX12_back_53 : decode cX12_back 53 = .ok (.iastore, 1) := by decide +kernel
theorem dX12_back_54 : decode cX12_back 54 = .ok (.aload_n 0, 1) := by decide +kernel
theorem dX12_back_55 : decode cX12_back 55 = .ok (.getfield 110, 3) := by decide +kernel
theorem dX12_back_58 : decode cX12_back 58 = .ok (.iload_n 2, 1) := by decide +kernel
theorem dX12_back_59 : decode cX12_back 59 = .ok (.aload_n 0, 1) := by decide +kernel
theorem dX12_back_60 : decode cX12_back 60 = .ok (.getfield 176, 3) := by decide +kernel
theorem dX12_back_63 : decode cX12_back 63 = .ok (.iload_n 3, 1) := by decide +kernel
theorem dX12_back_64 : decode cX12_back 64 = .ok (.iaload, 1) := by decide +kernel
theorem dX12_back_65 : decode cX12_back 65 = .ok (.iastore, 1) := by decide +kernel
theorem dX12_back_66 : decode cX12_back 66 = .ok (.aload_n 0, 1) := by decide +kernel
theorem dX12_back_67 : decode cX12_back 67 = .ok (.getfield 113, 3) := by decide +kernel
theorem dX12_back_70 : decode cX12_back 70 = .ok (.iload_n 2, 1) := by decide +kernel
theorem dX12_back_71 : decode cX12_back 71 = .ok (.aload_n 0, 1) := by decide +kernel
theorem dX12_back_72 : decode cX12_back 72 = .ok (.getfield 179, 3) := by decide +kernel
theorem dX12_back_75 : decode cX12_back 75 = .ok (.iload_n 3, 1) := by decide +kernel
theorem dX12_back_76 : decode cX12_back 76 = .ok (.iaload, 1) := by decide +kernel
theorem dX12_back_77 : decode cX12_back 77 = .ok (.iastore, 1) := by decide +kernel
theorem dX12_back_78 : decode cX12_back 78 = .ok (.aload_n 0, 1) := by decide +kernel
theorem dX12_back_79 : decode cX12_back 79 = .ok (.getfield 116, 3) := by decide +kernel
theorem dX12_back_82 : decode cX12_back 82 = .ok (.iload_n 2, 1) := by decide +kernel
theorem dX12_back_83 : decode cX12_back 83 = .ok (.aload_n 0, 1) := by decide +kernel
theorem dX12_back_84 : decode cX12_back 84 = .ok (.getfield 182, 3) := by decide +kernel
theorem dX12_back_87 : decode cX12_back 87 = .ok (.iload_n 3, 1) := by decide +kernel
theorem dX12_back_88 : decode cX12_back 88 = .ok (.iaload, 1) := by decide +kernel
theorem dX12_back_89 : decode cX12_back 89 = .ok (.iastore, 1) := by decide +kernel
theorem dX12_back_90 : decode cX12_back 90 = .ok (.aload_n 0, 1) := by decide +kernel
theorem dX12_back_91 : decode cX12_back 91 = .ok (.getfield 119, 3) := by decide +kernel
theorem dX12_back_94 : decode cX12_back 94 = .ok (.iload_n 2, 1) := by decide +kernel
theorem dX12_back_95 : decode cX12_back 95 = .ok (.aload_n 0, 1) := by decide +kernel
theorem dX12_back_96 : decode cX12_back 96 = .ok (.getfield 185, 3) := by decide +kernel
theorem dX12_back_99 : decode cX12_back 99 = .ok (.iload_n 3, 1) := by decide +kernel
theorem dX12_back_100 : decode cX12_back 100 = .ok (.iaload, 1) := by decide +kernel
theorem dX12_back_101 : decode cX12_back 101 = .ok (.iastore, 1) := by decide +kernel
theorem dX12_back_102 : decode cX12_back 102 = .ok (.iinc 2 1, 3) := by decide +kernel
theorem dX12_back_105 : decode cX12_back 105 = .ok (.goto (-77), 3) := by decide +kernel
theorem dX12_back_108 : decode cX12_back 108 = .ok (.aload_n 0, 1) := by decide +kernel
theorem dX12_back_109 : decode cX12_back 109 = .ok (.aload_n 0, 1) := by decide +kernel
theorem dX12_back_110 : decode cX12_back 110 = .ok (.getfield 170, 3) := by decide +kernel
theorem dX12_back_113 : decode cX12_back 113 = .ok (.iload_n 1, 1) := by decide +kernel
theorem dX12_back_114 : decode cX12_back 114 = .ok (.iaload, 1) := by decide +kernel
theorem dX12_back_115 : decode cX12_back 115 = .ok (.putfield 73, 3) := by decide +kernel
theorem dX12_back_118 : decode cX12_back 118 = .ok (.aload_n 0, 1) := by decide +kernel
theorem dX12_back_119 : decode cX12_back 119 = .ok (.invokevirtual 338, 3) := by decide +kernel
theorem dX12_back_122 : decode cX12_back 122 = .ok (.iconst 1, 1) := by decide +kernel
theorem dX12_back_123 : decode cX12_back 123 = .ok (.ireturn, 1) := by decide +kernel
theorem dX12_spotsOpen_0 : decode cX12_spotsOpen 0 = .ok (.aload_n 0, 1) := by decide +kernel
theorem dX12_spotsOpen_1 : decode cX12_spotsOpen 1 = .ok (.getfield 272, 3) := by decide +kernel
theorem dX12_spotsOpen_4 : decode cX12_spotsOpen 4 = .ok (.istore_n 1, 1) := by decide +kernel
theorem dX12_spotsOpen_5 : decode cX12_spotsOpen 5 = .ok (.iconst 0, 1) := by decide +kernel
theorem dX12_spotsOpen_6 : decode cX12_spotsOpen 6 = .ok (.istore_n 2, 1) := by decide +kernel
theorem dX12_spotsOpen_7 : decode cX12_spotsOpen 7 = .ok (.iload_n 2, 1) := by decide +kernel
theorem dX12_spotsOpen_8 : decode cX12_spotsOpen 8 = .ok (.aload_n 0, 1) := by decide +kernel
theorem dX12_spotsOpen_9 : decode cX12_spotsOpen 9 = .ok (.getfield 320, 3) := by decide +kernel
theorem dX12_spotsOpen_12 : decode cX12_spotsOpen 12 = .ok (.if_icmp .ge 33, 3) := by decide +kernel
theorem dX12_spotsOpen_15 : decode cX12_spotsOpen 15 = .ok (.iload_n 1, 1) := by decide +kernel
theorem dX12_spotsOpen_16 : decode cX12_spotsOpen 16 = .ok (.aload_n 0, 1) := by decide +kernel
theorem dX12_spotsOpen_17 : decode cX12_spotsOpen 17 = .ok (.getfield 103, 3) := by decide +kernel
theorem dX12_spotsOpen_20 : decode cX12_spotsOpen 20 = .ok (.iload_n 2, 1) := by decide +kernel
theorem dX12_spotsOpen_21 : decode cX12_spotsOpen 21 = .ok (.baload, 1) := by decide +kernel
theorem dX12_spotsOpen_22 : decode cX12_spotsOpen 22 = .ok (.ifCond .eq 7, 3) := by decide +kernel
theorem dX12_spotsOpen_25 : decode cX12_spotsOpen 25 = .ok (.iconst 0, 1) := by decide +kernel
theorem dX12_spotsOpen_26 : decode cX12_spotsOpen 26 = .ok (.goto 11, 3) := by decide +kernel
theorem dX12_spotsOpen_29 : decode cX12_spotsOpen 29 = .ok (.aload_n 0, 1) := by decide +kernel
theorem dX12_spotsOpen_30 : decode cX12_spotsOpen 30 = .ok (.getfield 48, 3) := by decide +kernel
theorem dX12_spotsOpen_33 : decode cX12_spotsOpen 33 = .ok (.iload_n 2, 1) := by decide +kernel
theorem dX12_spotsOpen_34 : decode cX12_spotsOpen 34 = .ok (.iaload, 1) := by decide +kernel
theorem dX12_spotsOpen_35 : decode cX12_spotsOpen 35 = .ok (.iconst 1, 1) := by decide +kernel
theorem dX12_spotsOpen_36 : decode cX12_spotsOpen 36 = .ok (.isub, 1) := by decide +kernel
theorem dX12_spotsOpen_37 : decode cX12_spotsOpen 37 = .ok (.iadd, 1) := by decide +kernel
theorem dX12_spotsOpen_38 : decode cX12_spotsOpen 38 = .ok (.istore_n 1, 1) := by decide +kernel
theorem dX12_spotsOpen_39 : decode cX12_spotsOpen 39 = .ok (.iinc 2 1, 3) := by decide +kernel
theorem dX12_spotsOpen_42 : decode cX12_spotsOpen 42 = .ok (.goto (-35), 3) := by decide +kernel
theorem dX12_spotsOpen_45 : decode cX12_spotsOpen 45 = .ok (.iload_n 1, 1) := by decide +kernel
theorem dX12_spotsOpen_46 : decode cX12_spotsOpen 46 = .ok (.ireturn, 1) := by decide +kernel
theorem dX12_partsOpen_0 : decode cX12_partsOpen 0 = .ok (.iconst 0, 1) := by decide +kernel
theorem dX12_partsOpen_1 : decode cX12_partsOpen 1 = .ok (.istore_n 1, 1) := by decide +kernel
theorem dX12_partsOpen_2 : decode cX12_partsOpen 2 = .ok (.iconst 0, 1) := by decide +kernel
theorem dX12_partsOpen_3 : decode cX12_partsOpen 3 = .ok (.istore_n 2, 1) := by decide +kernel
theorem dX12_partsOpen_4 : decode cX12_partsOpen 4 = .ok (.iload_n 2, 1) := by decide +kernel
theorem dX12_partsOpen_5 : decode cX12_partsOpen 5 = .ok (.aload_n 0, 1) := by decide +kernel
theorem dX12_partsOpen_6 : decode cX12_partsOpen 6 = .ok (.getfield 272, 3) := by decide +kernel
theorem dX12_partsOpen_9 : decode cX12_partsOpen 9 = .ok (.if_icmp .ge 18, 3) := by decide +kernel
theorem dX12_partsOpen_12 : decode cX12_partsOpen 12 = .ok (.iload_n 1, 1) := by decide +kernel
theorem dX12_partsOpen_13 : decode cX12_partsOpen 13 = .ok (.aload_n 0, 1) := by decide +kernel
theorem dX12_partsOpen_14 : decode cX12_partsOpen 14 = .ok (.getfield 29, 3) := by decide +kernel
theorem dX12_partsOpen_17 : decode cX12_partsOpen 17 = .ok (.iload_n 2, 1) := by decide +kernel
theorem dX12_partsOpen_18 : decode cX12_partsOpen 18 = .ok (.iaload, 1) := by decide +kernel
theorem dX12_partsOpen_19 : decode cX12_partsOpen 19 = .ok (.iadd, 1) := by decide +kernel
theorem dX12_partsOpen_20 : decode cX12_partsOpen 20 = .ok (.istore_n 1, 1) := by decide +kernel
theorem dX12_partsOpen_21 : decode cX12_partsOpen 21 = .ok (.iinc 2 1, 3) := by decide +kernel
theorem dX12_partsOpen_24 : decode cX12_partsOpen 24 = .ok (.goto (-20), 3) := by decide +kernel
theorem dX12_partsOpen_27 : decode cX12_partsOpen 27 = .ok (.iconst 0, 1) := by decide +kernel
theorem dX12_partsOpen_28 : decode cX12_partsOpen 28 = .ok (.istore_n 2, 1) := by decide +kernel
theorem dX12_partsOpen_29 : decode cX12_partsOpen 29 = .ok (.iload_n 2, 1) := by decide +kernel
theorem dX12_partsOpen_30 : decode cX12_partsOpen 30 = .ok (.aload_n 0, 1) := by decide +kernel
theorem dX12_partsOpen_31 : decode cX12_partsOpen 31 = .ok (.getfield 320, 3) := by decide +kernel
theorem dX12_partsOpen_34 : decode cX12_partsOpen 34 = .ok (.if_icmp .ge 38, 3) := by decide +kernel
theorem dX12_partsOpen_37 : decode cX12_partsOpen 37 = .ok (.iload_n 1, 1) := by decide +kernel
theorem dX12_partsOpen_38 : decode cX12_partsOpen 38 = .ok (.aload_n 0, 1) := by decide +kernel
theorem dX12_partsOpen_39 : decode cX12_partsOpen 39 = .ok (.getfield 103, 3) := by decide +kernel
theorem dX12_partsOpen_42 : decode cX12_partsOpen 42 = .ok (.iload_n 2, 1) := by decide +kernel
theorem dX12_partsOpen_43 : decode cX12_partsOpen 43 = .ok (.baload, 1) := by decide +kernel
theorem dX12_partsOpen_44 : decode cX12_partsOpen 44 = .ok (.ifCond .eq 7, 3) := by decide +kernel
theorem dX12_partsOpen_47 : decode cX12_partsOpen 47 = .ok (.iconst 0, 1) := by decide +kernel
theorem dX12_partsOpen_48 : decode cX12_partsOpen 48 = .ok (.goto 16, 3) := by decide +kernel
theorem dX12_partsOpen_51 : decode cX12_partsOpen 51 = .ok (.aload_n 0, 1) := by decide +kernel
theorem dX12_partsOpen_52 : decode cX12_partsOpen 52 = .ok (.getfield 51, 3) := by decide +kernel
theorem dX12_partsOpen_55 : decode cX12_partsOpen 55 = .ok (.iload_n 2, 1) := by decide +kernel
theorem dX12_partsOpen_56 : decode cX12_partsOpen 56 = .ok (.iaload, 1) := by decide +kernel
theorem dX12_partsOpen_57 : decode cX12_partsOpen 57 = .ok (.aload_n 0, 1) := by decide +kernel
theorem dX12_partsOpen_58 : decode cX12_partsOpen 58 = .ok (.getfield 48, 3) := by decide +kernel
theorem dX12_partsOpen_61 : decode cX12_partsOpen 61 = .ok (.iload_n 2, 1) := by decide +kernel
theorem dX12_partsOpen_62 : decode cX12_partsOpen 62 = .ok (.iaload, 1) := by decide +kernel
theorem dX12_partsOpen_63 : decode cX12_partsOpen 63 = .ok (.imul, 1) := by decide +kernel
theorem dX12_partsOpen_64 : decode cX12_partsOpen 64 = .ok (.iadd, 1) := by decide +kernel
theorem dX12_partsOpen_65 : decode cX12_partsOpen 65 = .ok (.istore_n 1, 1) := by decide +kernel
theorem dX12_partsOpen_66 : decode cX12_partsOpen 66 = .ok (.iinc 2 1, 3) := by decide +kernel
theorem dX12_partsOpen_69 : decode cX12_partsOpen 69 = .ok (.goto (-40), 3) := by decide +kernel
theorem dX12_partsOpen_72 : decode cX12_partsOpen 72 = .ok (.bipush 24, 2) := by decide +kernel
theorem dX12_partsOpen_74 : decode cX12_partsOpen 74 = .ok (.aload_n 0, 1) := by decide +kernel
theorem dX12_partsOpen_75 : decode cX12_partsOpen 75 = .ok (.getfield 7, 3) := by decide +kernel
theorem dX12_partsOpen_78 : decode cX12_partsOpen 78 = .ok (.imul, 1) := by decide +kernel
theorem dX12_partsOpen_79 : decode cX12_partsOpen 79 = .ok (.iload_n 1, 1) := by decide +kernel
theorem dX12_partsOpen_80 : decode cX12_partsOpen 80 = .ok (.imul, 1) := by decide +kernel
theorem dX12_partsOpen_81 : decode cX12_partsOpen 81 = .ok (.ireturn, 1) := by decide +kernel
theorem dX12_count_0 : decode cX12_count 0 = .ok (.iload_n 1, 1) := by decide +kernel
theorem dX12_count_1 : decode cX12_count 1 = .ok (.tableswitch 87 0 7 #[47, 52, 57, 62, 67, 72, 77, 82], 47) := by decide +kernel
theorem dX12_count_48 : decode cX12_count 48 = .ok (.aload_n 0, 1) := by decide +kernel
theorem dX12_count_49 : decode cX12_count 49 = .ok (.getfield 326, 3) := by decide +kernel
theorem dX12_count_52 : decode cX12_count 52 = .ok (.ireturn, 1) := by decide +kernel
theorem dX12_count_53 : decode cX12_count 53 = .ok (.aload_n 0, 1) := by decide +kernel
theorem dX12_count_54 : decode cX12_count 54 = .ok (.getfield 329, 3) := by decide +kernel
theorem dX12_count_57 : decode cX12_count 57 = .ok (.ireturn, 1) := by decide +kernel
theorem dX12_count_58 : decode cX12_count 58 = .ok (.aload_n 0, 1) := by decide +kernel
theorem dX12_count_59 : decode cX12_count 59 = .ok (.getfield 332, 3) := by decide +kernel
theorem dX12_count_62 : decode cX12_count 62 = .ok (.ireturn, 1) := by decide +kernel
theorem dX12_count_63 : decode cX12_count 63 = .ok (.aload_n 0, 1) := by decide +kernel
theorem dX12_count_64 : decode cX12_count 64 = .ok (.getfield 73, 3) := by decide +kernel
theorem dX12_count_67 : decode cX12_count 67 = .ok (.ireturn, 1) := by decide +kernel
theorem dX12_count_68 : decode cX12_count 68 = .ok (.aload_n 0, 1) := by decide +kernel
theorem dX12_count_69 : decode cX12_count 69 = .ok (.getfield 335, 3) := by decide +kernel
theorem dX12_count_72 : decode cX12_count 72 = .ok (.ireturn, 1) := by decide +kernel
theorem dX12_count_73 : decode cX12_count 73 = .ok (.aload_n 0, 1) := by decide +kernel
theorem dX12_count_74 : decode cX12_count 74 = .ok (.getfield 188, 3) := by decide +kernel
theorem dX12_count_77 : decode cX12_count 77 = .ok (.ireturn, 1) := by decide +kernel
theorem dX12_count_78 : decode cX12_count 78 = .ok (.aload_n 0, 1) := by decide +kernel
theorem dX12_count_79 : decode cX12_count 79 = .ok (.invokevirtual 547, 3) := by decide +kernel
theorem dX12_count_82 : decode cX12_count 82 = .ok (.ireturn, 1) := by decide +kernel
theorem dX12_count_83 : decode cX12_count 83 = .ok (.aload_n 0, 1) := by decide +kernel
theorem dX12_count_84 : decode cX12_count 84 = .ok (.invokevirtual 550, 3) := by decide +kernel
theorem dX12_count_87 : decode cX12_count 87 = .ok (.ireturn, 1) := by decide +kernel
theorem dX12_count_88 : decode cX12_count 88 = .ok (.iconst (-1), 1) := by decide +kernel
theorem dX12_count_89 : decode cX12_count 89 = .ok (.ireturn, 1) := by decide +kernel
