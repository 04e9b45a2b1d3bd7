theorem dX11_init_0 : decode cX11_init 0 = .ok (.aload_n 0, 1) := by decide +kernel
theorem dX11_init_1 : decode cX11_init 1 = .ok (.invokespecial 1, 3) := by decide +kernel
theorem dX11_init_4 : decode cX11_init 4 = .ok (.aload_n 0, 1) := by decide +kernel
theorem dX11_init_5 : decode cX11_init 5 = .ok (.new 7, 3) := by decide +kernel
theorem dX11_init_8 : decode cX11_init 8 = .ok (.dup, 1) := by decide +kernel
theorem dX11_init_9 : decode cX11_init 9 = .ok (.invokespecial 9, 3) := by decide +kernel
theorem dX11_init_12 : decode cX11_init 12 = .ok (.putfield 10, 3) := by decide +kernel
theorem dX11_init_15 : decode cX11_init 15 = .ok (.aload_n 0, 1) := by decide +kernel
theorem dX11_init_16 : decode cX11_init 16 = .ok (.new 16, 3) := by decide +kernel
theorem dX11_init_19 : decode cX11_init 19 = .ok (.dup, 1) := by decide +kernel
theorem dX11_init_20 : decode cX11_init 20 = .ok (.invokespecial 18, 3) := by decide +kernel
theorem dX11_init_23 : decode cX11_init 23 = .ok (.putfield 19, 3) := by decide +kernel
theorem dX11_init_26 : decode cX11_init 26 = .ok (.aload_n 0, 1) := by decide +kernel
theorem dX11_init_27 : decode cX11_init 27 = .ok (.new 16, 3) := by decide +kernel
theorem dX11_init_30 : decode cX11_init 30 = .ok (.dup, 1) := by decide +kernel
theorem dX11_init_31 : decode cX11_init 31 = .ok (.invokespecial 18, 3) := by decide +kernel
theorem dX11_init_34 : decode cX11_init 34 = .ok (.putfield 23, 3) := by decide +kernel
theorem dX11_init_37 : decode cX11_init 37 = .ok (.aload_n 0, 1) := by decide +kernel
theorem dX11_init_38 : decode cX11_init 38 = .ok (.new 26, 3) := by decide +kernel
theorem dX11_init_41 : decode cX11_init 41 = .ok (.dup, 1) := by decide +kernel
theorem dX11_init_42 : decode cX11_init 42 = .ok (.invokespecial 28, 3) := by decide +kernel
theorem dX11_init_45 : decode cX11_init 45 = .ok (.putfield 29, 3) := by decide +kernel
theorem dX11_init_48 : decode cX11_init 48 = .ok (.aload_n 0, 1) := by decide +kernel
theorem dX11_init_49 : decode cX11_init 49 = .ok (.new 33, 3) := by decide +kernel
theorem dX11_init_52 : decode cX11_init 52 = .ok (.dup, 1) := by decide +kernel
theorem dX11_init_53 : decode cX11_init 53 = .ok (.aload_n 0, 1) := by decide +kernel
theorem dX11_init_54 : decode cX11_init 54 = .ok (.getfield 19, 3) := by decide +kernel
theorem dX11_init_57 : decode cX11_init 57 = .ok (.invokespecial 35, 3) := by decide +kernel
theorem dX11_init_60 : decode cX11_init 60 = .ok (.putfield 38, 3) := by decide +kernel
theorem dX11_init_63 : decode cX11_init 63 = .ok (.aload_n 0, 1) := by decide +kernel
theorem dX11_init_64 : decode cX11_init 64 = .ok (.new 42, 3) := by decide +kernel
theorem dX11_init_67 : decode cX11_init 67 = .ok (.dup, 1) := by decide +kernel
theorem dX11_init_68 : decode cX11_init 68 = .ok (.invokespecial 44, 3) := by decide +kernel
theorem dX11_init_71 : decode cX11_init 71 = .ok (.putfield 45, 3) := by decide +kernel
theorem dX11_init_74 : decode cX11_init 74 = .ok (.aload_n 0, 1) := by decide +kernel
theorem dX11_init_75 : decode cX11_init 75 = .ok (.iconst 4, 1) := by decide +kernel
theorem dX11_init_76 : decode cX11_init 76 = .ok (.anewarray 42, 3) := by decide +kernel
theorem dX11_init_79 : decode cX11_init 79 = .ok (.putfield 49, 3) := by decide +kernel
theorem dX11_init_82 : decode cX11_init 82 = .ok (.aload_n 0, 1) := by decide +kernel
theorem dX11_init_83 : decode cX11_init 83 = .ok (.new 53, 3) := by decide +kernel
theorem dX11_init_86 : decode cX11_init 86 = .ok (.dup, 1) := by decide +kernel
theorem dX11_init_87 : decode cX11_init 87 = .ok (.aload_n 0, 1) := by decide +kernel
theorem dX11_init_88 : decode cX11_init 88 = .ok (.getfield 19, 3) := by decide +kernel
theorem dX11_init_91 : decode cX11_init 91 = .ok (.aload_n 0, 1) := by decide +kernel
theorem dX11_init_92 : decode cX11_init 92 = .ok (.getfield 38, 3) := by decide +kernel
theorem dX11_init_95 : decode cX11_init 95 = .ok (.invokespecial 55, 3) := by decide +kernel
theorem dX11_init_98 : decode cX11_init 98 = .ok (.putfield 58, 3) := by decide +kernel
theorem dX11_init_101 : decode cX11_init 101 = .ok (.aload_n 0, 1) := by decide +kernel
theorem dX11_init_102 : decode cX11_init 102 = .ok (.new 62, 3) := by decide +kernel
theorem dX11_init_105 : decode cX11_init 105 = .ok (.dup, 1) := by decide +kernel
theorem dX11_init_106 : decode cX11_init 106 = .ok (.aload_n 0, 1) := by decide +kernel
theorem dX11_init_107 : decode cX11_init 107 = .ok (.getfield 19, 3) := by decide +kernel
theorem dX11_init_110 : decode cX11_init 110 = .ok (.aload_n 0, 1) := by decide +kernel
theorem dX11_init_111 : decode cX11_init 111 = .ok (.getfield 38, 3) := by decide +kernel
theorem dX11_init_114 : decode cX11_init 114 = .ok (.invokespecial 64, 3) := by decide +kernel
theorem dX11_init_117 : decode cX11_init 117 = .ok (.putfield 65, 3) := by decide +kernel
theorem dX11_init_120 : decode cX11_init 120 = .ok (.aload_n 0, 1) := by decide +kernel
theorem dX11_init_121 : decode cX11_init 121 = .ok (.new 69, 3) := by decide +kernel
theorem dX11_init_124 : decode cX11_init 124 = .ok (.dup, 1) := by decide +kernel
theorem dX11_init_125 : decode cX11_init 125 = .ok (.aload_n 0, 1) := by decide +kernel
theorem dX11_init_126 : decode cX11_init 126 = .ok (.getfield 19, 3) := by decide +kernel
theorem dX11_init_129 : decode cX11_init 129 = .ok (.aload_n 0, 1) := by decide +kernel
theorem dX11_init_130 : decode cX11_init 130 = .ok (.getfield 45, 3) := by decide +kernel
theorem dX11_init_133 : decode cX11_init 133 = .ok (.aload_n 0, 1) := by decide +kernel
theorem dX11_init_134 : decode cX11_init 134 = .ok (.getfield 58, 3) := by decide +kernel
theorem dX11_init_137 : decode cX11_init 137 = .ok (.invokespecial 71, 3) := by decide +kernel
theorem dX11_init_140 : decode cX11_init 140 = .ok (.putfield 74, 3) := by decide +kernel
theorem dX11_init_143 : decode cX11_init 143 = .ok (.aload_n 0, 1) := by decide +kernel
theorem dX11_init_144 : decode cX11_init 144 = .ok (.new 78, 3) := by decide +kernel
theorem dX11_init_147 : decode cX11_init 147 = .ok (.dup, 1) := by decide +kernel
theorem dX11_init_148 : decode cX11_init 148 = .ok (.aload_n 0, 1) := by decide +kernel
theorem dX11_init_149 : decode cX11_init 149 = .ok (.getfield 19, 3) := by decide +kernel
theorem dX11_init_152 : decode cX11_init 152 = .ok (.aload_n 0, 1) := by decide +kernel
theorem dX11_init_153 : decode cX11_init 153 = .ok (.getfield 45, 3) := by decide +kernel
theorem dX11_init_156 : decode cX11_init 156 = .ok (.aload_n 0, 1) := by decide +kernel
theorem dX11_init_157 : decode cX11_init 157 = .ok (.getfield 58, 3) := by decide +kernel
theorem dX11_init_160 : decode cX11_init 160 = .ok (.aload_n 0, 1) := by decide +kernel
theorem dX11_init_161 : decode cX11_init 161 = .ok (.getfield 65, 3) := by decide +kernel
theorem dX11_init_164 : decode cX11_init 164 = .ok (.invokespecial 80, 3) := by decide +kernel
theorem dX11_init_167 : decode cX11_init 167 = .ok (.putfield 83, 3) := by decide +kernel
theorem dX11_init_170 : decode cX11_init 170 = .ok (.aload_n 0, 1) := by decide +kernel
theorem dX11_init_171 : decode cX11_init 171 = .ok (.new 87, 3) := by decide +kernel
theorem dX11_init_174 : decode cX11_init 174 = .ok (.dup, 1) := by decide +kernel
theorem dX11_init_175 : decode cX11_init 175 = .ok (.aload_n 0, 1) := by decide +kernel
theorem dX11_init_176 : decode cX11_init 176 = .ok (.getfield 19, 3) := by decide +kernel
theorem dX11_init_179 : decode cX11_init 179 = .ok (.aload_n 0, 1) := by decide +kernel
theorem dX11_init_180 : decode cX11_init 180 = .ok (.getfield 45, 3) := by decide +kernel
theorem dX11_init_183 : decode cX11_init 183 = .ok (.aload_n 0, 1) := by decide +kernel
theorem dX11_init_184 : decode cX11_init 184 = .ok (.getfield 58, 3) := by decide +kernel
theorem dX11_init_187 : decode cX11_init 187 = .ok (.invokespecial 89, 3) := by decide +kernel
theorem dX11_init_190 : decode cX11_init 190 = .ok (.putfield 90, 3) := by decide +kernel
theorem dX11_init_193 : decode cX11_init 193 = .ok (.aload_n 0, 1) := by decide +kernel
theorem dX11_init_194 : decode cX11_init 194 = .ok (.iconst 0, 1) := by decide +kernel
theorem dX11_init_195 : decode cX11_init 195 = .ok (.putfield 94, 3) := by decide +kernel
theorem dX11_init_198 : decode cX11_init 198 = .ok (.aload_n 0, 1) := by decide +kernel
theorem dX11_init_199 : decode cX11_init 199 = .ok (.iconst (-1), 1) := by decide +kernel
theorem dX11_init_200 : decode cX11_init 200 = .ok (.putfield 98, 3) := by decide +kernel
theorem dX11_init_203 : decode cX11_init 203 = .ok (.aload_n 0, 1) := by decide +kernel
theorem dX11_init_204 : decode cX11_init 204 = .ok (.iconst 0, 1) := by decide +kernel
theorem dX11_init_205 : decode cX11_init 205 = .ok (.putfield 101, 3) := by decide +kernel
theorem dX11_init_208 : decode cX11_init 208 = .ok (.aload_n 0, 1) := by decide +kernel
theorem dX11_init_209 : decode cX11_init 209 = .ok (.iconst 0, 1) := by decide +kernel
theorem dX11_init_210 : decode cX11_init 210 = .ok (.putfield 104, 3) := by decide +kernel
theorem dX11_init_213 : decode cX11_init 213 = .ok (.iconst 0, 1) := by decide +kernel
theorem dX11_init_214 : decode cX11_init 214 = .ok (.istore_n 1, 1) := by decide +kernel
theorem dX11_init_215 : decode cX11_init 215 = .ok (.iload_n 1, 1) := by decide +kernel
theorem dX11_init_216 : decode cX11_init 216 = .ok (.iconst 4, 1) := by decide +kernel
theorem dX11_init_217 : decode cX11_init 217 = .ok (.if_icmp .ge 22, 3) := by decide +kernel
theorem dX11_init_220 : decode cX11_init 220 = .ok (.aload_n 0, 1) := by decide +kernel
theorem dX11_init_221 : decode cX11_init 221 = .ok (.getfield 49, 3) := by decide +kernel
theorem dX11_init_224 : decode cX11_init 224 = .ok (.iload_n 1, 1) := by decide +kernel
theorem dX11_init_225 : decode cX11_init 225 = .ok (.new 42, 3) := by decide +kernel
theorem dX11_init_228 : decode cX11_init 228 = .ok (.dup, 1) := by decide +kernel
theorem dX11_init_229 : decode cX11_init 229 = .ok (.invokespecial 44, 3) := by decide +kernel
theorem dX11_init_232 : decode cX11_init 232 = .ok (.aastore, 1) := by decide +kernel
theorem dX11_init_233 : decode cX11_init 233 = .ok (.iinc 1 1, 3) := by decide +kernel
theorem dX11_init_236 : decode cX11_init 236 = .ok (.goto (-21), 3) := by decide +kernel
theorem dX11_init_239 : decode cX11_init 239 = .ok (.aload_n 0, 1) := by decide +kernel
theorem dX11_init_240 : decode cX11_init 240 = .ok (.getfield 38, 3) := by decide +kernel
theorem dX11_init_243 : decode cX11_init 243 = .ok (.aload_n 0, 1) := by decide +kernel
theorem dX11_init_244 : decode cX11_init 244 = .ok (.getfield 29, 3) := by decide +kernel
theorem dX11_init_247 : decode cX11_init 247 = .ok (.iconst (-1), 1) := by decide +kernel
theorem dX11_init_248 : decode cX11_init 248 = .ok (.invokevirtual 107, 3) := by decide +kernel
theorem dX11_init_251 : decode cX11_init 251 = .ok (.return_, 1) := by decide +kernel
theorem dX11_feed_0 : decode cX11_feed 0 = .ok (.aload_n 0, 1) := by decide +kernel
theorem dX11_feed_1 : decode cX11_feed 1 = .ok (.getfield 10, 3) := by decide +kernel
theorem dX11_feed_4 : decode cX11_feed 4 = .ok (.getfield 111, 3) := by decide +kernel
theorem dX11_feed_7 : decode cX11_feed 7 = .ok (.bipush 20, 2) := by decide +kernel
theorem dX11_feed_9 : decode cX11_feed 9 = .ok (.iadd, 1) := by decide +kernel
theorem dX11_feed_10 : decode cX11_feed 10 = .ok (.sipush 900, 3) := by decide +kernel
theorem dX11_feed_13 : decode cX11_feed 13 = .ok (.if_icmp .le 5, 3) := by decide +kernel
theorem dX11_feed_16 : decode cX11_feed 16 = .ok (.iconst (-1), 1) := by decide +kernel
theorem dX11_feed_17 : decode cX11_feed 17 = .ok (.ireturn, 1) := by decide +kernel
theorem dX11_feed_18 : decode cX11_feed 18 = .ok (.aload_n 0, 1) := by decide +kernel
theorem dX11_feed_19 : decode cX11_feed 19 = .ok (.getfield 10, 3) := by decide +kernel
theorem dX11_feed_22 : decode cX11_feed 22 = .ok (.iload_n 1, 1) := by decide +kernel
theorem dX11_feed_23 : decode cX11_feed 23 = .ok (.invokevirtual 114, 3) := by decide +kernel
theorem dX11_feed_26 : decode cX11_feed 26 = .ok (.aload_n 0, 1) := by decide +kernel
theorem dX11_feed_27 : decode cX11_feed 27 = .ok (.getfield 10, 3) := by decide +kernel
theorem dX11_feed_30 : decode cX11_feed 30 = .ok (.iload_n 2, 1) := by decide +kernel
theorem dX11_feed_31 : decode cX11_feed 31 = .ok (.invokevirtual 114, 3) := by decide +kernel
theorem dX11_feed_34 : decode cX11_feed 34 = .ok (.aload_n 0, 1) := by decide +kernel
theorem dX11_feed_35 : decode cX11_feed 35 = .ok (.getfield 10, 3) := by decide +kernel
theorem dX11_feed_38 : decode cX11_feed 38 = .ok (.iload_n 3, 1) := by decide +kernel
theorem dX11_feed_39 : decode cX11_feed 39 = .ok (.invokevirtual 114, 3) := by decide +kernel
theorem dX11_feed_42 : decode cX11_feed 42 = .ok (.aload_n 0, 1) := by decide +kernel
theorem dX11_feed_43 : decode cX11_feed 43 = .ok (.getfield 10, 3) := by decide +kernel
theorem dX11_feed_46 : decode cX11_feed 46 = .ok (.iload 4, 2) := by decide +kernel
theorem dX11_feed_48 : decode cX11_feed 48 = .ok (.invokevirtual 114, 3) := by decide +kernel
theorem dX11_feed_51 : decode cX11_feed 51 = .ok (.aload_n 0, 1) := by decide +kernel
theorem dX11_feed_52 : decode cX11_feed 52 = .ok (.getfield 10, 3) := by decide +kernel
theorem dX11_feed_55 : decode cX11_feed 55 = .ok (.iload 5, 2) := by decide +kernel
theorem dX11_feed_57 : decode cX11_feed 57 = .ok (.invokevirtual 114, 3) := by decide +kernel
theorem dX11_feed_60 : decode cX11_feed 60 = .ok (.aload_n 0, 1) := by decide +kernel
theorem dX11_feed_61 : decode cX11_feed 61 = .ok (.getfield 10, 3) := by decide +kernel
theorem dX11_feed_64 : decode cX11_feed 64 = .ok (.getfield 111, 3) := by decide +kernel
theorem dX11_feed_67 : decode cX11_feed 67 = .ok (.ireturn, 1) := by decide +kernel
theorem dX11_town_0 : decode cX11_town 0 = .ok (.iload_n 1, 1) := by decide +kernel
theorem dX11_town_1 : decode cX11_town 1 = .ok (.ifCond .lt 14, 3) := by decide +kernel
theorem dX11_town_4 : decode cX11_town 4 = .ok (.iload_n 1, 1) := by decide +kernel
theorem dX11_town_5 : decode cX11_town 5 = .ok (.aload_n 0, 1) := by decide +kernel
theorem dX11_town_6 : decode cX11_town 6 = .ok (.getfield 10, 3) := by decide +kernel
theorem dX11_town_9 : decode cX11_town 9 = .ok (.getfield 111, 3) := by decide +kernel
theorem dX11_town_12 : decode cX11_town 12 = .ok (.if_icmp .le 6, 3) := by decide +kernel
theorem dX11_town_15 : decode cX11_town 15 = .ok (.bipush (-2), 2) := by decide +kernel
theorem dX11_town_17 : decode cX11_town 17 = .ok (.ireturn, 1) := by decide +kernel
theorem dX11_town_18 : decode cX11_town 18 = .ok (.aload_n 0, 1) := by decide +kernel
theorem dX11_town_19 : decode cX11_town 19 = .ok (.getfield 10, 3) := by decide +kernel
theorem dX11_town_22 : decode cX11_town 22 = .ok (.iload_n 1, 1) := by decide +kernel
theorem dX11_town_23 : decode cX11_town 23 = .ok (.aload_n 0, 1) := by decide +kernel
theorem dX11_town_24 : decode cX11_town 24 = .ok (.getfield 23, 3) := by decide +kernel
theorem dX11_town_27 : decode cX11_town 27 = .ok (.invokevirtual 118, 3) := by decide +kernel
theorem dX11_town_30 : decode cX11_town 30 = .ok (.istore_n 2, 1) := by decide +kernel
theorem dX11_town_31 : decode cX11_town 31 = .ok (.aload_n 0, 1) := by decide +kernel
theorem dX11_town_32 : decode cX11_town 32 = .ok (.iload_n 2, 1) := by decide +kernel
theorem dX11_town_33 : decode cX11_town 33 = .ok (.ifCond .eq 7, 3) := by decide +kernel
theorem dX11_town_36 : decode cX11_town 36 = .ok (.iconst (-1), 1) := by decide +kernel
theorem dX11_town_37 : decode cX11_town 37 = .ok (.goto 10, 3) := by decide +kernel
theorem dX11_town_40 : decode cX11_town 40 = .ok (.aload_n 0, 1) := by decide +kernel
theorem dX11_town_41 : decode cX11_town 41 = .ok (.getfield 10, 3) := by decide +kernel
theorem dX11_town_44 : decode cX11_town 44 = .ok (.getfield 122, 3) := by decide +kernel
theorem dX11_town_47 : decode cX11_town 47 = .ok (.putfield 98, 3) := by decide +kernel
theorem dX11_town_50 : decode cX11_town 50 = .ok (.aload_n 0, 1) := by decide +kernel
theorem dX11_town_51 : decode cX11_town 51 = .ok (.getfield 10, 3) := by decide +kernel
theorem dX11_town_54 : decode cX11_town 54 = .ok (.iconst 0, 1) := by decide +kernel
theorem dX11_town_55 : decode cX11_town 55 = .ok (.putfield 111, 3) := by decide +kernel
theorem dX11_town_58 : decode cX11_town 58 = .ok (.iload_n 2, 1) := by decide +kernel
theorem dX11_town_59 : decode cX11_town 59 = .ok (.ifCond .ne 5, 3) := by decide +kernel
theorem dX11_town_62 : decode cX11_town 62 = .ok (.iconst (-1), 1) := by decide +kernel
theorem dX11_town_63 : decode cX11_town 63 = .ok (.ireturn, 1) := by decide +kernel
theorem dX11_town_64 : decode cX11_town 64 = .ok (.aload_n 0, 1) := by decide +kernel
theorem dX11_town_65 : decode cX11_town 65 = .ok (.getfield 19, 3) := by decide +kernel
theorem dX11_town_68 : decode cX11_town 68 = .ok (.aload_n 0, 1) := by decide +kernel
theorem dX11_town_69 : decode cX11_town 69 = .ok (.getfield 23, 3) := by decide +kernel
theorem dX11_town_72 : decode cX11_town 72 = .ok (.invokevirtual 125, 3) := by decide +kernel
theorem dX11_town_75 : decode cX11_town 75 = .ok (.aload_n 0, 1) := by decide +kernel
theorem dX11_town_76 : decode cX11_town 76 = .ok (.getfield 45, 3) := by decide +kernel
theorem dX11_town_79 : decode cX11_town 79 = .ok (.invokevirtual 128, 3) := by decide +kernel
theorem dX11_town_82 : decode cX11_town 82 = .ok (.aload_n 0, 1) := by decide +kernel
theorem dX11_town_83 : decode cX11_town 83 = .ok (.getfield 29, 3) := by decide +kernel
theorem dX11_town_86 : decode cX11_town 86 = .ok (.iconst 0, 1) := by decide +kernel
theorem dX11_town_87 : decode cX11_town 87 = .ok (.putfield 131, 3) := by decide +kernel
theorem dX11_town_90 : decode cX11_town 90 = .ok (.aload_n 0, 1) := by decide +kernel
theorem dX11_town_91 : decode cX11_town 91 = .ok (.iconst 0, 1) := by decide +kernel
theorem dX11_town_92 : decode cX11_town 92 = .ok (.putfield 94, 3) := by decide +kernel
theorem dX11_town_95 : decode cX11_town 95 = .ok (.aload_n 0, 1) := by decide +kernel
theorem dX11_town_96 : decode cX11_town 96 = .ok (.dup, 1) := by decide +kernel
theorem dX11_town_97 : decode cX11_town 97 = .ok (.getfield 101, 3) := by decide +kernel
theorem dX11_town_100 : decode cX11_town 100 = .ok (.iconst 1, 1) := by decide +kernel
theorem dX11_town_101 : decode cX11_town 101 = .ok (.iadd, 1) := by decide +kernel
theorem dX11_town_102 : decode cX11_town 102 = .ok (.putfield 101, 3) := by decide +kernel
theorem dX11_town_105 : decode cX11_town 105 = .ok (.aload_n 0, 1) := by decide +kernel
theorem dX11_town_106 : decode cX11_town 106 = .ok (.invokevirtual 134, 3) := by decide +kernel
theorem dX11_town_109 : decode cX11_town 109 = .ok (.aload_n 0, 1) := by decide +kernel
theorem dX11_town_110 : decode cX11_town 110 = .ok (.getfield 19, 3) := by decide +kernel
theorem dX11_town_113 : decode cX11_town 113 = .ok (.getfield 137, 3) := by decide +kernel
theorem dX11_town_116 : decode cX11_town 116 = .ok (.ireturn, 1) := by decide +kernel
theorem dX11_law_0 : decode cX11_law 0 = .ok (.iload_n 1, 1) := by decide +kernel
theorem dX11_law_1 : decode cX11_law 1 = .ok (.ifCond .lt 14, 3) := by decide +kernel
theorem dX11_law_4 : decode cX11_law 4 = .ok (.iload_n 1, 1) := by decide +kernel
theorem dX11_law_5 : decode cX11_law 5 = .ok (.aload_n 0, 1) := by decide +kernel
theorem dX11_law_6 : decode cX11_law 6 = .ok (.getfield 10, 3) := by decide +kernel
theorem dX11_law_9 : decode cX11_law 9 = .ok (.getfield 111, 3) := by decide +kernel
theorem dX11_law_12 : decode cX11_law 12 = .ok (.if_icmp .le 6, 3) := by decide +kernel
theorem dX11_law_15 : decode cX11_law 15 = .ok (.bipush (-2), 2) := by decide +kernel
theorem dX11_law_17 : decode cX11_law 17 = .ok (.ireturn, 1) := by decide +kernel
theorem dX11_law_18 : decode cX11_law 18 = .ok (.aload_n 0, 1) := by decide +kernel
theorem dX11_law_19 : decode cX11_law 19 = .ok (.getfield 29, 3) := by decide +kernel
theorem dX11_law_22 : decode cX11_law 22 = .ok (.getfield 131, 3) := by decide +kernel
theorem dX11_law_25 : decode cX11_law 25 = .ok (.bipush 9, 2) := by decide +kernel
theorem dX11_law_27 : decode cX11_law 27 = .ok (.if_icmp .lt 6, 3) := by decide +kernel
theorem dX11_law_30 : decode cX11_law 30 = .ok (.bipush (-3), 2) := by decide +kernel
theorem dX11_law_32 : decode cX11_law 32 = .ok (.ireturn, 1) := by decide +kernel
theorem dX11_law_33 : decode cX11_law 33 = .ok (.aload_n 0, 1) := by decide +kernel
theorem dX11_law_34 : decode cX11_law 34 = .ok (.getfield 10, 3) := by decide +kernel
theorem dX11_law_37 : decode cX11_law 37 = .ok (.iload_n 1, 1) := by decide +kernel
theorem dX11_law_38 : decode cX11_law 38 = .ok (.aload_n 0, 1) := by decide +kernel
theorem dX11_law_39 : decode cX11_law 39 = .ok (.getfield 19, 3) := by decide +kernel
theorem dX11_law_42 : decode cX11_law 42 = .ok (.aload_n 0, 1) := by decide +kernel
theorem dX11_law_43 : decode cX11_law 43 = .ok (.getfield 29, 3) := by decide +kernel
theorem dX11_law_46 : decode cX11_law 46 = .ok (.invokevirtual 140, 3) := by decide +kernel
theorem dX11_law_49 : decode cX11_law 49 = .ok (.istore_n 2, 1) := by decide +kernel
theorem dX11_law_50 : decode cX11_law 50 = .ok (.aload_n 0, 1) := by decide +kernel
theorem dX11_law_51 : decode cX11_law 51 = .ok (.iload_n 2, 1) := by decide +kernel
theorem dX11_law_52 : decode cX11_law 52 = .ok (.ifCond .eq 7, 3) := by decide +kernel
theorem dX11_law_55 : decode cX11_law 55 = .ok (.iconst (-1), 1) := by decide +kernel
theorem dX11_law_56 : decode cX11_law 56 = .ok (.goto 10, 3) := by decide +kernel
theorem dX11_law_59 : decode cX11_law 59 = .ok (.aload_n 0, 1) := by decide +kernel
theorem dX11_law_60 : decode cX11_law 60 = .ok (.getfield 10, 3) := by decide +kernel
theorem dX11_law_63 : decode cX11_law 63 = .ok (.getfield 122, 3) := by decide +kernel
theorem dX11_law_66 : decode cX11_law 66 = .ok (.putfield 98, 3) := by decide +kernel
theorem dX11_law_69 : decode cX11_law 69 = .ok (.aload_n 0, 1) := by decide +kernel
theorem dX11_law_70 : decode cX11_law 70 = .ok (.getfield 10, 3) := by decide +kernel
theorem dX11_law_73 : decode cX11_law 73 = .ok (.iconst 0, 1) := by decide +kernel
theorem dX11_law_74 : decode cX11_law 74 = .ok (.putfield 111, 3) := by decide +kernel
theorem dX11_law_77 : decode cX11_law 77 = .ok (.iload_n 2, 1) := by decide +kernel
theorem dX11_law_78 : decode cX11_law 78 = .ok (.ifCond .ne 5, 3) := by decide +kernel
theorem dX11_law_81 : decode cX11_law 81 = .ok (.iconst (-1), 1) := by decide +kernel
theorem dX11_law_82 : decode cX11_law 82 = .ok (.ireturn, 1) := by decide +kernel
theorem dX11_law_83 : decode cX11_law 83 = .ok (.aload_n 0, 1) := by decide +kernel
theorem dX11_law_84 : decode cX11_law 84 = .ok (.dup, 1) := by decide +kernel
theorem dX11_law_85 : decode cX11_law 85 = .ok (.getfield 104, 3) := by decide +kernel
theorem dX11_law_88 : decode cX11_law 88 = .ok (.iconst 1, 1) := by decide +kernel
theorem dX11_law_89 : decode cX11_law 89 = .ok (.iadd, 1) := by decide +kernel
theorem dX11_law_90 : decode cX11_law 90 = .ok (.putfield 104, 3) := by decide +kernel
theorem dX11_law_93 : decode cX11_law 93 = .ok (.aload_n 0, 1) := by decide +kernel
theorem dX11_law_94 : decode cX11_law 94 = .ok (.getfield 29, 3) := by decide +kernel
theorem dX11_law_97 : decode cX11_law 97 = .ok (.dup, 1) := by decide +kernel
theorem dX11_law_98 : decode cX11_law 98 = .ok (.getfield 131, 3) := by decide +kernel
theorem dX11_law_101 : decode cX11_law 101 = .ok (.iconst 1, 1) := by decide +kernel
theorem dX11_law_102 : decode cX11_law 102 = .ok (.iadd, 1) := by decide +kernel
theorem dX11_law_103 : decode cX11_law 103 = .ok (.putfield 131, 3) := by decide +kernel
theorem dX11_law_106 : decode cX11_law 106 = .ok (.aload_n 0, 1) := by decide +kernel
theorem dX11_law_107 : decode cX11_law 107 = .ok (.getfield 29, 3) := by decide +kernel
theorem dX11_law_110 : decode cX11_law 110 = .ok (.getfield 131, 3) := by decide +kernel
theorem dX11_law_113 : decode cX11_law 113 = .ok (.iconst 1, 1) := by decide +kernel
theorem dX11_law_114 : decode cX11_law 114 = .ok (.isub, 1) := by decide +kernel
theorem dX11_law_115 : decode cX11_law 115 = .ok (.ireturn, 1) := by decide +kernel
theorem dX11_fault_0 : decode cX11_fault 0 = .ok (.aload_n 0, 1) := by decide +kernel
theorem dX11_fault_1 : decode cX11_fault 1 = .ok (.getfield 98, 3) := by decide +kernel
theorem dX11_fault_4 : decode cX11_fault 4 = .ok (.ireturn, 1) := by decide +kernel
theorem dX11_told_0 : decode cX11_told 0 = .ok (.iload_n 1, 1) := by decide +kernel
theorem dX11_told_1 : decode cX11_told 1 = .ok (.bipush 100, 2) := by decide +kernel
theorem dX11_told_3 : decode cX11_told 3 = .ok (.if_icmp .lt 30, 3) := by decide +kernel
theorem dX11_told_6 : decode cX11_told 6 = .ok (.iload_n 1, 1) := by decide +kernel
theorem dX11_told_7 : decode cX11_told 7 = .ok (.bipush 100, 2) := by decide +kernel
theorem dX11_told_9 : decode cX11_told 9 = .ok (.aload_n 0, 1) := by decide +kernel
theorem dX11_told_10 : decode cX11_told 10 = .ok (.getfield 19, 3) := by decide +kernel
theorem dX11_told_13 : decode cX11_told 13 = .ok (.getfield 137, 3) := by decide +kernel
theorem dX11_told_16 : decode cX11_told 16 = .ok (.iadd, 1) := by decide +kernel
theorem dX11_told_17 : decode cX11_told 17 = .ok (.if_icmp .ge 16, 3) := by decide +kernel
theorem dX11_told_20 : decode cX11_told 20 = .ok (.aload_n 0, 1) := by decide +kernel
theorem dX11_told_21 : decode cX11_told 21 = .ok (.getfield 19, 3) := by decide +kernel
theorem dX11_told_24 : decode cX11_told 24 = .ok (.getfield 144, 3) := by decide +kernel
theorem dX11_told_27 : decode cX11_told 27 = .ok (.iload_n 1, 1) := by decide +kernel
theorem dX11_told_28 : decode cX11_told 28 = .ok (.bipush 100, 2) := by decide +kernel
theorem dX11_told_30 : decode cX11_told 30 = .ok (.isub, 1) := by decide +kernel
theorem dX11_told_31 : decode cX11_told 31 = .ok (.iaload, 1) := by decide +kernel
theorem dX11_told_32 : decode cX11_told 32 = .ok (.ireturn, 1) := by decide +kernel
theorem dX11_told_33 : decode cX11_told 33 = .ok (.iload_n 1, 1) := by decide +kernel
theorem dX11_told_34 : decode cX11_told 34 = .ok (.sipush 200, 3) := by decide +kernel
theorem dX11_told_37 : decode cX11_told 37 = .ok (.if_icmp .lt 34, 3) := by decide +kernel
theorem dX11_told_40 : decode cX11_told 40 = .ok (.iload_n 1, 1) := by decide +kernel
theorem dX11_told_41 : decode cX11_told 41 = .ok (.sipush 200, 3) := by decide +kernel
theorem dX11_told_44 : decode cX11_told 44 = .ok (.iconst 3, 1) := by decide +kernel
theorem dX11_told_45 : decode cX11_told 45 = .ok (.aload_n 0, 1) := by decide +kernel
theorem dX11_told_46 : decode cX11_told 46 = .ok (.getfield 19, 3) := by decide +kernel
theorem dX11_told_49 : decode cX11_told 49 = .ok (.getfield 137, 3) := by decide +kernel
theorem dX11_told_52 : decode cX11_told 52 = .ok (.imul, 1) := by decide +kernel
theorem dX11_told_53 : decode cX11_told 53 = .ok (.iadd, 1) := by decide +kernel
theorem dX11_told_54 : decode cX11_told 54 = .ok (.if_icmp .ge 17, 3) := by decide +kernel
theorem dX11_told_57 : decode cX11_told 57 = .ok (.aload_n 0, 1) := by decide +kernel
theorem dX11_told_58 : decode cX11_told 58 = .ok (.getfield 19, 3) := by decide +kernel
theorem dX11_told_61 : decode cX11_told 61 = .ok (.getfield 148, 3) := by decide +kernel
theorem dX11_told_64 : decode cX11_told 64 = .ok (.iload_n 1, 1) := by decide +kernel
theorem dX11_told_65 : decode cX11_told 65 = .ok (.sipush 200, 3) := by decide +kernel
theorem dX11_told_68 : decode cX11_told 68 = .ok (.isub, 1) := by decide +kernel
theorem dX11_told_69 : decode cX11_told 69 = .ok (.iaload, 1) := by decide +kernel
theorem dX11_told_70 : decode cX11_told 70 = .ok (.ireturn, 1) := by decide +kernel
theorem dX11_told_71 : decode cX11_told 71 = .ok (.iload_n 1, 1) := by decide +kernel
theorem dX11_told_72 : decode cX11_told 72 = .ok (.sipush 300, 3) := by decide +kernel
theorem dX11_told_75 : decode cX11_told 75 = .ok (.if_icmp .lt 42, 3) := by decide +kernel
theorem dX11_told_78 : decode cX11_told 78 = .ok (.iload_n 1, 1) := by decide +kernel
theorem dX11_told_79 : decode cX11_told 79 = .ok (.sipush 300, 3) := by decide +kernel
theorem dX11_told_82 : decode cX11_told 82 = .ok (.iconst 4, 1) := by decide +kernel
theorem dX11_told_83 : decode cX11_told 83 = .ok (.aload_n 0, 1) := by decide +kernel
theorem dX11_told_84 : decode cX11_told 84 = .ok (.getfield 19, 3) := by decide +kernel
theorem dX11_told_87 : decode cX11_told 87 = .ok (.getfield 151, 3) := by decide +kernel
theorem dX11_told_90 : decode cX11_told 90 = .ok (.imul, 1) := by decide +kernel
theorem dX11_told_91 : decode cX11_told 91 = .ok (.iadd, 1) := by decide +kernel
theorem dX11_told_92 : decode cX11_told 92 = .ok (.if_icmp .ge 25, 3) := by decide +kernel
theorem dX11_told_95 : decode cX11_told 95 = .ok (.aload_n 0, 1) := by decide +kernel
theorem dX11_told_96 : decode cX11_told 96 = .ok (.getfield 19, 3) := by decide +kernel
theorem dX11_told_99 : decode cX11_told 99 = .ok (.iload_n 1, 1) := by decide +kernel
theorem dX11_told_100 : decode cX11_told 100 = .ok (.sipush 300, 3) := by decide +kernel
theorem dX11_told_103 : decode cX11_told 103 = .ok (.isub, 1) := by decide +kernel
theorem dX11_told_104 : decode cX11_told 104 = .ok (.iconst 4, 1) := by decide +kernel
theorem dX11_told_105 : decode cX11_told 105 = .ok (.idiv, 1) := by decide +kernel
theorem dX11_told_106 : decode cX11_told 106 = .ok (.iload_n 1, 1) := by decide +kernel
theorem dX11_told_107 : decode cX11_told 107 = .ok (.sipush 300, 3) := by decide +kernel
theorem dX11_told_110 : decode cX11_told 110 = .ok (.isub, 1) := by decide +kernel
theorem dX11_told_111 : decode cX11_told 111 = .ok (.iconst 4, 1) := by decide +kernel
theorem dX11_told_112 : decode cX11_told 112 = .ok (.irem, 1) := by decide +kernel
theorem dX11_told_113 : decode cX11_told 113 = .ok (.invokevirtual 154, 3) := by decide +kernel
theorem dX11_told_116 : decode cX11_told 116 = .ok (.ireturn, 1) := by decide +kernel
theorem dX11_told_117 : decode cX11_told 117 = .ok (.aload_n 0, 1) := by decide +kernel
theorem dX11_told_118 : decode cX11_told 118 = .ok (.getfield 19, 3) := by decide +kernel
theorem dX11_told_121 : decode cX11_told 121 = .ok (.iload_n 1, 1) := by decide +kernel
theorem dX11_told_122 : decode cX11_told 122 = .ok (.invokevirtual 158, 3) := by decide +kernel
theorem dX11_told_125 : decode cX11_told 125 = .ok (.ireturn, 1) := by decide +kernel
theorem dX11_name_0 : decode cX11_name 0 = .ok (.aload_n 0, 1) := by decide +kernel
theorem dX11_name_1 : decode cX11_name 1 = .ok (.getfield 19, 3) := by decide +kernel
theorem dX11_name_4 : decode cX11_name 4 = .ok (.iload_n 1, 1) := by decide +kernel
theorem dX11_name_5 : decode cX11_name 5 = .ok (.invokevirtual 162, 3) := by decide +kernel
theorem dX11_name_8 : decode cX11_name 8 = .ok (.ifCond .ne 5, 3) := by decide +kernel
theorem dX11_name_11 : decode cX11_name 11 = .ok (.iconst (-1), 1) := by decide +kernel
theorem dX11_name_12 : decode cX11_name 12 = .ok (.ireturn, 1) := by decide +kernel
theorem dX11_name_13 : decode cX11_name 13 = .ok (.iload_n 2, 1) := by decide +kernel
theorem dX11_name_14 : decode cX11_name 14 = .ok (.iconst (-1), 1) := by decide +kernel
theorem dX11_name_15 : decode cX11_name 15 = .ok (.if_icmp .ne 13, 3) := by decide +kernel
theorem dX11_name_18 : decode cX11_name 18 = .ok (.aload_n 0, 1) := by decide +kernel
theorem dX11_name_19 : decode cX11_name 19 = .ok (.getfield 19, 3) := by decide +kernel
theorem dX11_name_22 : decode cX11_name 22 = .ok (.getfield 166, 3) := by decide +kernel
theorem dX11_name_25 : decode cX11_name 25 = .ok (.iload_n 1, 1) := by decide +kernel
theorem dX11_name_26 : decode cX11_name 26 = .ok (.iaload, 1) := by decide +kernel
theorem dX11_name_27 : decode cX11_name 27 = .ok (.ireturn, 1) := by decide +kernel
theorem dX11_name_28 : decode cX11_name 28 = .ok (.iload_n 2, 1) := by decide +kernel
theorem dX11_name_29 : decode cX11_name 29 = .ok (.ifCond .lt 33, 3) := by decide +kernel
theorem dX11_name_32 : decode cX11_name 32 = .ok (.iload_n 2, 1) := by decide +kernel
theorem dX11_name_33 : decode cX11_name 33 = .ok (.aload_n 0, 1) := by decide +kernel
theorem dX11_name_34 : decode cX11_name 34 = .ok (.getfield 19, 3) := by decide +kernel
theorem dX11_name_37 : decode cX11_name 37 = .ok (.getfield 166, 3) := by decide +kernel
theorem dX11_name_40 : decode cX11_name 40 = .ok (.iload_n 1, 1) := by decide +kernel
theorem dX11_name_41 : decode cX11_name 41 = .ok (.iaload, 1) := by decide +kernel
theorem dX11_name_42 : decode cX11_name 42 = .ok (.if_icmp .ge 20, 3) := by decide +kernel
theorem dX11_name_45 : decode cX11_name 45 = .ok (.aload_n 0, 1) := by decide +kernel
theorem dX11_name_46 : decode cX11_name 46 = .ok (.getfield 19, 3) := by decide +kernel
theorem dX11_name_49 : decode cX11_name 49 = .ok (.getfield 169, 3) := by decide +kernel
theorem dX11_name_52 : decode cX11_name 52 = .ok (.bipush 6, 2) := by decide +kernel
theorem dX11_name_54 : decode cX11_name 54 = .ok (.iload_n 1, 1) := by decide +kernel
theorem dX11_name_55 : decode cX11_name 55 = .ok (.imul, 1) := by decide +kernel
theorem dX11_name_56 : decode cX11_name 56 = .ok (.iload_n 2, 1) := by decide +kernel
theorem dX11_name_57 : decode cX11_name 57 = .ok (.iadd, 1) := by decide +kernel
theorem dX11_name_58 : decode cX11_name 58 = .ok (.iaload, 1) := by decide +kernel
theorem dX11_name_59 : decode cX11_name 59 = .ok (.goto 4, 3) := by decide +kernel
theorem dX11_name_62 : decode cX11_name 62 = .ok (.iconst (-1), 1) := by decide +kernel
theorem dX11_name_63 : decode cX11_name 63 = .ok (.ireturn, 1) := by decide +kernel
theorem dX11_far_0 : decode cX11_far 0 = .ok (.aload_n 0, 1) := by decide +kernel
theorem dX11_far_1 : decode cX11_far 1 = .ok (.getfield 19, 3) := by decide +kernel
theorem dX11_far_4 : decode cX11_far 4 = .ok (.iload_n 1, 1) := by decide +kernel
theorem dX11_far_5 : decode cX11_far 5 = .ok (.invokevirtual 172, 3) := by decide +kernel
theorem dX11_far_8 : decode cX11_far 8 = .ok (.ifCond .eq 14, 3) := by decide +kernel
theorem dX11_far_11 : decode cX11_far 11 = .ok (.aload_n 0, 1) := by decide +kernel
theorem dX11_far_12 : decode cX11_far 12 = .ok (.getfield 19, 3) := by decide +kernel
theorem dX11_far_15 : decode cX11_far 15 = .ok (.iload_n 2, 1) := by decide +kernel
theorem dX11_far_16 : decode cX11_far 16 = .ok (.invokevirtual 172, 3) := by decide +kernel
theorem dX11_far_19 : decode cX11_far 19 = .ok (.ifCond .ne 5, 3) := by decide +kernel
theorem dX11_far_22 : decode cX11_far 22 = .ok (.iconst (-1), 1) := by decide +kernel
theorem dX11_far_23 : decode cX11_far 23 = .ok (.ireturn, 1) := by decide +kernel
theorem dX11_far_24 : decode cX11_far 24 = .ok (.aload_n 0, 1) := by decide +kernel
theorem dX11_far_25 : decode cX11_far 25 = .ok (.getfield 38, 3) := by decide +kernel
theorem dX11_far_28 : decode cX11_far 28 = .ok (.iload_n 1, 1) := by decide +kernel
theorem dX11_far_29 : decode cX11_far 29 = .ok (.iload_n 2, 1) := by decide +kernel
theorem dX11_far_30 : decode cX11_far 30 = .ok (.invokevirtual 175, 3) := by decide +kernel
theorem dX11_far_33 : decode cX11_far 33 = .ok (.istore_n 3, 1) := by decide +kernel
theorem dX11_far_34 : decode cX11_far 34 = .ok (.iload_n 3, 1) := by decide +kernel
theorem dX11_far_35 : decode cX11_far 35 = .ok (.ldc 178, 2) := by decide +kernel
theorem dX11_far_37 : decode cX11_far 37 = .ok (.if_icmp .ge 7, 3) := by decide +kernel
theorem dX11_far_40 : decode cX11_far 40 = .ok (.iload_n 3, 1) := by decide +kernel
theorem dX11_far_41 : decode cX11_far 41 = .ok (.goto 4, 3) := by decide +kernel
theorem dX11_far_44 : decode cX11_far 44 = .ok (.iconst (-1), 1) := by decide +kernel
theorem dX11_far_45 : decode cX11_far 45 = .ok (.ireturn, 1) := by decide +kernel
theorem dX11_force_0 : decode cX11_force 0 = .ok (.iload_n 1, 1) := by decide +kernel
theorem dX11_force_1 : decode cX11_force 1 = .ok (.iconst (-1), 1) := by decide +kernel
theorem dX11_force_2 : decode cX11_force 2 = .ok (.if_icmp .lt 14, 3) := by decide +kernel
theorem dX11_force_5 : decode cX11_force 5 = .ok (.iload_n 1, 1) := by decide +kernel
theorem dX11_force_6 : decode cX11_force 6 = .ok (.aload_n 0, 1) := by decide +kernel
theorem dX11_force_7 : decode cX11_force 7 = .ok (.getfield 29, 3) := by decide +kernel
theorem dX11_force_10 : decode cX11_force 10 = .ok (.getfield 131, 3) := by decide +kernel
theorem dX11_force_13 : decode cX11_force 13 = .ok (.if_icmp .lt 5, 3) := by decide +kernel
theorem dX11_force_16 : decode cX11_force 16 = .ok (.iconst 0, 1) := by decide +kernel
theorem dX11_force_17 : decode cX11_force 17 = .ok (.ireturn, 1) := by decide +kernel
theorem dX11_force_18 : decode cX11_force 18 = .ok (.aload_n 0, 1) := by decide +kernel
theorem dX11_force_19 : decode cX11_force 19 = .ok (.getfield 45, 3) := by decide +kernel
theorem dX11_force_22 : decode cX11_force 22 = .ok (.iload_n 1, 1) := by decide +kernel
theorem dX11_force_23 : decode cX11_force 23 = .ok (.putfield 179, 3) := by decide +kernel
theorem dX11_force_26 : decode cX11_force 26 = .ok (.aload_n 0, 1) := by decide +kernel
theorem dX11_force_27 : decode cX11_force 27 = .ok (.invokevirtual 134, 3) := by decide +kernel
theorem dX11_force_30 : decode cX11_force 30 = .ok (.iconst 1, 1) := by decide +kernel
theorem dX11_force_31 : decode cX11_force 31 = .ok (.ireturn, 1) := by decide +kernel
theorem dX11_seller_0 : decode cX11_seller 0 = .ok (.aload_n 0, 1) := by decide +kernel
theorem dX11_seller_1 : decode cX11_seller 1 = .ok (.iload_n 1, 1) := by decide +kernel
theorem dX11_seller_2 : decode cX11_seller 2 = .ok (.iload_n 2, 1) := by decide +kernel
theorem dX11_seller_3 : decode cX11_seller 3 = .ok (.invokevirtual 182, 3) := by decide +kernel
theorem dX11_seller_6 : decode cX11_seller 6 = .ok (.ifCond .eq 38, 3) := by decide +kernel
theorem dX11_seller_9 : decode cX11_seller 9 = .ok (.iload_n 3, 1) := by decide +kernel
theorem dX11_seller_10 : decode cX11_seller 10 = .ok (.ifCond .lt 34, 3) := by decide +kernel
theorem dX11_seller_13 : decode cX11_seller 13 = .ok (.iload_n 3, 1) := by decide +kernel
theorem dX11_seller_14 : decode cX11_seller 14 = .ok (.iconst 3, 1) := by decide +kernel
theorem dX11_seller_15 : decode cX11_seller 15 = .ok (.if_icmp .ge 29, 3) := by decide +kernel
theorem dX11_seller_18 : decode cX11_seller 18 = .ok (.iload 4, 2) := by decide +kernel
theorem dX11_seller_20 : decode cX11_seller 20 = .ok (.ifCond .lt 24, 3) := by decide +kernel
theorem dX11_seller_23 : decode cX11_seller 23 = .ok (.iload 4, 2) := by decide +kernel
theorem dX11_seller_25 : decode cX11_seller 25 = .ok (.iconst 4, 1) := by decide +kernel
theorem dX11_seller_26 : decode cX11_seller 26 = .ok (.if_icmp .ge 18, 3) := by decide +kernel
theorem dX11_seller_29 : decode cX11_seller 29 = .ok (.iload 5, 2) := by decide +kernel
theorem dX11_seller_31 : decode cX11_seller 31 = .ok (.ifCond .lt 13, 3) := by decide +kernel
theorem dX11_seller_34 : decode cX11_seller 34 = .ok (.iload 5, 2) := by decide +kernel
theorem dX11_seller_36 : decode cX11_seller 36 = .ok (.iconst 3, 1) := by decide +kernel
theorem dX11_seller_37 : decode cX11_seller 37 = .ok (.if_icmp .ge 7, 3) := by decide +kernel
theorem dX11_seller_40 : decode cX11_seller 40 = .ok (.iconst 1, 1) := by decide +kernel
theorem dX11_seller_41 : decode cX11_seller 41 = .ok (.goto 4, 3) := by decide +kernel
theorem dX11_seller_44 : decode cX11_seller 44 = .ok (.iconst 0, 1) := by decide +kernel
theorem dX11_seller_45 : decode cX11_seller 45 = .ok (.istore 6, 2) := by decide +kernel
theorem dX11_seller_47 : decode cX11_seller 47 = .ok (.iload 6, 2) := by decide +kernel
theorem dX11_seller_49 : decode cX11_seller 49 = .ok (.ifCond .eq 14, 3) := by decide +kernel
theorem dX11_seller_52 : decode cX11_seller 52 = .ok (.aload_n 0, 1) := by decide +kernel
theorem dX11_seller_53 : decode cX11_seller 53 = .ok (.getfield 45, 3) := by decide +kernel
theorem dX11_seller_56 : decode cX11_seller 56 = .ok (.getfield 186, 3) := by decide +kernel
theorem dX11_seller_59 : decode cX11_seller 59 = .ok (.iconst 4, 1) := by decide +kernel
theorem dX11_seller_60 : decode cX11_seller 60 = .ok (.if_icmp .lt 5, 3) := by decide +kernel
theorem dX11_seller_63 : decode cX11_seller 63 = .ok (.iconst (-1), 1) := by decide +kernel
theorem dX11_seller_64 : decode cX11_seller 64 = .ok (.ireturn, 1) := by decide +kernel
theorem dX11_seller_65 : decode cX11_seller 65 = .ok (.aload_n 0, 1) := by decide +kernel
theorem dX11_seller_66 : decode cX11_seller 66 = .ok (.getfield 45, 3) := by decide +kernel
theorem dX11_seller_69 : decode cX11_seller 69 = .ok (.getfield 186, 3) := by decide +kernel
theorem dX11_seller_72 : decode cX11_seller 72 = .ok (.istore 7, 2) := by decide +kernel
theorem dX11_seller_74 : decode cX11_seller 74 = .ok (.aload_n 0, 1) := by decide +kernel
theorem dX11_seller_75 : decode cX11_seller 75 = .ok (.getfield 45, 3) := by decide +kernel
theorem dX11_seller_78 : decode cX11_seller 78 = .ok (.getfield 187, 3) := by decide +kernel
theorem dX11_seller_81 : decode cX11_seller 81 = .ok (.iload 7, 2) := by decide +kernel
theorem dX11_seller_83 : decode cX11_seller 83 = .ok (.iload_n 1, 1) := by decide +kernel
theorem dX11_seller_84 : decode cX11_seller 84 = .ok (.iastore, 1) := by decide +kernel
theorem dX11_seller_85 : decode cX11_seller 85 = .ok (.aload_n 0, 1) := by decide +kernel
theorem dX11_seller_86 : decode cX11_seller 86 = .ok (.getfield 45, 3) := by decide +kernel
theorem dX11_seller_89 : decode cX11_seller 89 = .ok (.getfield 190, 3) := by decide +kernel
theorem dX11_seller_92 : decode cX11_seller 92 = .ok (.iload 7, 2) := by decide +kernel
theorem dX11_seller_94 : decode cX11_seller 94 = .ok (.iload_n 2, 1) := by decide +kernel
theorem dX11_seller_95 : decode cX11_seller 95 = .ok (.iastore, 1) := by decide +kernel
theorem dX11_seller_96 : decode cX11_seller 96 = .ok (.aload_n 0, 1) := by decide +kernel
theorem dX11_seller_97 : decode cX11_seller 97 = .ok (.getfield 45, 3) := by decide +kernel
theorem dX11_seller_100 : decode cX11_seller 100 = .ok (.getfield 193, 3) := by decide +kernel
theorem dX11_seller_103 : decode cX11_seller 103 = .ok (.iload 7, 2) := by decide +kernel
theorem dX11_seller_105 : decode cX11_seller 105 = .ok (.iload_n 3, 1) := by decide +kernel
theorem dX11_seller_106 : decode cX11_seller 106 = .ok (.iastore, 1) := by decide +kernel
theorem dX11_seller_107 : decode cX11_seller 107 = .ok (.aload_n 0, 1) := by decide +kernel
theorem dX11_seller_108 : decode cX11_seller 108 = .ok (.getfield 45, 3) := by decide +kernel
theorem dX11_seller_111 : decode cX11_seller 111 = .ok (.getfield 196, 3) := by decide +kernel
theorem dX11_seller_114 : decode cX11_seller 114 = .ok (.iload 7, 2) := by decide +kernel
theorem dX11_seller_116 : decode cX11_seller 116 = .ok (.iload 4, 2) := by decide +kernel
theorem dX11_seller_118 : decode cX11_seller 118 = .ok (.iastore, 1) := by decide +kernel
theorem dX11_seller_119 : decode cX11_seller 119 = .ok (.aload_n 0, 1) := by decide +kernel
theorem dX11_seller_120 : decode cX11_seller 120 = .ok (.getfield 45, 3) := by decide +kernel
theorem dX11_seller_123 : decode cX11_seller 123 = .ok (.getfield 199, 3) := by decide +kernel
theorem dX11_seller_126 : decode cX11_seller 126 = .ok (.iload 7, 2) := by decide +kernel
theorem dX11_seller_128 : decode cX11_seller 128 = .ok (.iload 5, 2) := by decide +kernel
theorem dX11_seller_130 : decode cX11_seller 130 = .ok (.iastore, 1) := by decide +kernel
theorem dX11_seller_131 : decode cX11_seller 131 = .ok (.aload_n 0, 1) := by decide +kernel
theorem dX11_seller_132 : decode cX11_seller 132 = .ok (.getfield 45, 3) := by decide +kernel
theorem dX11_seller_135 : decode cX11_seller 135 = .ok (.dup, 1) := by decide +kernel
theorem dX11_seller_136 : decode cX11_seller 136 = .ok (.getfield 186, 3) := by decide +kernel
theorem dX11_seller_139 : decode cX11_seller 139 = .ok (.iconst 1, 1) := by decide +kernel
theorem dX11_seller_140 : decode cX11_seller 140 = .ok (.iadd, 1) := by decide +kernel
theorem dX11_seller_141 : decode cX11_seller 141 = .ok (.putfield 186, 3) := by decide +kernel
theorem dX11_seller_144 : decode cX11_seller 144 = .ok (.aload_n 0, 1) := by decide +kernel
theorem dX11_seller_145 : decode cX11_seller 145 = .ok (.dup, 1) := by decide +kernel
theorem dX11_seller_146 : decode cX11_seller 146 = .ok (.getfield 104, 3) := by decide +kernel
theorem dX11_seller_149 : decode cX11_seller 149 = .ok (.iconst 1, 1) := by decide +kernel
theorem dX11_seller_150 : decode cX11_seller 150 = .ok (.iadd, 1) := by decide +kernel
theorem dX11_seller_151 : decode cX11_seller 151 = .ok (.putfield 104, 3) := by decide +kernel
theorem dX11_seller_154 : decode cX11_seller 154 = .ok (.iload 7, 2) := by decide +kernel
theorem dX11_seller_156 : decode cX11_seller 156 = .ok (.ireturn, 1) := by decide +kernel
theorem dX11_put_0 : decode cX11_put 0 = .ok (.aload_n 0, 1) := by decide +kernel
theorem dX11_put_1 : decode cX11_put 1 = .ok (.getfield 45, 3) := by decide +kernel
theorem dX11_put_4 : decode cX11_put 4 = .ok (.iload_n 1, 1) := by decide +kernel
theorem dX11_put_5 : decode cX11_put 5 = .ok (.invokevirtual 202, 3) := by decide +kernel
theorem dX11_put_8 : decode cX11_put 8 = .ok (.ifCond .eq 12, 3) := by decide +kernel
theorem dX11_put_11 : decode cX11_put 11 = .ok (.aload_n 0, 1) := by decide +kernel
theorem dX11_put_12 : decode cX11_put 12 = .ok (.iload_n 2, 1) := by decide +kernel
theorem dX11_put_13 : decode cX11_put 13 = .ok (.iload_n 3, 1) := by decide +kernel
theorem dX11_put_14 : decode cX11_put 14 = .ok (.invokevirtual 182, 3) := by decide +kernel
theorem dX11_put_17 : decode cX11_put 17 = .ok (.ifCond .ne 5, 3) := by decide +kernel
theorem dX11_put_20 : decode cX11_put 20 = .ok (.iconst 0, 1) := by decide +kernel
theorem dX11_put_21 : decode cX11_put 21 = .ok (.ireturn, 1) := by decide +kernel
theorem dX11_put_22 : decode cX11_put 22 = .ok (.aload_n 0, 1) := by decide +kernel
theorem dX11_put_23 : decode cX11_put 23 = .ok (.getfield 45, 3) := by decide +kernel
theorem dX11_put_26 : decode cX11_put 26 = .ok (.getfield 187, 3) := by decide +kernel
theorem dX11_put_29 : decode cX11_put 29 = .ok (.iload_n 1, 1) := by decide +kernel
theorem dX11_put_30 : decode cX11_put 30 = .ok (.iload_n 2, 1) := by decide +kernel
theorem dX11_put_31 : decode cX11_put 31 = .ok (.iastore, 1) := by decide +kernel
theorem dX11_put_32 : decode cX11_put 32 = .ok (.aload_n 0, 1) := by decide +kernel
theorem dX11_put_33 : decode cX11_put 33 = .ok (.getfield 45, 3) := by decide +kernel
theorem dX11_put_36 : decode cX11_put 36 = .ok (.getfield 190, 3) := by decide +kernel
theorem dX11_put_39 : decode cX11_put 39 = .ok (.iload_n 1, 1) := by decide +kernel
theorem dX11_put_40 : decode cX11_put 40 = .ok (.iload_n 3, 1) := by decide +kernel
theorem dX11_put_41 : decode cX11_put 41 = .ok (.iastore, 1) := by decide +kernel
theorem dX11_put_42 : decode cX11_put 42 = .ok (.aload_n 0, 1) := by decide +kernel
theorem dX11_put_43 : decode cX11_put 43 = .ok (.dup, 1) := by decide +kernel
theorem dX11_put_44 : decode cX11_put 44 = .ok (.getfield 104, 3) := by decide +kernel
theorem dX11_put_47 : decode cX11_put 47 = .ok (.iconst 1, 1) := by decide +kernel
theorem dX11_put_48 : decode cX11_put 48 = .ok (.iadd, 1) := by decide +kernel
theorem dX11_put_49 : decode cX11_put 49 = .ok (.putfield 104, 3) := by decide +kernel
theorem dX11_put_52 : decode cX11_put 52 = .ok (.iconst 1, 1) := by decide +kernel
theorem dX11_put_53 : decode cX11_put 53 = .ok (.ireturn, 1) := by decide +kernel
theorem dX11_of_0 : decode cX11_of 0 = .ok (.aload_n 0, 1) := by decide +kernel
theorem dX11_of_1 : decode cX11_of 1 = .ok (.getfield 45, 3) := by decide +kernel
theorem dX11_of_4 : decode cX11_of 4 = .ok (.iload_n 1, 1) := by decide +kernel
theorem dX11_of_5 : decode cX11_of 5 = .ok (.invokevirtual 202, 3) := by decide +kernel
theorem dX11_of_8 : decode cX11_of 8 = .ok (.ifCond .ne 5, 3) := by decide +kernel
theorem dX11_of_11 : decode cX11_of 11 = .ok (.iconst (-1), 1) := by decide +kernel
theorem dX11_of_12 : decode cX11_of 12 = .ok (.ireturn, 1) := by decide +kernel
theorem dX11_of_13 : decode cX11_of 13 = .ok (.iload_n 2, 1) := by decide +kernel
theorem dX11_of_14 : decode cX11_of 14 = .ok (.tableswitch 105 0 4 #[34, 44, 75, 85, 95], 34) := by decide +kernel
theorem dX11_of_48 : decode cX11_of 48 = .ok (.aload_n 0, 1) := by decide +kernel
theorem dX11_of_49 : decode cX11_of 49 = .ok (.getfield 45, 3) := by decide +kernel
theorem dX11_of_52 : decode cX11_of 52 = .ok (.getfield 187, 3) := by decide +kernel
theorem dX11_of_55 : decode cX11_of 55 = .ok (.iload_n 1, 1) := by decide +kernel
theorem dX11_of_56 : decode cX11_of 56 = .ok (.iaload, 1) := by decide +kernel
theorem dX11_of_57 : decode cX11_of 57 = .ok (.ireturn, 1) := by decide +kernel
theorem dX11_of_58 : decode cX11_of 58 = .ok (.aload_n 0, 1) := by decide +kernel
theorem dX11_of_59 : decode cX11_of 59 = .ok (.getfield 38, 3) := by decide +kernel
theorem dX11_of_62 : decode cX11_of 62 = .ok (.getfield 205, 3) := by decide +kernel
theorem dX11_of_65 : decode cX11_of 65 = .ok (.iconst (-1), 1) := by decide +kernel
theorem dX11_of_66 : decode cX11_of 66 = .ok (.if_icmp .eq 13, 3) := by decide +kernel
theorem dX11_of_69 : decode cX11_of 69 = .ok (.aload_n 0, 1) := by decide +kernel
theorem dX11_of_70 : decode cX11_of 70 = .ok (.getfield 38, 3) := by decide +kernel
theorem dX11_of_73 : decode cX11_of 73 = .ok (.getfield 205, 3) := by decide +kernel
theorem dX11_of_76 : decode cX11_of 76 = .ok (.goto 12, 3) := by decide +kernel
theorem dX11_of_79 : decode cX11_of 79 = .ok (.aload_n 0, 1) := by decide +kernel
theorem dX11_of_80 : decode cX11_of 80 = .ok (.getfield 45, 3) := by decide +kernel
theorem dX11_of_83 : decode cX11_of 83 = .ok (.getfield 190, 3) := by decide +kernel
theorem dX11_of_86 : decode cX11_of 86 = .ok (.iload_n 1, 1) := by decide +kernel
theorem dX11_of_87 : decode cX11_of 87 = .ok (.iaload, 1) := by decide +kernel
theorem dX11_of_88 : decode cX11_of 88 = .ok (.ireturn, 1) := by decide +kernel
theorem dX11_of_89 : decode cX11_of 89 = .ok (.aload_n 0, 1) := by decide +kernel
theorem dX11_of_90 : decode cX11_of 90 = .ok (.getfield 45, 3) := by decide +kernel
theorem dX11_of_93 : decode cX11_of 93 = .ok (.getfield 193, 3) := by decide +kernel
theorem dX11_of_96 : decode cX11_of 96 = .ok (.iload_n 1, 1) := by decide +kernel
theorem dX11_of_97 : decode cX11_of 97 = .ok (.iaload, 1) := by decide +kernel
theorem dX11_of_98 : decode cX11_of 98 = .ok (.ireturn, 1) := by decide +kernel
theorem dX11_of_99 : decode cX11_of 99 = .ok (.aload_n 0, 1) := by decide +kernel
theorem dX11_of_100 : decode cX11_of 100 = .ok (.getfield 45, 3) := by decide +kernel
theorem dX11_of_103 : decode cX11_of 103 = .ok (.getfield 196, 3) := by decide +kernel
theorem dX11_of_106 : decode cX11_of 106 = .ok (.iload_n 1, 1) := by decide +kernel
theorem dX11_of_107 : decode cX11_of 107 = .ok (.iaload, 1) := by decide +kernel
theorem dX11_of_108 : decode cX11_of 108 = .ok (.ireturn, 1) := by decide +kernel
theorem dX11_of_109 : decode cX11_of 109 = .ok (.aload_n 0, 1) := by decide +kernel
theorem dX11_of_110 : decode cX11_of 110 = .ok (.getfield 45, 3) := by decide +kernel
theorem dX11_of_113 : decode cX11_of 113 = .ok (.getfield 199, 3) := by decide +kernel
theorem dX11_of_116 : decode cX11_of 116 = .ok (.iload_n 1, 1) := by decide +kernel
theorem dX11_of_117 : decode cX11_of 117 = .ok (.iaload, 1) := by decide +kernel
theorem dX11_of_118 : decode cX11_of 118 = .ok (.ireturn, 1) := by decide +kernel
theorem dX11_of_119 : decode cX11_of 119 = .ok (.iconst (-1), 1) := by decide +kernel
theorem dX11_of_120 : decode cX11_of 120 = .ok (.ireturn, 1) := by decide +kernel
theorem dX11_sold_0 : decode cX11_sold 0 = .ok (.aload_n 0, 1) := by decide +kernel
theorem dX11_sold_1 : decode cX11_sold 1 = .ok (.getfield 45, 3) := by decide +kernel
theorem dX11_sold_4 : decode cX11_sold 4 = .ok (.iload_n 1, 1) := by decide +kernel
theorem dX11_sold_5 : decode cX11_sold 5 = .ok (.invokevirtual 202, 3) := by decide +kernel
theorem dX11_sold_8 : decode cX11_sold 8 = .ok (.ifCond .ne 7, 3) := by decide +kernel
theorem dX11_sold_11 : decode cX11_sold 11 = .ok (.ldc2_w 207, 3) := by decide +kernel
theorem dX11_sold_14 : decode cX11_sold 14 = .ok (.lreturn, 1) := by decide +kernel
theorem dX11_sold_15 : decode cX11_sold 15 = .ok (.aload_n 0, 1) := by decide +kernel
theorem dX11_sold_16 : decode cX11_sold 16 = .ok (.invokevirtual 209, 3) := by decide +kernel
theorem dX11_sold_19 : decode cX11_sold 19 = .ok (.aload_n 0, 1) := by decide +kernel
theorem dX11_sold_20 : decode cX11_sold 20 = .ok (.getfield 58, 3) := by decide +kernel
theorem dX11_sold_23 : decode cX11_sold 23 = .ok (.getfield 212, 3) := by decide +kernel
theorem dX11_sold_26 : decode cX11_sold 26 = .ok (.iload_n 1, 1) := by decide +kernel
theorem dX11_sold_27 : decode cX11_sold 27 = .ok (.iaload, 1) := by decide +kernel
theorem dX11_sold_28 : decode cX11_sold 28 = .ok (.i2l, 1) := by decide +kernel
theorem dX11_sold_29 : decode cX11_sold 29 = .ok (.lreturn, 1) := by decide +kernel
theorem dX11_earns_0 : decode cX11_earns 0 = .ok (.iload_n 1, 1) := by decide +kernel
theorem dX11_earns_1 : decode cX11_earns 1 = .ok (.ifCond .lt 8, 3) := by decide +kernel
theorem dX11_earns_4 : decode cX11_earns 4 = .ok (.iload_n 1, 1) := by decide +kernel
theorem dX11_earns_5 : decode cX11_earns 5 = .ok (.iconst 4, 1) := by decide +kernel
theorem dX11_earns_6 : decode cX11_earns 6 = .ok (.if_icmp .lt 7, 3) := by decide +kernel
theorem dX11_earns_9 : decode cX11_earns 9 = .ok (.ldc2_w 207, 3) := by decide +kernel
theorem dX11_earns_12 : decode cX11_earns 12 = .ok (.lreturn, 1) := by decide +kernel
theorem dX11_earns_13 : decode cX11_earns 13 = .ok (.aload_n 0, 1) := by decide +kernel
theorem dX11_earns_14 : decode cX11_earns 14 = .ok (.invokevirtual 209, 3) := by decide +kernel
theorem dX11_earns_17 : decode cX11_earns 17 = .ok (.aload_n 0, 1) := by decide +kernel
theorem dX11_earns_18 : decode cX11_earns 18 = .ok (.getfield 58, 3) := by decide +kernel
theorem dX11_earns_21 : decode cX11_earns 21 = .ok (.iload_n 1, 1) := by decide +kernel
theorem dX11_earns_22 : decode cX11_earns 22 = .ok (.invokevirtual 215, 3) := by decide +kernel
theorem dX11_earns_25 : decode cX11_earns 25 = .ok (.lreturn, 1) := by decide +kernel
theorem dX11_home_0 : decode cX11_home 0 = .ok (.aload_n 0, 1) := by decide +kernel
theorem dX11_home_1 : decode cX11_home 1 = .ok (.invokevirtual 209, 3) := by decide +kernel
theorem dX11_home_4 : decode cX11_home 4 = .ok (.aload_n 0, 1) := by decide +kernel
theorem dX11_home_5 : decode cX11_home 5 = .ok (.getfield 58, 3) := by decide +kernel
theorem dX11_home_8 : decode cX11_home 8 = .ok (.getfield 219, 3) := by decide +kernel
theorem dX11_home_11 : decode cX11_home 11 = .ok (.iconst 0, 1) := by decide +kernel
theorem dX11_home_12 : decode cX11_home 12 = .ok (.iaload, 1) := by decide +kernel
theorem dX11_home_13 : decode cX11_home 13 = .ok (.i2l, 1) := by decide +kernel
theorem dX11_home_14 : decode cX11_home 14 = .ok (.lreturn, 1) := by decide +kernel
theorem dX11_buys_0 : decode cX11_buys 0 = .ok (.aload_n 0, 1) := by decide +kernel
theorem dX11_buys_1 : decode cX11_buys 1 = .ok (.getfield 19, 3) := by decide +kernel
theorem dX11_buys_4 : decode cX11_buys 4 = .ok (.iload_n 1, 1) := by decide +kernel
theorem dX11_buys_5 : decode cX11_buys 5 = .ok (.invokevirtual 162, 3) := by decide +kernel
theorem dX11_buys_8 : decode cX11_buys 8 = .ok (.ifCond .ne 5, 3) := by decide +kernel
theorem dX11_buys_11 : decode cX11_buys 11 = .ok (.iconst (-1), 1) := by decide +kernel
theorem dX11_buys_12 : decode cX11_buys 12 = .ok (.ireturn, 1) := by decide +kernel
theorem dX11_buys_13 : decode cX11_buys 13 = .ok (.aload_n 0, 1) := by decide +kernel
theorem dX11_buys_14 : decode cX11_buys 14 = .ok (.invokevirtual 209, 3) := by decide +kernel
theorem dX11_buys_17 : decode cX11_buys 17 = .ok (.aload_n 0, 1) := by decide +kernel
theorem dX11_buys_18 : decode cX11_buys 18 = .ok (.getfield 58, 3) := by decide +kernel
theorem dX11_buys_21 : decode cX11_buys 21 = .ok (.getfield 222, 3) := by decide +kernel
theorem dX11_buys_24 : decode cX11_buys 24 = .ok (.iload_n 1, 1) := by decide +kernel
theorem dX11_buys_25 : decode cX11_buys 25 = .ok (.iaload, 1) := by decide +kernel
theorem dX11_buys_26 : decode cX11_buys 26 = .ok (.ireturn, 1) := by decide +kernel
theorem dX11_best_0 : decode cX11_best 0 = .ok (.aload_n 0, 1) := by decide +kernel
theorem dX11_best_1 : decode cX11_best 1 = .ok (.getfield 45, 3) := by decide +kernel
theorem dX11_best_4 : decode cX11_best 4 = .ok (.iload_n 1, 1) := by decide +kernel
theorem dX11_best_5 : decode cX11_best 5 = .ok (.invokevirtual 202, 3) := by decide +kernel
theorem dX11_best_8 : decode cX11_best 8 = .ok (.ifCond .eq 12, 3) := by decide +kernel
theorem dX11_best_11 : decode cX11_best 11 = .ok (.iload_n 2, 1) := by decide +kernel
theorem dX11_best_12 : decode cX11_best 12 = .ok (.ifCond .lt 8, 3) := by decide +kernel
theorem dX11_best_15 : decode cX11_best 15 = .ok (.iload_n 2, 1) := by decide +kernel
theorem dX11_best_16 : decode cX11_best 16 = .ok (.iconst 2, 1) := by decide +kernel
theorem dX11_best_17 : decode cX11_best 17 = .ok (.if_icmp .le 7, 3) := by decide +kernel
theorem dX11_best_20 : decode cX11_best 20 = .ok (.ldc2_w 207, 3) := by decide +kernel
theorem dX11_best_23 : decode cX11_best 23 = .ok (.lreturn, 1) := by decide +kernel
theorem dX11_best_24 : decode cX11_best 24 = .ok (.aload_n 0, 1) := by decide +kernel
theorem dX11_best_25 : decode cX11_best 25 = .ok (.getfield 58, 3) := by decide +kernel
theorem dX11_best_28 : decode cX11_best 28 = .ok (.aload_n 0, 1) := by decide +kernel
theorem dX11_best_29 : decode cX11_best 29 = .ok (.getfield 45, 3) := by decide +kernel
theorem dX11_best_32 : decode cX11_best 32 = .ok (.invokevirtual 225, 3) := by decide +kernel
theorem dX11_best_35 : decode cX11_best 35 = .ok (.aload_n 0, 1) := by decide +kernel
theorem dX11_best_36 : decode cX11_best 36 = .ok (.getfield 74, 3) := by decide +kernel
theorem dX11_best_39 : decode cX11_best 39 = .ok (.iload_n 1, 1) := by decide +kernel
theorem dX11_best_40 : decode cX11_best 40 = .ok (.invokevirtual 229, 3) := by decide +kernel
theorem dX11_best_43 : decode cX11_best 43 = .ok (.iload_n 2, 1) := by decide +kernel
theorem dX11_best_44 : decode cX11_best 44 = .ok (.ifCond .ne 12, 3) := by decide +kernel
theorem dX11_best_47 : decode cX11_best 47 = .ok (.aload_n 0, 1) := by decide +kernel
theorem dX11_best_48 : decode cX11_best 48 = .ok (.getfield 74, 3) := by decide +kernel
theorem dX11_best_51 : decode cX11_best 51 = .ok (.getfield 232, 3) := by decide +kernel
theorem dX11_best_54 : decode cX11_best 54 = .ok (.i2l, 1) := by decide +kernel
theorem dX11_best_55 : decode cX11_best 55 = .ok (.lreturn, 1) := by decide +kernel
theorem dX11_best_56 : decode cX11_best 56 = .ok (.iload_n 2, 1) := by decide +kernel
theorem dX11_best_57 : decode cX11_best 57 = .ok (.iconst 1, 1) := by decide +kernel
theorem dX11_best_58 : decode cX11_best 58 = .ok (.if_icmp .ne 13, 3) := by decide +kernel
theorem dX11_best_61 : decode cX11_best 61 = .ok (.aload_n 0, 1) := by decide +kernel
theorem dX11_best_62 : decode cX11_best 62 = .ok (.getfield 74, 3) := by decide +kernel
theorem dX11_best_65 : decode cX11_best 65 = .ok (.getfield 235, 3) := by decide +kernel
theorem dX11_best_68 : decode cX11_best 68 = .ok (.goto 19, 3) := by decide +kernel
theorem dX11_best_71 : decode cX11_best 71 = .ok (.aload_n 0, 1) := by decide +kernel
theorem dX11_best_72 : decode cX11_best 72 = .ok (.getfield 74, 3) := by decide +kernel
theorem dX11_best_75 : decode cX11_best 75 = .ok (.getfield 239, 3) := by decide +kernel
theorem dX11_best_78 : decode cX11_best 78 = .ok (.ifCond .eq 7, 3) := by decide +kernel
theorem dX11_best_81 : decode cX11_best 81 = .ok (.iconst 1, 1) := by decide +kernel
theorem dX11_best_82 : decode cX11_best 82 = .ok (.goto 4, 3) := by decide +kernel
theorem dX11_best_85 : decode cX11_best 85 = .ok (.iconst 0, 1) := by decide +kernel
theorem dX11_best_86 : decode cX11_best 86 = .ok (.i2l, 1) := by decide +kernel
theorem dX11_best_87 : decode cX11_best 87 = .ok (.lreturn, 1) := by decide +kernel
theorem dX11_rest_0 : decode cX11_rest 0 = .ok (.aload_n 0, 1) := by decide +kernel
theorem dX11_rest_1 : decode cX11_rest 1 = .ok (.getfield 45, 3) := by decide +kernel
theorem dX11_rest_4 : decode cX11_rest 4 = .ok (.getfield 186, 3) := by decide +kernel
theorem dX11_rest_7 : decode cX11_rest 7 = .ok (.ifCond .ne 6, 3) := by decide +kernel
theorem dX11_rest_10 : decode cX11_rest 10 = .ok (.bipush (-2), 2) := by decide +kernel
theorem dX11_rest_12 : decode cX11_rest 12 = .ok (.ireturn, 1) := by decide +kernel
theorem dX11_rest_13 : decode cX11_rest 13 = .ok (.aload_n 0, 1) := by decide +kernel
theorem dX11_rest_14 : decode cX11_rest 14 = .ok (.getfield 58, 3) := by decide +kernel
theorem dX11_rest_17 : decode cX11_rest 17 = .ok (.aload_n 0, 1) := by decide +kernel
theorem dX11_rest_18 : decode cX11_rest 18 = .ok (.getfield 45, 3) := by decide +kernel
theorem dX11_rest_21 : decode cX11_rest 21 = .ok (.invokevirtual 225, 3) := by decide +kernel
theorem dX11_rest_24 : decode cX11_rest 24 = .ok (.aload_n 0, 1) := by decide +kernel
theorem dX11_rest_25 : decode cX11_rest 25 = .ok (.getfield 74, 3) := by decide +kernel
theorem dX11_rest_28 : decode cX11_rest 28 = .ok (.invokevirtual 243, 3) := by decide +kernel
theorem dX11_rest_31 : decode cX11_rest 31 = .ok (.ireturn, 1) := by decide +kernel
theorem dX11_turn_0 : decode cX11_turn 0 = .ok (.aload_n 0, 1) := by decide +kernel
theorem dX11_turn_1 : decode cX11_turn 1 = .ok (.getfield 45, 3) := by decide +kernel
theorem dX11_turn_4 : decode cX11_turn 4 = .ok (.iload_n 1, 1) := by decide +kernel
theorem dX11_turn_5 : decode cX11_turn 5 = .ok (.invokevirtual 202, 3) := by decide +kernel
theorem dX11_turn_8 : decode cX11_turn 8 = .ok (.ifCond .ne 5, 3) := by decide +kernel
theorem dX11_turn_11 : decode cX11_turn 11 = .ok (.iconst 0, 1) := by decide +kernel
theorem dX11_turn_12 : decode cX11_turn 12 = .ok (.ireturn, 1) := by decide +kernel
theorem dX11_turn_13 : decode cX11_turn 13 = .ok (.aload_n 0, 1) := by decide +kernel
theorem dX11_turn_14 : decode cX11_turn 14 = .ok (.getfield 58, 3) := by decide +kernel
theorem dX11_turn_17 : decode cX11_turn 17 = .ok (.aload_n 0, 1) := by decide +kernel
theorem dX11_turn_18 : decode cX11_turn 18 = .ok (.getfield 45, 3) := by decide +kernel
theorem dX11_turn_21 : decode cX11_turn 21 = .ok (.invokevirtual 225, 3) := by decide +kernel
theorem dX11_turn_24 : decode cX11_turn 24 = .ok (.aload_n 0, 1) := by decide +kernel
theorem dX11_turn_25 : decode cX11_turn 25 = .ok (.getfield 74, 3) := by decide +kernel
theorem dX11_turn_28 : decode cX11_turn 28 = .ok (.iload_n 1, 1) := by decide +kernel
theorem dX11_turn_29 : decode cX11_turn 29 = .ok (.invokevirtual 229, 3) := by decide +kernel
theorem dX11_turn_32 : decode cX11_turn 32 = .ok (.aload_n 0, 1) := by decide +kernel
theorem dX11_turn_33 : decode cX11_turn 33 = .ok (.getfield 74, 3) := by decide +kernel
theorem dX11_turn_36 : decode cX11_turn 36 = .ok (.getfield 239, 3) := by decide +kernel
theorem dX11_turn_39 : decode cX11_turn 39 = .ok (.ifCond .ne 5, 3) := by decide +kernel
theorem dX11_turn_42 : decode cX11_turn 42 = .ok (.iconst 0, 1) := by decide +kernel
theorem dX11_turn_43 : decode cX11_turn 43 = .ok (.ireturn, 1) := by decide +kernel
theorem dX11_turn_44 : decode cX11_turn 44 = .ok (.aload_n 0, 1) := by decide +kernel
theorem dX11_turn_45 : decode cX11_turn 45 = .ok (.getfield 45, 3) := by decide +kernel
theorem dX11_turn_48 : decode cX11_turn 48 = .ok (.getfield 199, 3) := by decide +kernel
theorem dX11_turn_51 : decode cX11_turn 51 = .ok (.iload_n 1, 1) := by decide +kernel
theorem dX11_turn_52 : decode cX11_turn 52 = .ok (.iaload, 1) := by decide +kernel
theorem dX11_turn_53 : decode cX11_turn 53 = .ok (.iconst 1, 1) := by decide +kernel
theorem dX11_turn_54 : decode cX11_turn 54 = .ok (.if_icmp .ne 22, 3) := by decide +kernel
theorem dX11_turn_57 : decode cX11_turn 57 = .ok (.aload_n 0, 1) := by decide +kernel
theorem dX11_turn_58 : decode cX11_turn 58 = .ok (.getfield 45, 3) := by decide +kernel
theorem dX11_turn_61 : decode cX11_turn 61 = .ok (.getfield 190, 3) := by decide +kernel
theorem dX11_turn_64 : decode cX11_turn 64 = .ok (.iload_n 1, 1) := by decide +kernel
theorem dX11_turn_65 : decode cX11_turn 65 = .ok (.aload_n 0, 1) := by decide +kernel
theorem dX11_turn_66 : decode cX11_turn 66 = .ok (.getfield 74, 3) := by decide +kernel
theorem dX11_turn_69 : decode cX11_turn 69 = .ok (.getfield 232, 3) := by decide +kernel
theorem dX11_turn_72 : decode cX11_turn 72 = .ok (.iastore, 1) := by decide +kernel
theorem dX11_turn_73 : decode cX11_turn 73 = .ok (.goto 19, 3) := by decide +kernel
theorem dX11_turn_76 : decode cX11_turn 76 = .ok (.aload_n 0, 1) := by decide +kernel
theorem dX11_turn_77 : decode cX11_turn 77 = .ok (.getfield 45, 3) := by decide +kernel
theorem dX11_turn_80 : decode cX11_turn 80 = .ok (.getfield 187, 3) := by decide +kernel
theorem dX11_turn_83 : decode cX11_turn 83 = .ok (.iload_n 1, 1) := by decide +kernel
theorem dX11_turn_84 : decode cX11_turn 84 = .ok (.aload_n 0, 1) := by decide +kernel
theorem dX11_turn_85 : decode cX11_turn 85 = .ok (.getfield 74, 3) := by decide +kernel
theorem dX11_turn_88 : decode cX11_turn 88 = .ok (.getfield 232, 3) := by decide +kernel
theorem dX11_turn_91 : decode cX11_turn 91 = .ok (.iastore, 1) := by decide +kernel
theorem dX11_turn_92 : decode cX11_turn 92 = .ok (.aload_n 0, 1) := by decide +kernel
theorem dX11_turn_93 : decode cX11_turn 93 = .ok (.dup, 1) := by decide +kernel
theorem dX11_turn_94 : decode cX11_turn 94 = .ok (.getfield 104, 3) := by decide +kernel
theorem dX11_turn_97 : decode cX11_turn 97 = .ok (.iconst 1, 1) := by decide +kernel
theorem dX11_turn_98 : decode cX11_turn 98 = .ok (.iadd, 1) := by decide +kernel
theorem dX11_turn_99 : decode cX11_turn 99 = .ok (.putfield 104, 3) := by decide +kernel
theorem dX11_turn_102 : decode cX11_turn 102 = .ok (.iconst 1, 1) := by decide +kernel
theorem dX11_turn_103 : decode cX11_turn 103 = .ok (.ireturn, 1) := by decide +kernel
theorem dX11_chase_0 : decode cX11_chase 0 = .ok (.aload_n 0, 1) := by decide +kernel
theorem dX11_chase_1 : decode cX11_chase 1 = .ok (.getfield 45, 3) := by decide +kernel
theorem dX11_chase_4 : decode cX11_chase 4 = .ok (.getfield 186, 3) := by decide +kernel
theorem dX11_chase_7 : decode cX11_chase 7 = .ok (.ifCond .eq 14, 3) := by decide +kernel
theorem dX11_chase_10 : decode cX11_chase 10 = .ok (.iload_n 1, 1) := by decide +kernel
theorem dX11_chase_11 : decode cX11_chase 11 = .ok (.iconst 1, 1) := by decide +kernel
theorem dX11_chase_12 : decode cX11_chase 12 = .ok (.if_icmp .lt 9, 3) := by decide +kernel
theorem dX11_chase_15 : decode cX11_chase 15 = .ok (.iload_n 1, 1) := by decide +kernel
theorem dX11_chase_16 : decode cX11_chase 16 = .ok (.bipush 60, 2) := by decide +kernel
theorem dX11_chase_18 : decode cX11_chase 18 = .ok (.if_icmp .le 5, 3) := by decide +kernel
theorem dX11_chase_21 : decode cX11_chase 21 = .ok (.iconst (-1), 1) := by decide +kernel
theorem dX11_chase_22 : decode cX11_chase 22 = .ok (.ireturn, 1) := by decide +kernel
theorem dX11_chase_23 : decode cX11_chase 23 = .ok (.iload_n 2, 1) := by decide +kernel
theorem dX11_chase_24 : decode cX11_chase 24 = .ok (.bipush 10, 2) := by decide +kernel
theorem dX11_chase_26 : decode cX11_chase 26 = .ok (.if_icmp .lt 21, 3) := by decide +kernel
theorem dX11_chase_29 : decode cX11_chase 29 = .ok (.iload_n 2, 1) := by decide +kernel
theorem dX11_chase_30 : decode cX11_chase 30 = .ok (.bipush 10, 2) := by decide +kernel
theorem dX11_chase_32 : decode cX11_chase 32 = .ok (.aload_n 0, 1) := by decide +kernel
theorem dX11_chase_33 : decode cX11_chase 33 = .ok (.getfield 45, 3) := by decide +kernel
theorem dX11_chase_36 : decode cX11_chase 36 = .ok (.getfield 186, 3) := by decide +kernel
theorem dX11_chase_39 : decode cX11_chase 39 = .ok (.iadd, 1) := by decide +kernel
theorem dX11_chase_40 : decode cX11_chase 40 = .ok (.if_icmp .ge 7, 3) := by decide +kernel
theorem dX11_chase_43 : decode cX11_chase 43 = .ok (.iconst 1, 1) := by decide +kernel
theorem dX11_chase_44 : decode cX11_chase 44 = .ok (.goto 4, 3) := by decide +kernel
theorem dX11_chase_47 : decode cX11_chase 47 = .ok (.iconst 0, 1) := by decide +kernel
theorem dX11_chase_48 : decode cX11_chase 48 = .ok (.istore_n 3, 1) := by decide +kernel
theorem dX11_chase_49 : decode cX11_chase 49 = .ok (.iload_n 2, 1) := by decide +kernel
theorem dX11_chase_50 : decode cX11_chase 50 = .ok (.bipush 20, 2) := by decide +kernel
theorem dX11_chase_52 : decode cX11_chase 52 = .ok (.if_icmp .lt 21, 3) := by decide +kernel
theorem dX11_chase_55 : decode cX11_chase 55 = .ok (.iload_n 2, 1) := by decide +kernel
theorem dX11_chase_56 : decode cX11_chase 56 = .ok (.bipush 20, 2) := by decide +kernel
theorem dX11_chase_58 : decode cX11_chase 58 = .ok (.aload_n 0, 1) := by decide +kernel
theorem dX11_chase_59 : decode cX11_chase 59 = .ok (.getfield 45, 3) := by decide +kernel
theorem dX11_chase_62 : decode cX11_chase 62 = .ok (.getfield 186, 3) := by decide +kernel
theorem dX11_chase_65 : decode cX11_chase 65 = .ok (.iadd, 1) := by decide +kernel
theorem dX11_chase_66 : decode cX11_chase 66 = .ok (.if_icmp .ge 7, 3) := by decide +kernel
theorem dX11_chase_69 : decode cX11_chase 69 = .ok (.iconst 1, 1) := by decide +kernel
theorem dX11_chase_70 : decode cX11_chase 70 = .ok (.goto 4, 3) := by decide +kernel
theorem dX11_chase_73 : decode cX11_chase 73 = .ok (.iconst 0, 1) := by decide +kernel
theorem dX11_chase_74 : decode cX11_chase 74 = .ok (.istore 4, 2) := by decide +kernel
theorem dX11_chase_76 : decode cX11_chase 76 = .ok (.iload_n 3, 1) := by decide +kernel
theorem dX11_chase_77 : decode cX11_chase 77 = .ok (.ifCond .ne 19, 3) := by decide +kernel
theorem dX11_chase_80 : decode cX11_chase 80 = .ok (.iload 4, 2) := by decide +kernel
theorem dX11_chase_82 : decode cX11_chase 82 = .ok (.ifCond .ne 14, 3) := by decide +kernel
theorem dX11_chase_85 : decode cX11_chase 85 = .ok (.iload_n 2, 1) := by decide +kernel
theorem dX11_chase_86 : decode cX11_chase 86 = .ok (.ifCond .lt 8, 3) := by decide +kernel
theorem dX11_chase_89 : decode cX11_chase 89 = .ok (.iload_n 2, 1) := by decide +kernel
theorem dX11_chase_90 : decode cX11_chase 90 = .ok (.iconst 2, 1) := by decide +kernel
theorem dX11_chase_91 : decode cX11_chase 91 = .ok (.if_icmp .le 5, 3) := by decide +kernel
theorem dX11_chase_94 : decode cX11_chase 94 = .ok (.iconst (-1), 1) := by decide +kernel
theorem dX11_chase_95 : decode cX11_chase 95 = .ok (.ireturn, 1) := by decide +kernel
theorem dX11_chase_96 : decode cX11_chase 96 = .ok (.aload_n 0, 1) := by decide +kernel
theorem dX11_chase_97 : decode cX11_chase 97 = .ok (.getfield 74, 3) := by decide +kernel
theorem dX11_chase_100 : decode cX11_chase 100 = .ok (.aload_n 0, 1) := by decide +kernel
theorem dX11_chase_101 : decode cX11_chase 101 = .ok (.getfield 104, 3) := by decide +kernel
theorem dX11_chase_104 : decode cX11_chase 104 = .ok (.iload_n 1, 1) := by decide +kernel
theorem dX11_chase_105 : decode cX11_chase 105 = .ok (.invokevirtual 247, 3) := by decide +kernel
theorem dX11_chase_108 : decode cX11_chase 108 = .ok (.iload_n 3, 1) := by decide +kernel
theorem dX11_chase_109 : decode cX11_chase 109 = .ok (.ifCond .eq 16, 3) := by decide +kernel
theorem dX11_chase_112 : decode cX11_chase 112 = .ok (.aload_n 0, 1) := by decide +kernel
theorem dX11_chase_113 : decode cX11_chase 113 = .ok (.getfield 74, 3) := by decide +kernel
theorem dX11_chase_116 : decode cX11_chase 116 = .ok (.getfield 251, 3) := by decide +kernel
theorem dX11_chase_119 : decode cX11_chase 119 = .ok (.iload_n 2, 1) := by decide +kernel
theorem dX11_chase_120 : decode cX11_chase 120 = .ok (.bipush 10, 2) := by decide +kernel
theorem dX11_chase_122 : decode cX11_chase 122 = .ok (.isub, 1) := by decide +kernel
theorem dX11_chase_123 : decode cX11_chase 123 = .ok (.iaload, 1) := by decide +kernel
theorem dX11_chase_124 : decode cX11_chase 124 = .ok (.ireturn, 1) := by decide +kernel
theorem dX11_chase_125 : decode cX11_chase 125 = .ok (.iload 4, 2) := by decide +kernel
theorem dX11_chase_127 : decode cX11_chase 127 = .ok (.ifCond .eq 18, 3) := by decide +kernel
theorem dX11_chase_130 : decode cX11_chase 130 = .ok (.aload_n 0, 1) := by decide +kernel
theorem dX11_chase_131 : decode cX11_chase 131 = .ok (.getfield 74, 3) := by decide +kernel
theorem dX11_chase_134 : decode cX11_chase 134 = .ok (.getfield 254, 3) := by decide +kernel
theorem dX11_chase_137 : decode cX11_chase 137 = .ok (.iload_n 2, 1) := by decide +kernel
theorem dX11_chase_138 : decode cX11_chase 138 = .ok (.bipush 20, 2) := by decide +kernel
theorem dX11_chase_140 : decode cX11_chase 140 = .ok (.isub, 1) := by decide +kernel
theorem dX11_chase_141 : decode cX11_chase 141 = .ok (.iaload, 1) := by decide +kernel
theorem dX11_chase_142 : decode cX11_chase 142 = .ok (.goto 12, 3) := by decide +kernel
theorem dX11_chase_145 : decode cX11_chase 145 = .ok (.aload_n 0, 1) := by decide +kernel
theorem dX11_chase_146 : decode cX11_chase 146 = .ok (.getfield 74, 3) := by decide +kernel
theorem dX11_chase_149 : decode cX11_chase 149 = .ok (.getfield 257, 3) := by decide +kernel
theorem dX11_chase_152 : decode cX11_chase 152 = .ok (.iload_n 2, 1) := by decide +kernel
theorem dX11_chase_153 : decode cX11_chase 153 = .ok (.iaload, 1) := by decide +kernel
theorem dX11_chase_154 : decode cX11_chase 154 = .ok (.ireturn, 1) := by decide +kernel
theorem dX11_rests_0 : decode cX11_rests 0 = .ok (.aload_n 0, 1) := by decide +kernel
theorem dX11_rests_1 : decode cX11_rests 1 = .ok (.iload_n 1, 1) := by decide +kernel
theorem dX11_rests_2 : decode cX11_rests 2 = .ok (.iload_n 2, 1) := by decide +kernel
theorem dX11_rests_3 : decode cX11_rests 3 = .ok (.invokevirtual 260, 3) := by decide +kernel
theorem dX11_rests_6 : decode cX11_rests 6 = .ok (.ifCond .eq 9, 3) := by decide +kernel
theorem dX11_rests_9 : decode cX11_rests 9 = .ok (.iload 4, 2) := by decide +kernel
theorem dX11_rests_11 : decode cX11_rests 11 = .ok (.iconst (-1), 1) := by decide +kernel
theorem dX11_rests_12 : decode cX11_rests 12 = .ok (.if_icmp .ge 5, 3) := by decide +kernel
theorem dX11_rests_15 : decode cX11_rests 15 = .ok (.iconst (-1), 1) := by decide +kernel
theorem dX11_rests_16 : decode cX11_rests 16 = .ok (.ireturn, 1) := by decide +kernel
theorem dX11_rests_17 : decode cX11_rests 17 = .ok (.iload_n 3, 1) := by decide +kernel
theorem dX11_rests_18 : decode cX11_rests 18 = .ok (.iconst (-1), 1) := by decide +kernel
theorem dX11_rests_19 : decode cX11_rests 19 = .ok (.if_icmp .eq 23, 3) := by decide +kernel
theorem dX11_rests_22 : decode cX11_rests 22 = .ok (.aload_n 0, 1) := by decide +kernel
theorem dX11_rests_23 : decode cX11_rests 23 = .ok (.iload_n 1, 1) := by decide +kernel
theorem dX11_rests_24 : decode cX11_rests 24 = .ok (.iload_n 3, 1) := by decide +kernel
theorem dX11_rests_25 : decode cX11_rests 25 = .ok (.invokevirtual 260, 3) := by decide +kernel
theorem dX11_rests_28 : decode cX11_rests 28 = .ok (.ifCond .eq 12, 3) := by decide +kernel
theorem dX11_rests_31 : decode cX11_rests 31 = .ok (.aload_n 0, 1) := by decide +kernel
theorem dX11_rests_32 : decode cX11_rests 32 = .ok (.iload_n 2, 1) := by decide +kernel
theorem dX11_rests_33 : decode cX11_rests 33 = .ok (.iload_n 3, 1) := by decide +kernel
theorem dX11_rests_34 : decode cX11_rests 34 = .ok (.invokevirtual 260, 3) := by decide +kernel
theorem dX11_rests_37 : decode cX11_rests 37 = .ok (.ifCond .ne 5, 3) := by decide +kernel
theorem dX11_rests_40 : decode cX11_rests 40 = .ok (.iconst (-1), 1) := by decide +kernel
theorem dX11_rests_41 : decode cX11_rests 41 = .ok (.ireturn, 1) := by decide +kernel
theorem dX11_rests_42 : decode cX11_rests 42 = .ok (.aload_n 0, 1) := by decide +kernel
theorem dX11_rests_43 : decode cX11_rests 43 = .ok (.getfield 83, 3) := by decide +kernel
theorem dX11_rests_46 : decode cX11_rests 46 = .ok (.aload_n 0, 1) := by decide +kernel
theorem dX11_rests_47 : decode cX11_rests 47 = .ok (.getfield 104, 3) := by decide +kernel
theorem dX11_rests_50 : decode cX11_rests 50 = .ok (.iload_n 1, 1) := by decide +kernel
theorem dX11_rests_51 : decode cX11_rests 51 = .ok (.iload_n 2, 1) := by decide +kernel
theorem dX11_rests_52 : decode cX11_rests 52 = .ok (.iload_n 3, 1) := by decide +kernel
theorem dX11_rests_53 : decode cX11_rests 53 = .ok (.invokevirtual 263, 3) := by decide +kernel
theorem dX11_rests_56 : decode cX11_rests 56 = .ok (.iload 4, 2) := by decide +kernel
theorem dX11_rests_58 : decode cX11_rests 58 = .ok (.iconst (-1), 1) := by decide +kernel
theorem dX11_rests_59 : decode cX11_rests 59 = .ok (.if_icmp .ne 11, 3) := by decide +kernel
theorem dX11_rests_62 : decode cX11_rests 62 = .ok (.aload_n 0, 1) := by decide +kernel
theorem dX11_rests_63 : decode cX11_rests 63 = .ok (.getfield 83, 3) := by decide +kernel
theorem dX11_rests_66 : decode cX11_rests 66 = .ok (.getfield 267, 3) := by decide +kernel
theorem dX11_rests_69 : decode cX11_rests 69 = .ok (.ireturn, 1) := by decide +kernel
theorem dX11_rests_70 : decode cX11_rests 70 = .ok (.iload 4, 2) := by decide +kernel
theorem dX11_rests_72 : decode cX11_rests 72 = .ok (.aload_n 0, 1) := by decide +kernel
theorem dX11_rests_73 : decode cX11_rests 73 = .ok (.getfield 83, 3) := by decide +kernel
theorem dX11_rests_76 : decode cX11_rests 76 = .ok (.getfield 267, 3) := by decide +kernel
theorem dX11_rests_79 : decode cX11_rests 79 = .ok (.if_icmp .ge 23, 3) := by decide +kernel
theorem dX11_rests_82 : decode cX11_rests 82 = .ok (.aload_n 0, 1) := by decide +kernel
theorem dX11_rests_83 : decode cX11_rests 83 = .ok (.getfield 83, 3) := by decide +kernel
theorem dX11_rests_86 : decode cX11_rests 86 = .ok (.aload_n 0, 1) := by decide +kernel
theorem dX11_rests_87 : decode cX11_rests 87 = .ok (.getfield 83, 3) := by decide +kernel
theorem dX11_rests_90 : decode cX11_rests 90 = .ok (.getfield 270, 3) := by decide +kernel
theorem dX11_rests_93 : decode cX11_rests 93 = .ok (.iload 4, 2) := by decide +kernel
theorem dX11_rests_95 : decode cX11_rests 95 = .ok (.iaload, 1) := by decide +kernel
theorem dX11_rests_96 : decode cX11_rests 96 = .ok (.invokevirtual 273, 3) := by decide +kernel
theorem dX11_rests_99 : decode cX11_rests 99 = .ok (.goto 4, 3) := by decide +kernel
theorem dX11_rests_102 : decode cX11_rests 102 = .ok (.iconst (-1), 1) := by decide +kernel
theorem dX11_rests_103 : decode cX11_rests 103 = .ok (.ireturn, 1) := by decide +kernel
theorem dX11_lots_0 : decode cX11_lots 0 = .ok (.aload_n 0, 1) := by decide +kernel
theorem dX11_lots_1 : decode cX11_lots 1 = .ok (.iload_n 1, 1) := by decide +kernel
theorem dX11_lots_2 : decode cX11_lots 2 = .ok (.iload_n 2, 1) := by decide +kernel
theorem dX11_lots_3 : decode cX11_lots 3 = .ok (.invokevirtual 260, 3) := by decide +kernel
theorem dX11_lots_6 : decode cX11_lots 6 = .ok (.ifCond .eq 24, 3) := by decide +kernel
theorem dX11_lots_9 : decode cX11_lots 9 = .ok (.aload_n 0, 1) := by decide +kernel
theorem dX11_lots_10 : decode cX11_lots 10 = .ok (.iload_n 3, 1) := by decide +kernel
theorem dX11_lots_11 : decode cX11_lots 11 = .ok (.iload 4, 2) := by decide +kernel
theorem dX11_lots_13 : decode cX11_lots 13 = .ok (.invokevirtual 276, 3) := by decide +kernel
theorem dX11_lots_16 : decode cX11_lots 16 = .ok (.ifCond .eq 14, 3) := by decide +kernel
theorem dX11_lots_19 : decode cX11_lots 19 = .ok (.iload 5, 2) := by decide +kernel
theorem dX11_lots_21 : decode cX11_lots 21 = .ok (.ifCond .lt 9, 3) := by decide +kernel
theorem dX11_lots_24 : decode cX11_lots 24 = .ok (.iload 5, 2) := by decide +kernel
theorem dX11_lots_26 : decode cX11_lots 26 = .ok (.iconst 3, 1) := by decide +kernel
theorem dX11_lots_27 : decode cX11_lots 27 = .ok (.if_icmp .le 7, 3) := by decide +kernel
theorem dX11_lots_30 : decode cX11_lots 30 = .ok (.ldc2_w 207, 3) := by decide +kernel
theorem dX11_lots_33 : decode cX11_lots 33 = .ok (.lreturn, 1) := by decide +kernel
theorem dX11_lots_34 : decode cX11_lots 34 = .ok (.aload_n 0, 1) := by decide +kernel
theorem dX11_lots_35 : decode cX11_lots 35 = .ok (.getfield 83, 3) := by decide +kernel
theorem dX11_lots_38 : decode cX11_lots 38 = .ok (.iload_n 1, 1) := by decide +kernel
theorem dX11_lots_39 : decode cX11_lots 39 = .ok (.iload_n 2, 1) := by decide +kernel
theorem dX11_lots_40 : decode cX11_lots 40 = .ok (.iload_n 3, 1) := by decide +kernel
theorem dX11_lots_41 : decode cX11_lots 41 = .ok (.iload 4, 2) := by decide +kernel
theorem dX11_lots_43 : decode cX11_lots 43 = .ok (.iload 5, 2) := by decide +kernel
theorem dX11_lots_45 : decode cX11_lots 45 = .ok (.invokevirtual 279, 3) := by decide +kernel
theorem dX11_lots_48 : decode cX11_lots 48 = .ok (.lreturn, 1) := by decide +kernel
theorem dX11_lead_0 : decode cX11_lead 0 = .ok (.aload_n 0, 1) := by decide +kernel
theorem dX11_lead_1 : decode cX11_lead 1 = .ok (.iload_n 1, 1) := by decide +kernel
theorem dX11_lead_2 : decode cX11_lead 2 = .ok (.iload_n 2, 1) := by decide +kernel
theorem dX11_lead_3 : decode cX11_lead 3 = .ok (.invokevirtual 260, 3) := by decide +kernel
theorem dX11_lead_6 : decode cX11_lead 6 = .ok (.ifCond .eq 12, 3) := by decide +kernel
theorem dX11_lead_9 : decode cX11_lead 9 = .ok (.iload_n 3, 1) := by decide +kernel
theorem dX11_lead_10 : decode cX11_lead 10 = .ok (.ifCond .lt 8, 3) := by decide +kernel
theorem dX11_lead_13 : decode cX11_lead 13 = .ok (.iload_n 3, 1) := by decide +kernel
theorem dX11_lead_14 : decode cX11_lead 14 = .ok (.iconst 4, 1) := by decide +kernel
theorem dX11_lead_15 : decode cX11_lead 15 = .ok (.if_icmp .le 7, 3) := by decide +kernel
theorem dX11_lead_18 : decode cX11_lead 18 = .ok (.ldc2_w 283, 3) := by decide +kernel
theorem dX11_lead_21 : decode cX11_lead 21 = .ok (.lreturn, 1) := by decide +kernel
theorem dX11_lead_22 : decode cX11_lead 22 = .ok (.aload_n 0, 1) := by decide +kernel
theorem dX11_lead_23 : decode cX11_lead 23 = .ok (.getfield 83, 3) := by decide +kernel
theorem dX11_lead_26 : decode cX11_lead 26 = .ok (.aload_n 0, 1) := by decide +kernel
theorem dX11_lead_27 : decode cX11_lead 27 = .ok (.getfield 104, 3) := by decide +kernel
theorem dX11_lead_30 : decode cX11_lead 30 = .ok (.iload_n 1, 1) := by decide +kernel
theorem dX11_lead_31 : decode cX11_lead 31 = .ok (.iload_n 2, 1) := by decide +kernel
theorem dX11_lead_32 : decode cX11_lead 32 = .ok (.iconst (-1), 1) := by decide +kernel
theorem dX11_lead_33 : decode cX11_lead 33 = .ok (.invokevirtual 263, 3) := by decide +kernel
theorem dX11_lead_36 : decode cX11_lead 36 = .ok (.aload_n 0, 1) := by decide +kernel
theorem dX11_lead_37 : decode cX11_lead 37 = .ok (.getfield 83, 3) := by decide +kernel
theorem dX11_lead_40 : decode cX11_lead 40 = .ok (.iconst 0, 1) := by decide +kernel
theorem dX11_lead_41 : decode cX11_lead 41 = .ok (.invokevirtual 285, 3) := by decide +kernel
theorem dX11_lead_44 : decode cX11_lead 44 = .ok (.istore 4, 2) := by decide +kernel
theorem dX11_lead_46 : decode cX11_lead 46 = .ok (.aload_n 0, 1) := by decide +kernel
theorem dX11_lead_47 : decode cX11_lead 47 = .ok (.getfield 83, 3) := by decide +kernel
theorem dX11_lead_50 : decode cX11_lead 50 = .ok (.iconst 1, 1) := by decide +kernel
theorem dX11_lead_51 : decode cX11_lead 51 = .ok (.invokevirtual 285, 3) := by decide +kernel
theorem dX11_lead_54 : decode cX11_lead 54 = .ok (.istore 5, 2) := by decide +kernel
theorem dX11_lead_56 : decode cX11_lead 56 = .ok (.iload 4, 2) := by decide +kernel
theorem dX11_lead_58 : decode cX11_lead 58 = .ok (.iconst (-1), 1) := by decide +kernel
theorem dX11_lead_59 : decode cX11_lead 59 = .ok (.if_icmp .eq 9, 3) := by decide +kernel
theorem dX11_lead_62 : decode cX11_lead 62 = .ok (.iload 5, 2) := by decide +kernel
theorem dX11_lead_64 : decode cX11_lead 64 = .ok (.iconst (-1), 1) := by decide +kernel
theorem dX11_lead_65 : decode cX11_lead 65 = .ok (.if_icmp .ne 7, 3) := by decide +kernel
theorem dX11_lead_68 : decode cX11_lead 68 = .ok (.ldc2_w 283, 3) := by decide +kernel
theorem dX11_lead_71 : decode cX11_lead 71 = .ok (.lreturn, 1) := by decide +kernel
theorem dX11_lead_72 : decode cX11_lead 72 = .ok (.iload_n 3, 1) := by decide +kernel
theorem dX11_lead_73 : decode cX11_lead 73 = .ok (.tableswitch 77 0 3 #[31, 43, 55, 66], 31) := by decide +kernel
theorem dX11_lead_104 : decode cX11_lead 104 = .ok (.aload_n 0, 1) := by decide +kernel
theorem dX11_lead_105 : decode cX11_lead 105 = .ok (.getfield 83, 3) := by decide +kernel
theorem dX11_lead_108 : decode cX11_lead 108 = .ok (.iload 4, 2) := by decide +kernel
theorem dX11_lead_110 : decode cX11_lead 110 = .ok (.iconst 0, 1) := by decide +kernel
theorem dX11_lead_111 : decode cX11_lead 111 = .ok (.invokevirtual 288, 3) := by decide +kernel
theorem dX11_lead_114 : decode cX11_lead 114 = .ok (.i2l, 1) := by decide +kernel
theorem dX11_lead_115 : decode cX11_lead 115 = .ok (.lreturn, 1) := by decide +kernel
theorem dX11_lead_116 : decode cX11_lead 116 = .ok (.aload_n 0, 1) := by decide +kernel
theorem dX11_lead_117 : decode cX11_lead 117 = .ok (.getfield 83, 3) := by decide +kernel
theorem dX11_lead_120 : decode cX11_lead 120 = .ok (.iload 4, 2) := by decide +kernel
theorem dX11_lead_122 : decode cX11_lead 122 = .ok (.iconst 1, 1) := by decide +kernel
theorem dX11_lead_123 : decode cX11_lead 123 = .ok (.invokevirtual 288, 3) := by decide +kernel
theorem dX11_lead_126 : decode cX11_lead 126 = .ok (.i2l, 1) := by decide +kernel
theorem dX11_lead_127 : decode cX11_lead 127 = .ok (.lreturn, 1) := by decide +kernel
theorem dX11_lead_128 : decode cX11_lead 128 = .ok (.aload_n 0, 1) := by decide +kernel
theorem dX11_lead_129 : decode cX11_lead 129 = .ok (.getfield 83, 3) := by decide +kernel
theorem dX11_lead_132 : decode cX11_lead 132 = .ok (.iconst 0, 1) := by decide +kernel
theorem dX11_lead_133 : decode cX11_lead 133 = .ok (.iload 4, 2) := by decide +kernel
theorem dX11_lead_135 : decode cX11_lead 135 = .ok (.invokevirtual 291, 3) := by decide +kernel
theorem dX11_lead_138 : decode cX11_lead 138 = .ok (.lreturn, 1) := by decide +kernel
theorem dX11_lead_139 : decode cX11_lead 139 = .ok (.aload_n 0, 1) := by decide +kernel
theorem dX11_lead_140 : decode cX11_lead 140 = .ok (.getfield 83, 3) := by decide +kernel
theorem dX11_lead_143 : decode cX11_lead 143 = .ok (.iconst 1, 1) := by decide +kernel
theorem dX11_lead_144 : decode cX11_lead 144 = .ok (.iload 4, 2) := by decide +kernel
theorem dX11_lead_146 : decode cX11_lead 146 = .ok (.invokevirtual 291, 3) := by decide +kernel
theorem dX11_lead_149 : decode cX11_lead 149 = .ok (.lreturn, 1) := by decide +kernel
theorem dX11_lead_150 : decode cX11_lead 150 = .ok (.aload_n 0, 1) := by decide +kernel
theorem dX11_lead_151 : decode cX11_lead 151 = .ok (.getfield 83, 3) := by decide +kernel
theorem dX11_lead_154 : decode cX11_lead 154 = .ok (.iconst 0, 1) := by decide +kernel
theorem dX11_lead_155 : decode cX11_lead 155 = .ok (.iload 4, 2) := by decide +kernel
theorem dX11_lead_157 : decode cX11_lead 157 = .ok (.invokevirtual 291, 3) := by decide +kernel
theorem dX11_lead_160 : decode cX11_lead 160 = .ok (.aload_n 0, 1) := by decide +kernel
theorem dX11_lead_161 : decode cX11_lead 161 = .ok (.getfield 83, 3) := by decide +kernel
theorem dX11_lead_164 : decode cX11_lead 164 = .ok (.iconst 0, 1) := by decide +kernel
theorem dX11_lead_165 : decode cX11_lead 165 = .ok (.iload 5, 2) := by decide +kernel
theorem dX11_lead_167 : decode cX11_lead 167 = .ok (.invokevirtual 291, 3) := by decide +kernel
theorem dX11_lead_170 : decode cX11_lead 170 = .ok (.lsub, 1) := by decide +kernel
theorem dX11_lead_171 : decode cX11_lead 171 = .ok (.lreturn, 1) := by decide +kernel
theorem dX11_prices_0 : decode cX11_prices 0 = .ok (.aload_n 0, 1) := by decide +kernel
theorem dX11_prices_1 : decode cX11_prices 1 = .ok (.iload_n 1, 1) := by decide +kernel
theorem dX11_prices_2 : decode cX11_prices 2 = .ok (.iload_n 2, 1) := by decide +kernel
theorem dX11_prices_3 : decode cX11_prices 3 = .ok (.invokevirtual 260, 3) := by decide +kernel
theorem dX11_prices_6 : decode cX11_prices 6 = .ok (.ifCond .eq 8, 3) := by decide +kernel
theorem dX11_prices_9 : decode cX11_prices 9 = .ok (.iload_n 3, 1) := by decide +kernel
theorem dX11_prices_10 : decode cX11_prices 10 = .ok (.iconst (-1), 1) := by decide +kernel
theorem dX11_prices_11 : decode cX11_prices 11 = .ok (.if_icmp .ge 5, 3) := by decide +kernel
theorem dX11_prices_14 : decode cX11_prices 14 = .ok (.iconst (-1), 1) := by decide +kernel
theorem dX11_prices_15 : decode cX11_prices 15 = .ok (.ireturn, 1) := by decide +kernel
theorem dX11_prices_16 : decode cX11_prices 16 = .ok (.aload_n 0, 1) := by decide +kernel
theorem dX11_prices_17 : decode cX11_prices 17 = .ok (.getfield 90, 3) := by decide +kernel
theorem dX11_prices_20 : decode cX11_prices 20 = .ok (.aload_n 0, 1) := by decide +kernel
theorem dX11_prices_21 : decode cX11_prices 21 = .ok (.getfield 104, 3) := by decide +kernel
theorem dX11_prices_24 : decode cX11_prices 24 = .ok (.iload_n 1, 1) := by decide +kernel
theorem dX11_prices_25 : decode cX11_prices 25 = .ok (.iload_n 2, 1) := by decide +kernel
theorem dX11_prices_26 : decode cX11_prices 26 = .ok (.invokevirtual 295, 3) := by decide +kernel
theorem dX11_prices_29 : decode cX11_prices 29 = .ok (.iload_n 3, 1) := by decide +kernel
theorem dX11_prices_30 : decode cX11_prices 30 = .ok (.iconst (-1), 1) := by decide +kernel
theorem dX11_prices_31 : decode cX11_prices 31 = .ok (.if_icmp .ne 11, 3) := by decide +kernel
theorem dX11_prices_34 : decode cX11_prices 34 = .ok (.aload_n 0, 1) := by decide +kernel
theorem dX11_prices_35 : decode cX11_prices 35 = .ok (.getfield 90, 3) := by decide +kernel
theorem dX11_prices_38 : decode cX11_prices 38 = .ok (.getfield 298, 3) := by decide +kernel
theorem dX11_prices_41 : decode cX11_prices 41 = .ok (.ireturn, 1) := by decide +kernel
theorem dX11_prices_42 : decode cX11_prices 42 = .ok (.iload_n 3, 1) := by decide +kernel
theorem dX11_prices_43 : decode cX11_prices 43 = .ok (.aload_n 0, 1) := by decide +kernel
theorem dX11_prices_44 : decode cX11_prices 44 = .ok (.getfield 90, 3) := by decide +kernel
theorem dX11_prices_47 : decode cX11_prices 47 = .ok (.getfield 298, 3) := by decide +kernel
theorem dX11_prices_50 : decode cX11_prices 50 = .ok (.if_icmp .ge 14, 3) := by decide +kernel
theorem dX11_prices_53 : decode cX11_prices 53 = .ok (.aload_n 0, 1) := by decide +kernel
theorem dX11_prices_54 : decode cX11_prices 54 = .ok (.getfield 90, 3) := by decide +kernel
theorem dX11_prices_57 : decode cX11_prices 57 = .ok (.iload_n 3, 1) := by decide +kernel
theorem dX11_prices_58 : decode cX11_prices 58 = .ok (.invokevirtual 299, 3) := by decide +kernel
theorem dX11_prices_61 : decode cX11_prices 61 = .ok (.goto 4, 3) := by decide +kernel
theorem dX11_prices_64 : decode cX11_prices 64 = .ok (.iconst (-1), 1) := by decide +kernel
theorem dX11_prices_65 : decode cX11_prices 65 = .ok (.ireturn, 1) := by decide +kernel
theorem dX11_stage_0 : decode cX11_stage 0 = .ok (.aload_n 0, 1) := by decide +kernel
theorem dX11_stage_1 : decode cX11_stage 1 = .ok (.iload_n 1, 1) := by decide +kernel
theorem dX11_stage_2 : decode cX11_stage 2 = .ok (.iload_n 2, 1) := by decide +kernel
theorem dX11_stage_3 : decode cX11_stage 3 = .ok (.invokevirtual 260, 3) := by decide +kernel
theorem dX11_stage_6 : decode cX11_stage 6 = .ok (.ifCond .eq 24, 3) := by decide +kernel
theorem dX11_stage_9 : decode cX11_stage 9 = .ok (.aload_n 0, 1) := by decide +kernel
theorem dX11_stage_10 : decode cX11_stage 10 = .ok (.iload_n 3, 1) := by decide +kernel
theorem dX11_stage_11 : decode cX11_stage 11 = .ok (.iload 4, 2) := by decide +kernel
theorem dX11_stage_13 : decode cX11_stage 13 = .ok (.invokevirtual 276, 3) := by decide +kernel
theorem dX11_stage_16 : decode cX11_stage 16 = .ok (.ifCond .eq 14, 3) := by decide +kernel
theorem dX11_stage_19 : decode cX11_stage 19 = .ok (.iload 5, 2) := by decide +kernel
theorem dX11_stage_21 : decode cX11_stage 21 = .ok (.ifCond .lt 9, 3) := by decide +kernel
theorem dX11_stage_24 : decode cX11_stage 24 = .ok (.iload 5, 2) := by decide +kernel
theorem dX11_stage_26 : decode cX11_stage 26 = .ok (.iconst 2, 1) := by decide +kernel
theorem dX11_stage_27 : decode cX11_stage 27 = .ok (.if_icmp .le 5, 3) := by decide +kernel
theorem dX11_stage_30 : decode cX11_stage 30 = .ok (.iconst (-1), 1) := by decide +kernel
theorem dX11_stage_31 : decode cX11_stage 31 = .ok (.ireturn, 1) := by decide +kernel
theorem dX11_stage_32 : decode cX11_stage 32 = .ok (.aload_n 0, 1) := by decide +kernel
theorem dX11_stage_33 : decode cX11_stage 33 = .ok (.getfield 90, 3) := by decide +kernel
theorem dX11_stage_36 : decode cX11_stage 36 = .ok (.iload_n 1, 1) := by decide +kernel
theorem dX11_stage_37 : decode cX11_stage 37 = .ok (.iload_n 2, 1) := by decide +kernel
theorem dX11_stage_38 : decode cX11_stage 38 = .ok (.iload_n 3, 1) := by decide +kernel
theorem dX11_stage_39 : decode cX11_stage 39 = .ok (.iload 4, 2) := by decide +kernel
theorem dX11_stage_41 : decode cX11_stage 41 = .ok (.invokevirtual 302, 3) := by decide +kernel
theorem dX11_stage_44 : decode cX11_stage 44 = .ok (.istore 6, 2) := by decide +kernel
theorem dX11_stage_46 : decode cX11_stage 46 = .ok (.iload 6, 2) := by decide +kernel
theorem dX11_stage_48 : decode cX11_stage 48 = .ok (.iconst (-1), 1) := by decide +kernel
theorem dX11_stage_49 : decode cX11_stage 49 = .ok (.if_icmp .eq 8, 3) := by decide +kernel
theorem dX11_stage_52 : decode cX11_stage 52 = .ok (.iload 5, 2) := by decide +kernel
theorem dX11_stage_54 : decode cX11_stage 54 = .ok (.ifCond .ne 6, 3) := by decide +kernel
theorem dX11_stage_57 : decode cX11_stage 57 = .ok (.iload 6, 2) := by decide +kernel
theorem dX11_stage_59 : decode cX11_stage 59 = .ok (.ireturn, 1) := by decide +kernel
theorem dX11_stage_60 : decode cX11_stage 60 = .ok (.iload 5, 2) := by decide +kernel
theorem dX11_stage_62 : decode cX11_stage 62 = .ok (.iconst 1, 1) := by decide +kernel
theorem dX11_stage_63 : decode cX11_stage 63 = .ok (.if_icmp .ne 19, 3) := by decide +kernel
theorem dX11_stage_66 : decode cX11_stage 66 = .ok (.aload_n 0, 1) := by decide +kernel
theorem dX11_stage_67 : decode cX11_stage 67 = .ok (.getfield 90, 3) := by decide +kernel
theorem dX11_stage_70 : decode cX11_stage 70 = .ok (.getfield 306, 3) := by decide +kernel
theorem dX11_stage_73 : decode cX11_stage 73 = .ok (.iload 6, 2) := by decide +kernel
theorem dX11_stage_75 : decode cX11_stage 75 = .ok (.iaload, 1) := by decide +kernel
theorem dX11_stage_76 : decode cX11_stage 76 = .ok (.bipush 100, 2) := by decide +kernel
theorem dX11_stage_78 : decode cX11_stage 78 = .ok (.idiv, 1) := by decide +kernel
theorem dX11_stage_79 : decode cX11_stage 79 = .ok (.goto 16, 3) := by decide +kernel
theorem dX11_stage_82 : decode cX11_stage 82 = .ok (.aload_n 0, 1) := by decide +kernel
theorem dX11_stage_83 : decode cX11_stage 83 = .ok (.getfield 90, 3) := by decide +kernel
theorem dX11_stage_86 : decode cX11_stage 86 = .ok (.getfield 306, 3) := by decide +kernel
theorem dX11_stage_89 : decode cX11_stage 89 = .ok (.iload 6, 2) := by decide +kernel
theorem dX11_stage_91 : decode cX11_stage 91 = .ok (.iaload, 1) := by decide +kernel
theorem dX11_stage_92 : decode cX11_stage 92 = .ok (.bipush 100, 2) := by decide +kernel
theorem dX11_stage_94 : decode cX11_stage 94 = .ok (.irem, 1) := by decide +kernel
theorem dX11_stage_95 : decode cX11_stage 95 = .ok (.ireturn, 1) := by decide +kernel
theorem dX11_walk_0 : decode cX11_walk 0 = .ok (.aload_n 0, 1) := by decide +kernel
theorem dX11_walk_1 : decode cX11_walk 1 = .ok (.getfield 19, 3) := by decide +kernel
theorem dX11_walk_4 : decode cX11_walk 4 = .ok (.iload_n 1, 1) := by decide +kernel
theorem dX11_walk_5 : decode cX11_walk 5 = .ok (.invokevirtual 172, 3) := by decide +kernel
theorem dX11_walk_8 : decode cX11_walk 8 = .ok (.ifCond .eq 19, 3) := by decide +kernel
theorem dX11_walk_11 : decode cX11_walk 11 = .ok (.iload_n 2, 1) := by decide +kernel
theorem dX11_walk_12 : decode cX11_walk 12 = .ok (.iconst (-1), 1) := by decide +kernel
theorem dX11_walk_13 : decode cX11_walk 13 = .ok (.if_icmp .eq 18, 3) := by decide +kernel
theorem dX11_walk_16 : decode cX11_walk 16 = .ok (.aload_n 0, 1) := by decide +kernel
theorem dX11_walk_17 : decode cX11_walk 17 = .ok (.getfield 19, 3) := by decide +kernel
theorem dX11_walk_20 : decode cX11_walk 20 = .ok (.iload_n 2, 1) := by decide +kernel
theorem dX11_walk_21 : decode cX11_walk 21 = .ok (.invokevirtual 172, 3) := by decide +kernel
theorem dX11_walk_24 : decode cX11_walk 24 = .ok (.ifCond .ne 7, 3) := by decide +kernel
theorem dX11_walk_27 : decode cX11_walk 27 = .ok (.ldc2_w 207, 3) := by decide +kernel
theorem dX11_walk_30 : decode cX11_walk 30 = .ok (.lreturn, 1) := by decide +kernel
theorem dX11_walk_31 : decode cX11_walk 31 = .ok (.aload_n 0, 1) := by decide +kernel
theorem dX11_walk_32 : decode cX11_walk 32 = .ok (.getfield 65, 3) := by decide +kernel
theorem dX11_walk_35 : decode cX11_walk 35 = .ok (.iload_n 1, 1) := by decide +kernel
theorem dX11_walk_36 : decode cX11_walk 36 = .ok (.iload_n 2, 1) := by decide +kernel
theorem dX11_walk_37 : decode cX11_walk 37 = .ok (.invokevirtual 309, 3) := by decide +kernel
theorem dX11_walk_40 : decode cX11_walk 40 = .ok (.lreturn, 1) := by decide +kernel
theorem dX11_own_0 : decode cX11_own 0 = .ok (.iload_n 1, 1) := by decide +kernel
theorem dX11_own_1 : decode cX11_own 1 = .ok (.iconst 1, 1) := by decide +kernel
theorem dX11_own_2 : decode cX11_own 2 = .ok (.if_icmp .lt 17, 3) := by decide +kernel
theorem dX11_own_5 : decode cX11_own 5 = .ok (.iload_n 1, 1) := by decide +kernel
theorem dX11_own_6 : decode cX11_own 6 = .ok (.iconst 2, 1) := by decide +kernel
theorem dX11_own_7 : decode cX11_own 7 = .ok (.if_icmp .gt 12, 3) := by decide +kernel
theorem dX11_own_10 : decode cX11_own 10 = .ok (.iload_n 2, 1) := by decide +kernel
theorem dX11_own_11 : decode cX11_own 11 = .ok (.ifCond .lt 8, 3) := by decide +kernel
theorem dX11_own_14 : decode cX11_own 14 = .ok (.iload_n 2, 1) := by decide +kernel
theorem dX11_own_15 : decode cX11_own 15 = .ok (.iload_n 1, 1) := by decide +kernel
theorem dX11_own_16 : decode cX11_own 16 = .ok (.if_icmp .le 7, 3) := by decide +kernel
theorem dX11_own_19 : decode cX11_own 19 = .ok (.ldc2_w 207, 3) := by decide +kernel
theorem dX11_own_22 : decode cX11_own 22 = .ok (.lreturn, 1) := by decide +kernel
theorem dX11_own_23 : decode cX11_own 23 = .ok (.aload_n 0, 1) := by decide +kernel
theorem dX11_own_24 : decode cX11_own 24 = .ok (.getfield 65, 3) := by decide +kernel
theorem dX11_own_27 : decode cX11_own 27 = .ok (.iload_n 1, 1) := by decide +kernel
theorem dX11_own_28 : decode cX11_own 28 = .ok (.invokevirtual 312, 3) := by decide +kernel
theorem dX11_own_31 : decode cX11_own 31 = .ok (.iload_n 2, 1) := by decide +kernel
theorem dX11_own_32 : decode cX11_own 32 = .ok (.ifCond .ne 11, 3) := by decide +kernel
theorem dX11_own_35 : decode cX11_own 35 = .ok (.aload_n 0, 1) := by decide +kernel
theorem dX11_own_36 : decode cX11_own 36 = .ok (.getfield 65, 3) := by decide +kernel
theorem dX11_own_39 : decode cX11_own 39 = .ok (.getfield 315, 3) := by decide +kernel
theorem dX11_own_42 : decode cX11_own 42 = .ok (.lreturn, 1) := by decide +kernel
theorem dX11_own_43 : decode cX11_own 43 = .ok (.iload_n 2, 1) := by decide +kernel
theorem dX11_own_44 : decode cX11_own 44 = .ok (.iconst 1, 1) := by decide +kernel
theorem dX11_own_45 : decode cX11_own 45 = .ok (.if_icmp .ne 14, 3) := by decide +kernel
theorem dX11_own_48 : decode cX11_own 48 = .ok (.aload_n 0, 1) := by decide +kernel
theorem dX11_own_49 : decode cX11_own 49 = .ok (.getfield 65, 3) := by decide +kernel
theorem dX11_own_52 : decode cX11_own 52 = .ok (.getfield 318, 3) := by decide +kernel
theorem dX11_own_55 : decode cX11_own 55 = .ok (.i2l, 1) := by decide +kernel
theorem dX11_own_56 : decode cX11_own 56 = .ok (.goto 11, 3) := by decide +kernel
theorem dX11_own_59 : decode cX11_own 59 = .ok (.aload_n 0, 1) := by decide +kernel
theorem dX11_own_60 : decode cX11_own 60 = .ok (.getfield 65, 3) := by decide +kernel
theorem dX11_own_63 : decode cX11_own 63 = .ok (.getfield 321, 3) := by decide +kernel
theorem dX11_own_66 : decode cX11_own 66 = .ok (.i2l, 1) := by decide +kernel
theorem dX11_own_67 : decode cX11_own 67 = .ok (.lreturn, 1) := by decide +kernel
theorem dX11_loss_0 : decode cX11_loss 0 = .ok (.aload_n 0, 1) := by decide +kernel
theorem dX11_loss_1 : decode cX11_loss 1 = .ok (.getfield 45, 3) := by decide +kernel
theorem dX11_loss_4 : decode cX11_loss 4 = .ok (.getfield 186, 3) := by decide +kernel
theorem dX11_loss_7 : decode cX11_loss 7 = .ok (.ifCond .ne 7, 3) := by decide +kernel
theorem dX11_loss_10 : decode cX11_loss 10 = .ok (.ldc2_w 283, 3) := by decide +kernel
theorem dX11_loss_13 : decode cX11_loss 13 = .ok (.lreturn, 1) := by decide +kernel
theorem dX11_loss_14 : decode cX11_loss 14 = .ok (.aload_n 0, 1) := by decide +kernel
theorem dX11_loss_15 : decode cX11_loss 15 = .ok (.getfield 65, 3) := by decide +kernel
theorem dX11_loss_18 : decode cX11_loss 18 = .ok (.aload_n 0, 1) := by decide +kernel
theorem dX11_loss_19 : decode cX11_loss 19 = .ok (.getfield 45, 3) := by decide +kernel
theorem dX11_loss_22 : decode cX11_loss 22 = .ok (.invokevirtual 324, 3) := by decide +kernel
theorem dX11_loss_25 : decode cX11_loss 25 = .ok (.lstore_n 1, 1) := by decide +kernel
theorem dX11_loss_26 : decode cX11_loss 26 = .ok (.aload_n 0, 1) := by decide +kernel
theorem dX11_loss_27 : decode cX11_loss 27 = .ok (.getfield 65, 3) := by decide +kernel
theorem dX11_loss_30 : decode cX11_loss 30 = .ok (.aload_n 0, 1) := by decide +kernel
theorem dX11_loss_31 : decode cX11_loss 31 = .ok (.getfield 45, 3) := by decide +kernel
theorem dX11_loss_34 : decode cX11_loss 34 = .ok (.getfield 186, 3) := by decide +kernel
theorem dX11_loss_37 : decode cX11_loss 37 = .ok (.iconst 1, 1) := by decide +kernel
theorem dX11_loss_38 : decode cX11_loss 38 = .ok (.if_icmp .ne 7, 3) := by decide +kernel
theorem dX11_loss_41 : decode cX11_loss 41 = .ok (.iconst 1, 1) := by decide +kernel
theorem dX11_loss_42 : decode cX11_loss 42 = .ok (.goto 4, 3) := by decide +kernel
theorem dX11_loss_45 : decode cX11_loss 45 = .ok (.iconst 2, 1) := by decide +kernel
theorem dX11_loss_46 : decode cX11_loss 46 = .ok (.invokevirtual 312, 3) := by decide +kernel
theorem dX11_loss_49 : decode cX11_loss 49 = .ok (.lload_n 1, 1) := by decide +kernel
theorem dX11_loss_50 : decode cX11_loss 50 = .ok (.ldc2_w 207, 3) := by decide +kernel
theorem dX11_loss_53 : decode cX11_loss 53 = .ok (.lcmp, 1) := by decide +kernel
theorem dX11_loss_54 : decode cX11_loss 54 = .ok (.ifCond .eq 17, 3) := by decide +kernel
theorem dX11_loss_57 : decode cX11_loss 57 = .ok (.aload_n 0, 1) := by decide +kernel
theorem dX11_loss_58 : decode cX11_loss 58 = .ok (.getfield 65, 3) := by decide +kernel
theorem dX11_loss_61 : decode cX11_loss 61 = .ok (.getfield 315, 3) := by decide +kernel
theorem dX11_loss_64 : decode cX11_loss 64 = .ok (.ldc2_w 207, 3) := by decide +kernel
theorem dX11_loss_67 : decode cX11_loss 67 = .ok (.lcmp, 1) := by decide +kernel
theorem dX11_loss_68 : decode cX11_loss 68 = .ok (.ifCond .ne 9, 3) := by decide +kernel
theorem dX11_loss_71 : decode cX11_loss 71 = .ok (.ldc2_w 283, 3) := by decide +kernel
theorem dX11_loss_74 : decode cX11_loss 74 = .ok (.goto 12, 3) := by decide +kernel
theorem dX11_loss_77 : decode cX11_loss 77 = .ok (.lload_n 1, 1) := by decide +kernel
theorem dX11_loss_78 : decode cX11_loss 78 = .ok (.aload_n 0, 1) := by decide +kernel
theorem dX11_loss_79 : decode cX11_loss 79 = .ok (.getfield 65, 3) := by decide +kernel
theorem dX11_loss_82 : decode cX11_loss 82 = .ok (.getfield 315, 3) := by decide +kernel
theorem dX11_loss_85 : decode cX11_loss 85 = .ok (.lsub, 1) := by decide +kernel
theorem dX11_loss_86 : decode cX11_loss 86 = .ok (.lreturn, 1) := by decide +kernel
theorem dX11_bestLaw_0 : decode cX11_bestLaw 0 = .ok (.aload_n 0, 1) := by decide +kernel
theorem dX11_bestLaw_1 : decode cX11_bestLaw 1 = .ok (.iload_n 1, 1) := by decide +kernel
theorem dX11_bestLaw_2 : decode cX11_bestLaw 2 = .ok (.iload_n 2, 1) := by decide +kernel
theorem dX11_bestLaw_3 : decode cX11_bestLaw 3 = .ok (.invokevirtual 260, 3) := by decide +kernel
theorem dX11_bestLaw_6 : decode cX11_bestLaw 6 = .ok (.ifCond .eq 12, 3) := by decide +kernel
theorem dX11_bestLaw_9 : decode cX11_bestLaw 9 = .ok (.iload_n 3, 1) := by decide +kernel
theorem dX11_bestLaw_10 : decode cX11_bestLaw 10 = .ok (.ifCond .lt 8, 3) := by decide +kernel
theorem dX11_bestLaw_13 : decode cX11_bestLaw 13 = .ok (.iload_n 3, 1) := by decide +kernel
theorem dX11_bestLaw_14 : decode cX11_bestLaw 14 = .ok (.iconst 2, 1) := by decide +kernel
theorem dX11_bestLaw_15 : decode cX11_bestLaw 15 = .ok (.if_icmp .le 7, 3) := by decide +kernel
theorem dX11_bestLaw_18 : decode cX11_bestLaw 18 = .ok (.ldc2_w 207, 3) := by decide +kernel
theorem dX11_bestLaw_21 : decode cX11_bestLaw 21 = .ok (.lreturn, 1) := by decide +kernel
theorem dX11_bestLaw_22 : decode cX11_bestLaw 22 = .ok (.aload_n 0, 1) := by decide +kernel
theorem dX11_bestLaw_23 : decode cX11_bestLaw 23 = .ok (.getfield 83, 3) := by decide +kernel
theorem dX11_bestLaw_26 : decode cX11_bestLaw 26 = .ok (.aload_n 0, 1) := by decide +kernel
theorem dX11_bestLaw_27 : decode cX11_bestLaw 27 = .ok (.getfield 104, 3) := by decide +kernel
theorem dX11_bestLaw_30 : decode cX11_bestLaw 30 = .ok (.aload_n 0, 1) := by decide +kernel
theorem dX11_bestLaw_31 : decode cX11_bestLaw 31 = .ok (.getfield 29, 3) := by decide +kernel
theorem dX11_bestLaw_34 : decode cX11_bestLaw 34 = .ok (.iload_n 1, 1) := by decide +kernel
theorem dX11_bestLaw_35 : decode cX11_bestLaw 35 = .ok (.iload_n 2, 1) := by decide +kernel
theorem dX11_bestLaw_36 : decode cX11_bestLaw 36 = .ok (.invokevirtual 328, 3) := by decide +kernel
theorem dX11_bestLaw_39 : decode cX11_bestLaw 39 = .ok (.aload_n 0, 1) := by decide +kernel
theorem dX11_bestLaw_40 : decode cX11_bestLaw 40 = .ok (.getfield 83, 3) := by decide +kernel
theorem dX11_bestLaw_43 : decode cX11_bestLaw 43 = .ok (.getfield 332, 3) := by decide +kernel
theorem dX11_bestLaw_46 : decode cX11_bestLaw 46 = .ok (.iload_n 3, 1) := by decide +kernel
theorem dX11_bestLaw_47 : decode cX11_bestLaw 47 = .ok (.laload, 1) := by decide +kernel
theorem dX11_bestLaw_48 : decode cX11_bestLaw 48 = .ok (.lreturn, 1) := by decide +kernel
theorem dX11_shift_0 : decode cX11_shift 0 = .ok (.aload_n 0, 1) := by decide +kernel
theorem dX11_shift_1 : decode cX11_shift 1 = .ok (.getfield 19, 3) := by decide +kernel
theorem dX11_shift_4 : decode cX11_shift 4 = .ok (.iload_n 1, 1) := by decide +kernel
theorem dX11_shift_5 : decode cX11_shift 5 = .ok (.invokevirtual 162, 3) := by decide +kernel
theorem dX11_shift_8 : decode cX11_shift 8 = .ok (.ifCond .eq 24, 3) := by decide +kernel
theorem dX11_shift_11 : decode cX11_shift 11 = .ok (.aload_n 0, 1) := by decide +kernel
theorem dX11_shift_12 : decode cX11_shift 12 = .ok (.getfield 19, 3) := by decide +kernel
theorem dX11_shift_15 : decode cX11_shift 15 = .ok (.iload_n 2, 1) := by decide +kernel
theorem dX11_shift_16 : decode cX11_shift 16 = .ok (.invokevirtual 162, 3) := by decide +kernel
theorem dX11_shift_19 : decode cX11_shift 19 = .ok (.ifCond .eq 13, 3) := by decide +kernel
theorem dX11_shift_22 : decode cX11_shift 22 = .ok (.aload_n 0, 1) := by decide +kernel
theorem dX11_shift_23 : decode cX11_shift 23 = .ok (.getfield 45, 3) := by decide +kernel
theorem dX11_shift_26 : decode cX11_shift 26 = .ok (.getfield 186, 3) := by decide +kernel
theorem dX11_shift_29 : decode cX11_shift 29 = .ok (.ifCond .ne 5, 3) := by decide +kernel
theorem dX11_shift_32 : decode cX11_shift 32 = .ok (.iconst (-1), 1) := by decide +kernel
theorem dX11_shift_33 : decode cX11_shift 33 = .ok (.ireturn, 1) := by decide +kernel
theorem dX11_shift_34 : decode cX11_shift 34 = .ok (.aload_n 0, 1) := by decide +kernel
theorem dX11_shift_35 : decode cX11_shift 35 = .ok (.getfield 58, 3) := by decide +kernel
theorem dX11_shift_38 : decode cX11_shift 38 = .ok (.aload_n 0, 1) := by decide +kernel
theorem dX11_shift_39 : decode cX11_shift 39 = .ok (.getfield 45, 3) := by decide +kernel
theorem dX11_shift_42 : decode cX11_shift 42 = .ok (.invokevirtual 225, 3) := by decide +kernel
theorem dX11_shift_45 : decode cX11_shift 45 = .ok (.aload_n 0, 1) := by decide +kernel
theorem dX11_shift_46 : decode cX11_shift 46 = .ok (.getfield 74, 3) := by decide +kernel
theorem dX11_shift_49 : decode cX11_shift 49 = .ok (.iload_n 1, 1) := by decide +kernel
theorem dX11_shift_50 : decode cX11_shift 50 = .ok (.iload_n 2, 1) := by decide +kernel
theorem dX11_shift_51 : decode cX11_shift 51 = .ok (.invokevirtual 336, 3) := by decide +kernel
theorem dX11_shift_54 : decode cX11_shift 54 = .ok (.ireturn, 1) := by decide +kernel
theorem dX11_image_0 : decode cX11_image 0 = .ok (.aload_n 0, 1) := by decide +kernel
theorem dX11_image_1 : decode cX11_image 1 = .ok (.getfield 94, 3) := by decide +kernel
theorem dX11_image_4 : decode cX11_image 4 = .ok (.iconst 4, 1) := by decide +kernel
theorem dX11_image_5 : decode cX11_image 5 = .ok (.if_icmp .ge 13, 3) := by decide +kernel
theorem dX11_image_8 : decode cX11_image 8 = .ok (.aload_n 0, 1) := by decide +kernel
theorem dX11_image_9 : decode cX11_image 9 = .ok (.getfield 45, 3) := by decide +kernel
theorem dX11_image_12 : decode cX11_image 12 = .ok (.getfield 186, 3) := by decide +kernel
theorem dX11_image_15 : decode cX11_image 15 = .ok (.ifCond .ne 5, 3) := by decide +kernel
theorem dX11_image_18 : decode cX11_image 18 = .ok (.iconst (-1), 1) := by decide +kernel
theorem dX11_image_19 : decode cX11_image 19 = .ok (.ireturn, 1) := by decide +kernel
theorem dX11_image_20 : decode cX11_image 20 = .ok (.aload_n 0, 1) := by decide +kernel
theorem dX11_image_21 : decode cX11_image 21 = .ok (.getfield 49, 3) := by decide +kernel
theorem dX11_image_24 : decode cX11_image 24 = .ok (.aload_n 0, 1) := by decide +kernel
theorem dX11_image_25 : decode cX11_image 25 = .ok (.getfield 94, 3) := by decide +kernel
theorem dX11_image_28 : decode cX11_image 28 = .ok (.aaload, 1) := by decide +kernel
theorem dX11_image_29 : decode cX11_image 29 = .ok (.aload_n 0, 1) := by decide +kernel
theorem dX11_image_30 : decode cX11_image 30 = .ok (.getfield 45, 3) := by decide +kernel
theorem dX11_image_33 : decode cX11_image 33 = .ok (.invokevirtual 339, 3) := by decide +kernel
theorem dX11_image_36 : decode cX11_image 36 = .ok (.aload_n 0, 1) := by decide +kernel
theorem dX11_image_37 : decode cX11_image 37 = .ok (.dup, 1) := by decide +kernel
theorem dX11_image_38 : decode cX11_image 38 = .ok (.getfield 94, 3) := by decide +kernel
theorem dX11_image_41 : decode cX11_image 41 = .ok (.iconst 1, 1) := by decide +kernel
theorem dX11_image_42 : decode cX11_image 42 = .ok (.iadd, 1) := by decide +kernel
theorem dX11_image_43 : decode cX11_image 43 = .ok (.putfield 94, 3) := by decide +kernel
theorem dX11_image_46 : decode cX11_image 46 = .ok (.aload_n 0, 1) := by decide +kernel
theorem dX11_image_47 : decode cX11_image 47 = .ok (.getfield 94, 3) := by decide +kernel
theorem dX11_image_50 : decode cX11_image 50 = .ok (.iconst 1, 1) := by decide +kernel
theorem dX11_image_51 : decode cX11_image 51 = .ok (.isub, 1) := by decide +kernel
theorem dX11_image_52 : decode cX11_image 52 = .ok (.ireturn, 1) := by decide +kernel
theorem dX11_back_0 : decode cX11_back 0 = .ok (.iload_n 1, 1) := by decide +kernel
theorem dX11_back_1 : decode cX11_back 1 = .ok (.ifCond .lt 11, 3) := by decide +kernel
theorem dX11_back_4 : decode cX11_back 4 = .ok (.iload_n 1, 1) := by decide +kernel
theorem dX11_back_5 : decode cX11_back 5 = .ok (.aload_n 0, 1) := by decide +kernel
theorem dX11_back_6 : decode cX11_back 6 = .ok (.getfield 94, 3) := by decide +kernel
theorem dX11_back_9 : decode cX11_back 9 = .ok (.if_icmp .lt 5, 3) := by decide +kernel
theorem dX11_back_12 : decode cX11_back 12 = .ok (.iconst 0, 1) := by decide +kernel
theorem dX11_back_13 : decode cX11_back 13 = .ok (.ireturn, 1) := by decide +kernel
theorem dX11_back_14 : decode cX11_back 14 = .ok (.aload_n 0, 1) := by decide +kernel
theorem dX11_back_15 : decode cX11_back 15 = .ok (.getfield 45, 3) := by decide +kernel
theorem dX11_back_18 : decode cX11_back 18 = .ok (.aload_n 0, 1) := by decide +kernel
theorem dX11_back_19 : decode cX11_back 19 = .ok (.getfield 49, 3) := by decide +kernel
theorem dX11_back_22 : decode cX11_back 22 = .ok (.iload_n 1, 1) := by decide +kernel
theorem dX11_back_23 : decode cX11_back 23 = .ok (.aaload, 1) := by decide +kernel
theorem dX11_back_24 : decode cX11_back 24 = .ok (.invokevirtual 339, 3) := by decide +kernel
theorem dX11_back_27 : decode cX11_back 27 = .ok (.aload_n 0, 1) := by decide +kernel
theorem dX11_back_28 : decode cX11_back 28 = .ok (.invokevirtual 134, 3) := by decide +kernel
theorem dX11_back_31 : decode cX11_back 31 = .ok (.iconst 1, 1) := by decide +kernel
theorem dX11_back_32 : decode cX11_back 32 = .ok (.ireturn, 1) := by decide +kernel
theorem dX11_count_0 : decode cX11_count 0 = .ok (.iload_n 1, 1) := by decide +kernel
theorem dX11_count_1 : decode cX11_count 1 = .ok (.tableswitch 116 0 7 #[47, 52, 60, 68, 76, 81, 89, 97], 47) := by decide +kernel
theorem dX11_count_48 : decode cX11_count 48 = .ok (.aload_n 0, 1) := by decide +kernel
theorem dX11_count_49 : decode cX11_count 49 = .ok (.getfield 101, 3) := by decide +kernel
theorem dX11_count_52 : decode cX11_count 52 = .ok (.ireturn, 1) := by decide +kernel
theorem dX11_count_53 : decode cX11_count 53 = .ok (.aload_n 0, 1) := by decide +kernel
theorem dX11_count_54 : decode cX11_count 54 = .ok (.getfield 45, 3) := by decide +kernel
theorem dX11_count_57 : decode cX11_count 57 = .ok (.getfield 186, 3) := by decide +kernel
theorem dX11_count_60 : decode cX11_count 60 = .ok (.ireturn, 1) := by decide +kernel
theorem dX11_count_61 : decode cX11_count 61 = .ok (.aload_n 0, 1) := by decide +kernel
theorem dX11_count_62 : decode cX11_count 62 = .ok (.getfield 29, 3) := by decide +kernel
theorem dX11_count_65 : decode cX11_count 65 = .ok (.getfield 131, 3) := by decide +kernel
theorem dX11_count_68 : decode cX11_count 68 = .ok (.ireturn, 1) := by decide +kernel
theorem dX11_count_69 : decode cX11_count 69 = .ok (.aload_n 0, 1) := by decide +kernel
theorem dX11_count_70 : decode cX11_count 70 = .ok (.getfield 45, 3) := by decide +kernel
theorem dX11_count_73 : decode cX11_count 73 = .ok (.getfield 179, 3) := by decide +kernel
theorem dX11_count_76 : decode cX11_count 76 = .ok (.ireturn, 1) := by decide +kernel
theorem dX11_count_77 : decode cX11_count 77 = .ok (.aload_n 0, 1) := by decide +kernel
theorem dX11_count_78 : decode cX11_count 78 = .ok (.getfield 94, 3) := by decide +kernel
theorem dX11_count_81 : decode cX11_count 81 = .ok (.ireturn, 1) := by decide +kernel
theorem dX11_count_82 : decode cX11_count 82 = .ok (.aload_n 0, 1) := by decide +kernel
theorem dX11_count_83 : decode cX11_count 83 = .ok (.getfield 10, 3) := by decide +kernel
theorem dX11_count_86 : decode cX11_count 86 = .ok (.getfield 111, 3) := by decide +kernel
theorem dX11_count_89 : decode cX11_count 89 = .ok (.ireturn, 1) := by decide +kernel
theorem dX11_count_90 : decode cX11_count 90 = .ok (.aload_n 0, 1) := by decide +kernel
theorem dX11_count_91 : decode cX11_count 91 = .ok (.getfield 38, 3) := by decide +kernel
theorem dX11_count_94 : decode cX11_count 94 = .ok (.invokevirtual 341, 3) := by decide +kernel
theorem dX11_count_97 : decode cX11_count 97 = .ok (.ireturn, 1) := by decide +kernel
theorem dX11_count_98 : decode cX11_count 98 = .ok (.bipush 24, 2) := by decide +kernel
theorem dX11_count_100 : decode cX11_count 100 = .ok (.aload_n 0, 1) := by decide +kernel
theorem dX11_count_101 : decode cX11_count 101 = .ok (.getfield 19, 3) := by decide +kernel
theorem dX11_count_104 : decode cX11_count 104 = .ok (.getfield 344, 3) := by decide +kernel
theorem dX11_count_107 : decode cX11_count 107 = .ok (.imul, 1) := by decide +kernel
theorem dX11_count_108 : decode cX11_count 108 = .ok (.aload_n 0, 1) := by decide +kernel
theorem dX11_count_109 : decode cX11_count 109 = .ok (.getfield 38, 3) := by decide +kernel
theorem dX11_count_112 : decode cX11_count 112 = .ok (.invokevirtual 347, 3) := by decide +kernel
theorem dX11_count_115 : decode cX11_count 115 = .ok (.imul, 1) := by decide +kernel
theorem dX11_count_116 : decode cX11_count 116 = .ok (.ireturn, 1) := by decide +kernel
theorem dX11_count_117 : decode cX11_count 117 = .ok (.iconst (-1), 1) := by decide +kernel
theorem dX11_count_118 : decode cX11_count 118 = .ok (.ireturn, 1) := by decide +kernel
theorem dX11_changeRoads_0 : decode cX11_changeRoads 0 = .ok (.aload_n 0, 1) := by decide +kernel
theorem dX11_changeRoads_1 : decode cX11_changeRoads 1 = .ok (.getfield 38, 3) := by decide +kernel
theorem dX11_changeRoads_4 : decode cX11_changeRoads 4 = .ok (.aload_n 0, 1) := by decide +kernel
theorem dX11_changeRoads_5 : decode cX11_changeRoads 5 = .ok (.getfield 29, 3) := by decide +kernel
theorem dX11_changeRoads_8 : decode cX11_changeRoads 8 = .ok (.aload_n 0, 1) := by decide +kernel
theorem dX11_changeRoads_9 : decode cX11_changeRoads 9 = .ok (.getfield 45, 3) := by decide +kernel
theorem dX11_changeRoads_12 : decode cX11_changeRoads 12 = .ok (.getfield 179, 3) := by decide +kernel
theorem dX11_changeRoads_15 : decode cX11_changeRoads 15 = .ok (.invokevirtual 107, 3) := by decide +kernel
theorem dX11_changeRoads_18 : decode cX11_changeRoads 18 = .ok (.aload_n 0, 1) := by decide +kernel
theorem dX11_changeRoads_19 : decode cX11_changeRoads 19 = .ok (.dup, 1) := by decide +kernel
theorem dX11_changeRoads_20 : decode cX11_changeRoads 20 = .ok (.getfield 104, 3) := by decide +kernel
theorem dX11_changeRoads_23 : decode cX11_changeRoads 23 = .ok (.iconst 1, 1) := by decide +kernel
theorem dX11_changeRoads_24 : decode cX11_changeRoads 24 = .ok (.iadd, 1) := by decide +kernel
theorem dX11_changeRoads_25 : decode cX11_changeRoads 25 = .ok (.putfield 104, 3) := by decide +kernel
theorem dX11_changeRoads_28 : decode cX11_changeRoads 28 = .ok (.return_, 1) := by decide +kernel
theorem dX11_sellToAll_0 : decode cX11_sellToAll 0 = .ok (.aload_n 0, 1) := by decide +kernel
theorem dX11_sellToAll_1 : decode cX11_sellToAll 1 = .ok (.getfield 58, 3) := by decide +kernel
theorem dX11_sellToAll_4 : decode cX11_sellToAll 4 = .ok (.aload_n 0, 1) := by decide +kernel
theorem dX11_sellToAll_5 : decode cX11_sellToAll 5 = .ok (.getfield 45, 3) := by decide +kernel
theorem dX11_sellToAll_8 : decode cX11_sellToAll 8 = .ok (.invokevirtual 225, 3) := by decide +kernel
theorem dX11_sellToAll_11 : decode cX11_sellToAll 11 = .ok (.aload_n 0, 1) := by decide +kernel
theorem dX11_sellToAll_12 : decode cX11_sellToAll 12 = .ok (.getfield 58, 3) := by decide +kernel
theorem dX11_sellToAll_15 : decode cX11_sellToAll 15 = .ok (.invokevirtual 350, 3) := by decide +kernel
theorem dX11_sellToAll_18 : decode cX11_sellToAll 18 = .ok (.return_, 1) := by decide +kernel
theorem dX11_canStand_0 : decode cX11_canStand 0 = .ok (.aload_n 0, 1) := by decide +kernel
theorem dX11_canStand_1 : decode cX11_canStand 1 = .ok (.getfield 19, 3) := by decide +kernel
theorem dX11_canStand_4 : decode cX11_canStand 4 = .ok (.iload_n 1, 1) := by decide +kernel
theorem dX11_canStand_5 : decode cX11_canStand 5 = .ok (.invokevirtual 172, 3) := by decide +kernel
theorem dX11_canStand_8 : decode cX11_canStand 8 = .ok (.ifCond .eq 29, 3) := by decide +kernel
theorem dX11_canStand_11 : decode cX11_canStand 11 = .ok (.iload_n 2, 1) := by decide +kernel
theorem dX11_canStand_12 : decode cX11_canStand 12 = .ok (.aload_n 0, 1) := by decide +kernel
theorem dX11_canStand_13 : decode cX11_canStand 13 = .ok (.getfield 19, 3) := by decide +kernel
theorem dX11_canStand_16 : decode cX11_canStand 16 = .ok (.getfield 353, 3) := by decide +kernel
theorem dX11_canStand_19 : decode cX11_canStand 19 = .ok (.if_icmp .lt 18, 3) := by decide +kernel
theorem dX11_canStand_22 : decode cX11_canStand 22 = .ok (.iload_n 2, 1) := by decide +kernel
theorem dX11_canStand_23 : decode cX11_canStand 23 = .ok (.aload_n 0, 1) := by decide +kernel
theorem dX11_canStand_24 : decode cX11_canStand 24 = .ok (.getfield 19, 3) := by decide +kernel
theorem dX11_canStand_27 : decode cX11_canStand 27 = .ok (.getfield 356, 3) := by decide +kernel
theorem dX11_canStand_30 : decode cX11_canStand 30 = .ok (.if_icmp .gt 7, 3) := by decide +kernel
theorem dX11_canStand_33 : decode cX11_canStand 33 = .ok (.iconst 1, 1) := by decide +kernel
theorem dX11_canStand_34 : decode cX11_canStand 34 = .ok (.goto 4, 3) := by decide +kernel
theorem dX11_canStand_37 : decode cX11_canStand 37 = .ok (.iconst 0, 1) := by decide +kernel
theorem dX11_canStand_38 : decode cX11_canStand 38 = .ok (.ireturn, 1) := by decide +kernel
theorem dX11_isPair_0 : decode cX11_isPair 0 = .ok (.aload_n 0, 1) := by decide +kernel
theorem dX11_isPair_1 : decode cX11_isPair 1 = .ok (.getfield 45, 3) := by decide +kernel
theorem dX11_isPair_4 : decode cX11_isPair 4 = .ok (.iload_n 1, 1) := by decide +kernel
theorem dX11_isPair_5 : decode cX11_isPair 5 = .ok (.invokevirtual 202, 3) := by decide +kernel
theorem dX11_isPair_8 : decode cX11_isPair 8 = .ok (.ifCond .eq 23, 3) := by decide +kernel
theorem dX11_isPair_11 : decode cX11_isPair 11 = .ok (.aload_n 0, 1) := by decide +kernel
theorem dX11_isPair_12 : decode cX11_isPair 12 = .ok (.getfield 45, 3) := by decide +kernel
theorem dX11_isPair_15 : decode cX11_isPair 15 = .ok (.iload_n 2, 1) := by decide +kernel
theorem dX11_isPair_16 : decode cX11_isPair 16 = .ok (.invokevirtual 202, 3) := by decide +kernel
theorem dX11_isPair_19 : decode cX11_isPair 19 = .ok (.ifCond .eq 12, 3) := by decide +kernel
theorem dX11_isPair_22 : decode cX11_isPair 22 = .ok (.iload_n 1, 1) := by decide +kernel
theorem dX11_isPair_23 : decode cX11_isPair 23 = .ok (.iload_n 2, 1) := by decide +kernel
theorem dX11_isPair_24 : decode cX11_isPair 24 = .ok (.if_icmp .eq 7, 3) := by decide +kernel
theorem dX11_isPair_27 : decode cX11_isPair 27 = .ok (.iconst 1, 1) := by decide +kernel
theorem dX11_isPair_28 : decode cX11_isPair 28 = .ok (.goto 4, 3) := by decide +kernel
theorem dX11_isPair_31 : decode cX11_isPair 31 = .ok (.iconst 0, 1) := by decide +kernel
theorem dX11_isPair_32 : decode cX11_isPair 32 = .ok (.ireturn, 1) := by decide +kernel
theorem dX11_areTwoCorners_0 : decode cX11_areTwoCorners 0 = .ok (.aload_n 0, 1) := by decide +kernel
theorem dX11_areTwoCorners_1 : decode cX11_areTwoCorners 1 = .ok (.getfield 19, 3) := by decide +kernel
theorem dX11_areTwoCorners_4 : decode cX11_areTwoCorners 4 = .ok (.iload_n 1, 1) := by decide +kernel
theorem dX11_areTwoCorners_5 : decode cX11_areTwoCorners 5 = .ok (.invokevirtual 162, 3) := by decide +kernel
theorem dX11_areTwoCorners_8 : decode cX11_areTwoCorners 8 = .ok (.ifCond .eq 23, 3) := by decide +kernel
theorem dX11_areTwoCorners_11 : decode cX11_areTwoCorners 11 = .ok (.aload_n 0, 1) := by decide +kernel
theorem dX11_areTwoCorners_12 : decode cX11_areTwoCorners 12 = .ok (.getfield 19, 3) := by decide +kernel
theorem dX11_areTwoCorners_15 : decode cX11_areTwoCorners 15 = .ok (.iload_n 2, 1) := by decide +kernel
theorem dX11_areTwoCorners_16 : decode cX11_areTwoCorners 16 = .ok (.invokevirtual 162, 3) := by decide +kernel
theorem dX11_areTwoCorners_19 : decode cX11_areTwoCorners 19 = .ok (.ifCond .eq 12, 3) := by decide +kernel
theorem dX11_areTwoCorners_22 : decode cX11_areTwoCorners 22 = .ok (.iload_n 1, 1) := by decide +kernel
theorem dX11_areTwoCorners_23 : decode cX11_areTwoCorners 23 = .ok (.iload_n 2, 1) := by decide +kernel
theorem dX11_areTwoCorners_24 : decode cX11_areTwoCorners 24 = .ok (.if_icmp .eq 7, 3) := by decide +kernel
theorem dX11_areTwoCorners_27 : decode cX11_areTwoCorners 27 = .ok (.iconst 1, 1) := by decide +kernel
theorem dX11_areTwoCorners_28 : decode cX11_areTwoCorners 28 = .ok (.goto 4, 3) := by decide +kernel
theorem dX11_areTwoCorners_31 : decode cX11_areTwoCorners 31 = .ok (.iconst 0, 1) := by decide +kernel
theorem dX11_areTwoCorners_32 : decode cX11_areTwoCorners 32 = .ok (.ireturn, 1) := by decide +kernel
theorem dX11_standsStill_0 : decode cX11_standsStill 0 = .ok (.aload_n 0, 1) := by decide +kernel
theorem dX11_standsStill_1 : decode cX11_standsStill 1 = .ok (.iload_n 2, 1) := by decide +kernel
theorem dX11_standsStill_2 : decode cX11_standsStill 2 = .ok (.laload, 1) := by decide +kernel
theorem dX11_standsStill_3 : decode cX11_standsStill 3 = .ok (.lconst 0, 1) := by decide +kernel
theorem dX11_standsStill_4 : decode cX11_standsStill 4 = .ok (.lcmp, 1) := by decide +kernel
theorem dX11_standsStill_5 : decode cX11_standsStill 5 = .ok (.ifCond .lt 31, 3) := by decide +kernel
theorem dX11_standsStill_8 : decode cX11_standsStill 8 = .ok (.aload_n 0, 1) := by decide +kernel
theorem dX11_standsStill_9 : decode cX11_standsStill 9 = .ok (.iload_n 2, 1) := by decide +kernel
theorem dX11_standsStill_10 : decode cX11_standsStill 10 = .ok (.iconst 2, 1) := by decide +kernel
theorem dX11_standsStill_11 : decode cX11_standsStill 11 = .ok (.ixor, 1) := by decide +kernel
theorem dX11_standsStill_12 : decode cX11_standsStill 12 = .ok (.laload, 1) := by decide +kernel
theorem dX11_standsStill_13 : decode cX11_standsStill 13 = .ok (.aload_n 0, 1) := by decide +kernel
theorem dX11_standsStill_14 : decode cX11_standsStill 14 = .ok (.iload_n 2, 1) := by decide +kernel
theorem dX11_standsStill_15 : decode cX11_standsStill 15 = .ok (.laload, 1) := by decide +kernel
theorem dX11_standsStill_16 : decode cX11_standsStill 16 = .ok (.lcmp, 1) := by decide +kernel
theorem dX11_standsStill_17 : decode cX11_standsStill 17 = .ok (.ifCond .gt 19, 3) := by decide +kernel
theorem dX11_standsStill_20 : decode cX11_standsStill 20 = .ok (.aload_n 1, 1) := by decide +kernel
theorem dX11_standsStill_21 : decode cX11_standsStill 21 = .ok (.iload_n 2, 1) := by decide +kernel
theorem dX11_standsStill_22 : decode cX11_standsStill 22 = .ok (.iconst 1, 1) := by decide +kernel
theorem dX11_standsStill_23 : decode cX11_standsStill 23 = .ok (.ixor, 1) := by decide +kernel
theorem dX11_standsStill_24 : decode cX11_standsStill 24 = .ok (.laload, 1) := by decide +kernel
theorem dX11_standsStill_25 : decode cX11_standsStill 25 = .ok (.aload_n 1, 1) := by decide +kernel
theorem dX11_standsStill_26 : decode cX11_standsStill 26 = .ok (.iload_n 2, 1) := by decide +kernel
theorem dX11_standsStill_27 : decode cX11_standsStill 27 = .ok (.laload, 1) := by decide +kernel
theorem dX11_standsStill_28 : decode cX11_standsStill 28 = .ok (.lcmp, 1) := by decide +kernel
theorem dX11_standsStill_29 : decode cX11_standsStill 29 = .ok (.ifCond .gt 7, 3) := by decide +kernel
theorem dX11_standsStill_32 : decode cX11_standsStill 32 = .ok (.iconst 1, 1) := by decide +kernel
theorem dX11_standsStill_33 : decode cX11_standsStill 33 = .ok (.goto 4, 3) := by decide +kernel
theorem dX11_standsStill_36 : decode cX11_standsStill 36 = .ok (.iconst 0, 1) := by decide +kernel
theorem dX11_standsStill_37 : decode cX11_standsStill 37 = .ok (.ireturn, 1) := by decide +kernel
