theorem dX4_init_0 : decode cX4_init 0 = .ok (.aload_n 0, 1) := by decide +kernel
theorem dX4_init_1 : decode cX4_init 1 = .ok (.invokespecial 3, 3) := by decide +kernel
theorem dX4_init_4 : decode cX4_init 4 = .ok (.aload_n 0, 1) := by decide +kernel
theorem dX4_init_5 : decode cX4_init 5 = .ok (.sipush 188, 3) := by decide +kernel
theorem dX4_init_8 : decode cX4_init 8 = .ok (.newarray .int, 2) := by decide +kernel
theorem dX4_init_10 : decode cX4_init 10 = .ok (.putfield 11, 3) := by decide +kernel
theorem dX4_init_13 : decode cX4_init 13 = .ok (.aload_n 0, 1) := by decide +kernel
theorem dX4_init_14 : decode cX4_init 14 = .ok (.bipush 61, 2) := by decide +kernel
theorem dX4_init_16 : decode cX4_init 16 = .ok (.newarray .long, 2) := by decide +kernel
theorem dX4_init_18 : decode cX4_init 18 = .ok (.putfield 15, 3) := by decide +kernel
theorem dX4_init_21 : decode cX4_init 21 = .ok (.aload_n 0, 1) := by decide +kernel
theorem dX4_init_22 : decode cX4_init 22 = .ok (.iconst 4, 1) := by decide +kernel
theorem dX4_init_23 : decode cX4_init 23 = .ok (.newarray .int, 2) := by decide +kernel
theorem dX4_init_25 : decode cX4_init 25 = .ok (.putfield 19, 3) := by decide +kernel
theorem dX4_init_28 : decode cX4_init 28 = .ok (.aload_n 0, 1) := by decide +kernel
theorem dX4_init_29 : decode cX4_init 29 = .ok (.iconst 4, 1) := by decide +kernel
theorem dX4_init_30 : decode cX4_init 30 = .ok (.newarray .int, 2) := by decide +kernel
theorem dX4_init_32 : decode cX4_init 32 = .ok (.putfield 22, 3) := by decide +kernel
theorem dX4_init_35 : decode cX4_init 35 = .ok (.aload_n 0, 1) := by decide +kernel
theorem dX4_init_36 : decode cX4_init 36 = .ok (.iconst 3, 1) := by decide +kernel
theorem dX4_init_37 : decode cX4_init 37 = .ok (.newarray .int, 2) := by decide +kernel
theorem dX4_init_39 : decode cX4_init 39 = .ok (.putfield 25, 3) := by decide +kernel
theorem dX4_init_42 : decode cX4_init 42 = .ok (.aload_n 0, 1) := by decide +kernel
theorem dX4_init_43 : decode cX4_init 43 = .ok (.iconst 0, 1) := by decide +kernel
theorem dX4_init_44 : decode cX4_init 44 = .ok (.putfield 28, 3) := by decide +kernel
theorem dX4_init_47 : decode cX4_init 47 = .ok (.aload_n 0, 1) := by decide +kernel
theorem dX4_init_48 : decode cX4_init 48 = .ok (.iconst (-1), 1) := by decide +kernel
theorem dX4_init_49 : decode cX4_init 49 = .ok (.putfield 32, 3) := by decide +kernel
theorem dX4_init_52 : decode cX4_init 52 = .ok (.aload_n 0, 1) := by decide +kernel
theorem dX4_init_53 : decode cX4_init 53 = .ok (.lconst 0, 1) := by decide +kernel
theorem dX4_init_54 : decode cX4_init 54 = .ok (.putfield 35, 3) := by decide +kernel
theorem dX4_init_57 : decode cX4_init 57 = .ok (.aload_n 0, 1) := by decide +kernel
theorem dX4_init_58 : decode cX4_init 58 = .ok (.iconst 0, 1) := by decide +kernel
theorem dX4_init_59 : decode cX4_init 59 = .ok (.putfield 39, 3) := by decide +kernel
theorem dX4_init_62 : decode cX4_init 62 = .ok (.aload_n 0, 1) := by decide +kernel
theorem dX4_init_63 : decode cX4_init 63 = .ok (.iconst (-1), 1) := by decide +kernel
theorem dX4_init_64 : decode cX4_init 64 = .ok (.putfield 43, 3) := by decide +kernel
theorem dX4_init_67 : decode cX4_init 67 = .ok (.aload_n 0, 1) := by decide +kernel
theorem dX4_init_68 : decode cX4_init 68 = .ok (.iconst 0, 1) := by decide +kernel
theorem dX4_init_69 : decode cX4_init 69 = .ok (.putfield 46, 3) := by decide +kernel
theorem dX4_init_72 : decode cX4_init 72 = .ok (.aload_n 0, 1) := by decide +kernel
theorem dX4_init_73 : decode cX4_init 73 = .ok (.aload_n 1, 1) := by decide +kernel
theorem dX4_init_74 : decode cX4_init 74 = .ok (.putfield 49, 3) := by decide +kernel
theorem dX4_init_77 : decode cX4_init 77 = .ok (.aload_n 0, 1) := by decide +kernel
theorem dX4_init_78 : decode cX4_init 78 = .ok (.aload_n 2, 1) := by decide +kernel
theorem dX4_init_79 : decode cX4_init 79 = .ok (.putfield 53, 3) := by decide +kernel
theorem dX4_init_82 : decode cX4_init 82 = .ok (.aload_n 0, 1) := by decide +kernel
theorem dX4_init_83 : decode cX4_init 83 = .ok (.aload_n 3, 1) := by decide +kernel
theorem dX4_init_84 : decode cX4_init 84 = .ok (.putfield 57, 3) := by decide +kernel
theorem dX4_init_87 : decode cX4_init 87 = .ok (.return_, 1) := by decide +kernel
theorem dX4_standing_0 : decode cX4_standing 0 = .ok (.aload_n 0, 1) := by decide +kernel
theorem dX4_standing_1 : decode cX4_standing 1 = .ok (.getfield 53, 3) := by decide +kernel
theorem dX4_standing_4 : decode cX4_standing 4 = .ok (.getfield 61, 3) := by decide +kernel
theorem dX4_standing_7 : decode cX4_standing 7 = .ok (.iload_n 1, 1) := by decide +kernel
theorem dX4_standing_8 : decode cX4_standing 8 = .ok (.iaload, 1) := by decide +kernel
theorem dX4_standing_9 : decode cX4_standing 9 = .ok (.iconst 1, 1) := by decide +kernel
theorem dX4_standing_10 : decode cX4_standing 10 = .ok (.if_icmp .ne 15, 3) := by decide +kernel
theorem dX4_standing_13 : decode cX4_standing 13 = .ok (.aload_n 0, 1) := by decide +kernel
theorem dX4_standing_14 : decode cX4_standing 14 = .ok (.getfield 57, 3) := by decide +kernel
theorem dX4_standing_17 : decode cX4_standing 17 = .ok (.getfield 66, 3) := by decide +kernel
theorem dX4_standing_20 : decode cX4_standing 20 = .ok (.iload_n 1, 1) := by decide +kernel
theorem dX4_standing_21 : decode cX4_standing 21 = .ok (.iaload, 1) := by decide +kernel
theorem dX4_standing_22 : decode cX4_standing 22 = .ok (.goto 12, 3) := by decide +kernel
theorem dX4_standing_25 : decode cX4_standing 25 = .ok (.aload_n 0, 1) := by decide +kernel
theorem dX4_standing_26 : decode cX4_standing 26 = .ok (.getfield 57, 3) := by decide +kernel
theorem dX4_standing_29 : decode cX4_standing 29 = .ok (.getfield 71, 3) := by decide +kernel
theorem dX4_standing_32 : decode cX4_standing 32 = .ok (.iload_n 1, 1) := by decide +kernel
theorem dX4_standing_33 : decode cX4_standing 33 = .ok (.iaload, 1) := by decide +kernel
theorem dX4_standing_34 : decode cX4_standing 34 = .ok (.ireturn, 1) := by decide +kernel
theorem dX4_take_0 : decode cX4_take 0 = .ok (.aload_n 0, 1) := by decide +kernel
theorem dX4_take_1 : decode cX4_take 1 = .ok (.getfield 53, 3) := by decide +kernel
theorem dX4_take_4 : decode cX4_take 4 = .ok (.getfield 61, 3) := by decide +kernel
theorem dX4_take_7 : decode cX4_take 7 = .ok (.iload_n 1, 1) := by decide +kernel
theorem dX4_take_8 : decode cX4_take 8 = .ok (.iaload, 1) := by decide +kernel
theorem dX4_take_9 : decode cX4_take 9 = .ok (.iconst 1, 1) := by decide +kernel
theorem dX4_take_10 : decode cX4_take 10 = .ok (.if_icmp .ne 16, 3) := by decide +kernel
theorem dX4_take_13 : decode cX4_take 13 = .ok (.aload_n 0, 1) := by decide +kernel
theorem dX4_take_14 : decode cX4_take 14 = .ok (.getfield 57, 3) := by decide +kernel
theorem dX4_take_17 : decode cX4_take 17 = .ok (.getfield 66, 3) := by decide +kernel
theorem dX4_take_20 : decode cX4_take 20 = .ok (.iload_n 1, 1) := by decide +kernel
theorem dX4_take_21 : decode cX4_take 21 = .ok (.iload_n 2, 1) := by decide +kernel
theorem dX4_take_22 : decode cX4_take 22 = .ok (.iastore, 1) := by decide +kernel
theorem dX4_take_23 : decode cX4_take 23 = .ok (.goto 12, 3) := by decide +kernel
theorem dX4_take_26 : decode cX4_take 26 = .ok (.aload_n 0, 1) := by decide +kernel
theorem dX4_take_27 : decode cX4_take 27 = .ok (.getfield 57, 3) := by decide +kernel
theorem dX4_take_30 : decode cX4_take 30 = .ok (.iload_n 1, 1) := by decide +kernel
theorem dX4_take_31 : decode cX4_take 31 = .ok (.iload_n 2, 1) := by decide +kernel
theorem dX4_take_32 : decode cX4_take 32 = .ok (.invokevirtual 74, 3) := by decide +kernel
theorem dX4_take_35 : decode cX4_take 35 = .ok (.return_, 1) := by decide +kernel
theorem dX4_listOthers_0 : decode cX4_listOthers 0 = .ok (.aload_n 0, 1) := by decide +kernel
theorem dX4_listOthers_1 : decode cX4_listOthers 1 = .ok (.getfield 53, 3) := by decide +kernel
theorem dX4_listOthers_4 : decode cX4_listOthers 4 = .ok (.getfield 61, 3) := by decide +kernel
theorem dX4_listOthers_7 : decode cX4_listOthers 7 = .ok (.iload_n 1, 1) := by decide +kernel
theorem dX4_listOthers_8 : decode cX4_listOthers 8 = .ok (.iaload, 1) := by decide +kernel
theorem dX4_listOthers_9 : decode cX4_listOthers 9 = .ok (.iconst 1, 1) := by decide +kernel
theorem dX4_listOthers_10 : decode cX4_listOthers 10 = .ok (.if_icmp .ne 21, 3) := by decide +kernel
theorem dX4_listOthers_13 : decode cX4_listOthers 13 = .ok (.aload_n 0, 1) := by decide +kernel
theorem dX4_listOthers_14 : decode cX4_listOthers 14 = .ok (.getfield 57, 3) := by decide +kernel
theorem dX4_listOthers_17 : decode cX4_listOthers 17 = .ok (.getfield 78, 3) := by decide +kernel
theorem dX4_listOthers_20 : decode cX4_listOthers 20 = .ok (.getfield 82, 3) := by decide +kernel
theorem dX4_listOthers_23 : decode cX4_listOthers 23 = .ok (.iconst (-1), 1) := by decide +kernel
theorem dX4_listOthers_24 : decode cX4_listOthers 24 = .ok (.if_icmp .ne 7, 3) := by decide +kernel
theorem dX4_listOthers_27 : decode cX4_listOthers 27 = .ok (.iconst 1, 1) := by decide +kernel
theorem dX4_listOthers_28 : decode cX4_listOthers 28 = .ok (.goto 4, 3) := by decide +kernel
theorem dX4_listOthers_31 : decode cX4_listOthers 31 = .ok (.iconst 0, 1) := by decide +kernel
theorem dX4_listOthers_32 : decode cX4_listOthers 32 = .ok (.istore_n 2, 1) := by decide +kernel
theorem dX4_listOthers_33 : decode cX4_listOthers 33 = .ok (.aload_n 0, 1) := by decide +kernel
theorem dX4_listOthers_34 : decode cX4_listOthers 34 = .ok (.getfield 53, 3) := by decide +kernel
theorem dX4_listOthers_37 : decode cX4_listOthers 37 = .ok (.getfield 61, 3) := by decide +kernel
theorem dX4_listOthers_40 : decode cX4_listOthers 40 = .ok (.iload_n 1, 1) := by decide +kernel
theorem dX4_listOthers_41 : decode cX4_listOthers 41 = .ok (.iaload, 1) := by decide +kernel
theorem dX4_listOthers_42 : decode cX4_listOthers 42 = .ok (.ifCond .ne 7, 3) := by decide +kernel
theorem dX4_listOthers_45 : decode cX4_listOthers 45 = .ok (.iconst 1, 1) := by decide +kernel
theorem dX4_listOthers_46 : decode cX4_listOthers 46 = .ok (.goto 4, 3) := by decide +kernel
theorem dX4_listOthers_49 : decode cX4_listOthers 49 = .ok (.iconst 0, 1) := by decide +kernel
theorem dX4_listOthers_50 : decode cX4_listOthers 50 = .ok (.istore_n 3, 1) := by decide +kernel
theorem dX4_listOthers_51 : decode cX4_listOthers 51 = .ok (.aload_n 0, 1) := by decide +kernel
theorem dX4_listOthers_52 : decode cX4_listOthers 52 = .ok (.iload_n 1, 1) := by decide +kernel
theorem dX4_listOthers_53 : decode cX4_listOthers 53 = .ok (.invokevirtual 86, 3) := by decide +kernel
theorem dX4_listOthers_56 : decode cX4_listOthers 56 = .ok (.istore 4, 2) := by decide +kernel
theorem dX4_listOthers_58 : decode cX4_listOthers 58 = .ok (.aload_n 0, 1) := by decide +kernel
theorem dX4_listOthers_59 : decode cX4_listOthers 59 = .ok (.iconst 0, 1) := by decide +kernel
theorem dX4_listOthers_60 : decode cX4_listOthers 60 = .ok (.putfield 28, 3) := by decide +kernel
theorem dX4_listOthers_63 : decode cX4_listOthers 63 = .ok (.aload_n 0, 1) := by decide +kernel
theorem dX4_listOthers_64 : decode cX4_listOthers 64 = .ok (.getfield 49, 3) := by decide +kernel
theorem dX4_listOthers_67 : decode cX4_listOthers 67 = .ok (.getfield 90, 3) := by decide +kernel
theorem dX4_listOthers_70 : decode cX4_listOthers 70 = .ok (.istore 5, 2) := by decide +kernel
theorem dX4_listOthers_72 : decode cX4_listOthers 72 = .ok (.iload_n 2, 1) := by decide +kernel
theorem dX4_listOthers_73 : decode cX4_listOthers 73 = .ok (.ifCond .eq 39, 3) := by decide +kernel
theorem dX4_listOthers_76 : decode cX4_listOthers 76 = .ok (.iload 5, 2) := by decide +kernel
theorem dX4_listOthers_78 : decode cX4_listOthers 78 = .ok (.aload_n 0, 1) := by decide +kernel
theorem dX4_listOthers_79 : decode cX4_listOthers 79 = .ok (.getfield 49, 3) := by decide +kernel
theorem dX4_listOthers_82 : decode cX4_listOthers 82 = .ok (.getfield 95, 3) := by decide +kernel
theorem dX4_listOthers_85 : decode cX4_listOthers 85 = .ok (.if_icmp .gt 27, 3) := by decide +kernel
theorem dX4_listOthers_88 : decode cX4_listOthers 88 = .ok (.aload_n 0, 1) := by decide +kernel
theorem dX4_listOthers_89 : decode cX4_listOthers 89 = .ok (.iload 5, 2) := by decide +kernel
theorem dX4_listOthers_91 : decode cX4_listOthers 91 = .ok (.iload 5, 2) := by decide +kernel
theorem dX4_listOthers_93 : decode cX4_listOthers 93 = .ok (.iload 4, 2) := by decide +kernel
theorem dX4_listOthers_95 : decode cX4_listOthers 95 = .ok (.if_icmp .eq 7, 3) := by decide +kernel
theorem dX4_listOthers_98 : decode cX4_listOthers 98 = .ok (.iconst 1, 1) := by decide +kernel
theorem dX4_listOthers_99 : decode cX4_listOthers 99 = .ok (.goto 4, 3) := by decide +kernel
theorem dX4_listOthers_102 : decode cX4_listOthers 102 = .ok (.iconst 0, 1) := by decide +kernel
theorem dX4_listOthers_103 : decode cX4_listOthers 103 = .ok (.invokevirtual 98, 3) := by decide +kernel
theorem dX4_listOthers_106 : decode cX4_listOthers 106 = .ok (.iinc 5 1, 3) := by decide +kernel
theorem dX4_listOthers_109 : decode cX4_listOthers 109 = .ok (.goto (-37), 3) := by decide +kernel
theorem dX4_listOthers_112 : decode cX4_listOthers 112 = .ok (.iconst 0, 1) := by decide +kernel
theorem dX4_listOthers_113 : decode cX4_listOthers 113 = .ok (.istore 5, 2) := by decide +kernel
theorem dX4_listOthers_115 : decode cX4_listOthers 115 = .ok (.iload_n 3, 1) := by decide +kernel
theorem dX4_listOthers_116 : decode cX4_listOthers 116 = .ok (.ifCond .eq 52, 3) := by decide +kernel
theorem dX4_listOthers_119 : decode cX4_listOthers 119 = .ok (.iload 5, 2) := by decide +kernel
theorem dX4_listOthers_121 : decode cX4_listOthers 121 = .ok (.aload_n 0, 1) := by decide +kernel
theorem dX4_listOthers_122 : decode cX4_listOthers 122 = .ok (.getfield 49, 3) := by decide +kernel
theorem dX4_listOthers_125 : decode cX4_listOthers 125 = .ok (.getfield 102, 3) := by decide +kernel
theorem dX4_listOthers_128 : decode cX4_listOthers 128 = .ok (.if_icmp .ge 40, 3) := by decide +kernel
theorem dX4_listOthers_131 : decode cX4_listOthers 131 = .ok (.aload_n 0, 1) := by decide +kernel
theorem dX4_listOthers_132 : decode cX4_listOthers 132 = .ok (.iload 5, 2) := by decide +kernel
theorem dX4_listOthers_134 : decode cX4_listOthers 134 = .ok (.iload 5, 2) := by decide +kernel
theorem dX4_listOthers_136 : decode cX4_listOthers 136 = .ok (.iload 4, 2) := by decide +kernel
theorem dX4_listOthers_138 : decode cX4_listOthers 138 = .ok (.if_icmp .eq 20, 3) := by decide +kernel
theorem dX4_listOthers_141 : decode cX4_listOthers 141 = .ok (.aload_n 0, 1) := by decide +kernel
theorem dX4_listOthers_142 : decode cX4_listOthers 142 = .ok (.getfield 57, 3) := by decide +kernel
theorem dX4_listOthers_145 : decode cX4_listOthers 145 = .ok (.iload_n 1, 1) := by decide +kernel
theorem dX4_listOthers_146 : decode cX4_listOthers 146 = .ok (.iload 5, 2) := by decide +kernel
theorem dX4_listOthers_148 : decode cX4_listOthers 148 = .ok (.invokevirtual 105, 3) := by decide +kernel
theorem dX4_listOthers_151 : decode cX4_listOthers 151 = .ok (.ifCond .eq 7, 3) := by decide +kernel
theorem dX4_listOthers_154 : decode cX4_listOthers 154 = .ok (.iconst 1, 1) := by decide +kernel
theorem dX4_listOthers_155 : decode cX4_listOthers 155 = .ok (.goto 4, 3) := by decide +kernel
theorem dX4_listOthers_158 : decode cX4_listOthers 158 = .ok (.iconst 0, 1) := by decide +kernel
theorem dX4_listOthers_159 : decode cX4_listOthers 159 = .ok (.invokevirtual 98, 3) := by decide +kernel
theorem dX4_listOthers_162 : decode cX4_listOthers 162 = .ok (.iinc 5 1, 3) := by decide +kernel
theorem dX4_listOthers_165 : decode cX4_listOthers 165 = .ok (.goto (-50), 3) := by decide +kernel
theorem dX4_listOthers_168 : decode cX4_listOthers 168 = .ok (.iconst 0, 1) := by decide +kernel
theorem dX4_listOthers_169 : decode cX4_listOthers 169 = .ok (.istore 5, 2) := by decide +kernel
theorem dX4_listOthers_171 : decode cX4_listOthers 171 = .ok (.iload_n 3, 1) := by decide +kernel
theorem dX4_listOthers_172 : decode cX4_listOthers 172 = .ok (.ifCond .eq 101, 3) := by decide +kernel
theorem dX4_listOthers_175 : decode cX4_listOthers 175 = .ok (.iload 5, 2) := by decide +kernel
theorem dX4_listOthers_177 : decode cX4_listOthers 177 = .ok (.aload_n 0, 1) := by decide +kernel
theorem dX4_listOthers_178 : decode cX4_listOthers 178 = .ok (.getfield 49, 3) := by decide +kernel
theorem dX4_listOthers_181 : decode cX4_listOthers 181 = .ok (.getfield 109, 3) := by decide +kernel
theorem dX4_listOthers_184 : decode cX4_listOthers 184 = .ok (.if_icmp .ge 89, 3) := by decide +kernel
theorem dX4_listOthers_187 : decode cX4_listOthers 187 = .ok (.iconst 1, 1) := by decide +kernel
theorem dX4_listOthers_188 : decode cX4_listOthers 188 = .ok (.istore 6, 2) := by decide +kernel
theorem dX4_listOthers_190 : decode cX4_listOthers 190 = .ok (.iload 6, 2) := by decide +kernel
theorem dX4_listOthers_192 : decode cX4_listOthers 192 = .ok (.aload_n 0, 1) := by decide +kernel
theorem dX4_listOthers_193 : decode cX4_listOthers 193 = .ok (.getfield 49, 3) := by decide +kernel
theorem dX4_listOthers_196 : decode cX4_listOthers 196 = .ok (.getfield 112, 3) := by decide +kernel
theorem dX4_listOthers_199 : decode cX4_listOthers 199 = .ok (.iload 5, 2) := by decide +kernel
theorem dX4_listOthers_201 : decode cX4_listOthers 201 = .ok (.iaload, 1) := by decide +kernel
theorem dX4_listOthers_202 : decode cX4_listOthers 202 = .ok (.if_icmp .ge 65, 3) := by decide +kernel
theorem dX4_listOthers_205 : decode cX4_listOthers 205 = .ok (.aload_n 0, 1) := by decide +kernel
theorem dX4_listOthers_206 : decode cX4_listOthers 206 = .ok (.getfield 57, 3) := by decide +kernel
theorem dX4_listOthers_209 : decode cX4_listOthers 209 = .ok (.getfield 78, 3) := by decide +kernel
theorem dX4_listOthers_212 : decode cX4_listOthers 212 = .ok (.getfield 115, 3) := by decide +kernel
theorem dX4_listOthers_215 : decode cX4_listOthers 215 = .ok (.iload 5, 2) := by decide +kernel
theorem dX4_listOthers_217 : decode cX4_listOthers 217 = .ok (.baload, 1) := by decide +kernel
theorem dX4_listOthers_218 : decode cX4_listOthers 218 = .ok (.ifCond .ne 49, 3) := by decide +kernel
theorem dX4_listOthers_221 : decode cX4_listOthers 221 = .ok (.iload 5, 2) := by decide +kernel
theorem dX4_listOthers_223 : decode cX4_listOthers 223 = .ok (.iload 6, 2) := by decide +kernel
theorem dX4_listOthers_225 : decode cX4_listOthers 225 = .ok (.invokestatic 119, 3) := by decide +kernel
theorem dX4_listOthers_228 : decode cX4_listOthers 228 = .ok (.istore 7, 2) := by decide +kernel
theorem dX4_listOthers_230 : decode cX4_listOthers 230 = .ok (.aload_n 0, 1) := by decide +kernel
theorem dX4_listOthers_231 : decode cX4_listOthers 231 = .ok (.iload 7, 2) := by decide +kernel
theorem dX4_listOthers_233 : decode cX4_listOthers 233 = .ok (.iload 7, 2) := by decide +kernel
theorem dX4_listOthers_235 : decode cX4_listOthers 235 = .ok (.iload 4, 2) := by decide +kernel
theorem dX4_listOthers_237 : decode cX4_listOthers 237 = .ok (.if_icmp .eq 20, 3) := by decide +kernel
theorem dX4_listOthers_240 : decode cX4_listOthers 240 = .ok (.aload_n 0, 1) := by decide +kernel
theorem dX4_listOthers_241 : decode cX4_listOthers 241 = .ok (.getfield 57, 3) := by decide +kernel
theorem dX4_listOthers_244 : decode cX4_listOthers 244 = .ok (.iload_n 1, 1) := by decide +kernel
theorem dX4_listOthers_245 : decode cX4_listOthers 245 = .ok (.iload 7, 2) := by decide +kernel
theorem dX4_listOthers_247 : decode cX4_listOthers 247 = .ok (.invokevirtual 105, 3) := by decide +kernel
theorem dX4_listOthers_250 : decode cX4_listOthers 250 = .ok (.ifCond .eq 7, 3) := by decide +kernel
theorem dX4_listOthers_253 : decode cX4_listOthers 253 = .ok (.iconst 1, 1) := by decide +kernel
theorem dX4_listOthers_254 : decode cX4_listOthers 254 = .ok (.goto 4, 3) := by decide +kernel
theorem dX4_listOthers_257 : decode cX4_listOthers 257 = .ok (.iconst 0, 1) := by decide +kernel
theorem dX4_listOthers_258 : decode cX4_listOthers 258 = .ok (.invokevirtual 98, 3) := by decide +kernel
theorem dX4_listOthers_261 : decode cX4_listOthers 261 = .ok (.iinc 6 1, 3) := by decide +kernel
theorem dX4_listOthers_264 : decode cX4_listOthers 264 = .ok (.goto (-74), 3) := by decide +kernel
theorem dX4_listOthers_267 : decode cX4_listOthers 267 = .ok (.iinc 5 1, 3) := by decide +kernel
theorem dX4_listOthers_270 : decode cX4_listOthers 270 = .ok (.goto (-99), 3) := by decide +kernel
theorem dX4_listOthers_273 : decode cX4_listOthers 273 = .ok (.return_, 1) := by decide +kernel
theorem dX4_addOther_0 : decode cX4_addOther 0 = .ok (.iload_n 2, 1) := by decide +kernel
theorem dX4_addOther_1 : decode cX4_addOther 1 = .ok (.ifCond .eq 33, 3) := by decide +kernel
theorem dX4_addOther_4 : decode cX4_addOther 4 = .ok (.aload_n 0, 1) := by decide +kernel
theorem dX4_addOther_5 : decode cX4_addOther 5 = .ok (.getfield 28, 3) := by decide +kernel
theorem dX4_addOther_8 : decode cX4_addOther 8 = .ok (.sipush 188, 3) := by decide +kernel
theorem dX4_addOther_11 : decode cX4_addOther 11 = .ok (.if_icmp .ge 23, 3) := by decide +kernel
theorem dX4_addOther_14 : decode cX4_addOther 14 = .ok (.aload_n 0, 1) := by decide +kernel
theorem dX4_addOther_15 : decode cX4_addOther 15 = .ok (.getfield 11, 3) := by decide +kernel
theorem dX4_addOther_18 : decode cX4_addOther 18 = .ok (.aload_n 0, 1) := by decide +kernel
theorem dX4_addOther_19 : decode cX4_addOther 19 = .ok (.getfield 28, 3) := by decide +kernel
theorem dX4_addOther_22 : decode cX4_addOther 22 = .ok (.iload_n 1, 1) := by decide +kernel
theorem dX4_addOther_23 : decode cX4_addOther 23 = .ok (.iastore, 1) := by decide +kernel
theorem dX4_addOther_24 : decode cX4_addOther 24 = .ok (.aload_n 0, 1) := by decide +kernel
theorem dX4_addOther_25 : decode cX4_addOther 25 = .ok (.dup, 1) := by decide +kernel
theorem dX4_addOther_26 : decode cX4_addOther 26 = .ok (.getfield 28, 3) := by decide +kernel
theorem dX4_addOther_29 : decode cX4_addOther 29 = .ok (.iconst 1, 1) := by decide +kernel
theorem dX4_addOther_30 : decode cX4_addOther 30 = .ok (.iadd, 1) := by decide +kernel
theorem dX4_addOther_31 : decode cX4_addOther 31 = .ok (.putfield 28, 3) := by decide +kernel
theorem dX4_addOther_34 : decode cX4_addOther 34 = .ok (.return_, 1) := by decide +kernel
theorem dX4_findBest_0 : decode cX4_findBest 0 = .ok (.aload_n 0, 1) := by decide +kernel
theorem dX4_findBest_1 : decode cX4_findBest 1 = .ok (.iload_n 1, 1) := by decide +kernel
theorem dX4_findBest_2 : decode cX4_findBest 2 = .ok (.invokevirtual 86, 3) := by decide +kernel
theorem dX4_findBest_5 : decode cX4_findBest 5 = .ok (.istore_n 2, 1) := by decide +kernel
theorem dX4_findBest_6 : decode cX4_findBest 6 = .ok (.aload_n 0, 1) := by decide +kernel
theorem dX4_findBest_7 : decode cX4_findBest 7 = .ok (.getfield 57, 3) := by decide +kernel
theorem dX4_findBest_10 : decode cX4_findBest 10 = .ok (.getfield 123, 3) := by decide +kernel
theorem dX4_findBest_13 : decode cX4_findBest 13 = .ok (.iload_n 1, 1) := by decide +kernel
theorem dX4_findBest_14 : decode cX4_findBest 14 = .ok (.iaload, 1) := by decide +kernel
theorem dX4_findBest_15 : decode cX4_findBest 15 = .ok (.istore_n 3, 1) := by decide +kernel
theorem dX4_findBest_16 : decode cX4_findBest 16 = .ok (.aload_n 0, 1) := by decide +kernel
theorem dX4_findBest_17 : decode cX4_findBest 17 = .ok (.getfield 57, 3) := by decide +kernel
theorem dX4_findBest_20 : decode cX4_findBest 20 = .ok (.invokevirtual 126, 3) := by decide +kernel
theorem dX4_findBest_23 : decode cX4_findBest 23 = .ok (.aload_n 0, 1) := by decide +kernel
theorem dX4_findBest_24 : decode cX4_findBest 24 = .ok (.iload_n 2, 1) := by decide +kernel
theorem dX4_findBest_25 : decode cX4_findBest 25 = .ok (.putfield 32, 3) := by decide +kernel
theorem dX4_findBest_28 : decode cX4_findBest 28 = .ok (.aload_n 0, 1) := by decide +kernel
theorem dX4_findBest_29 : decode cX4_findBest 29 = .ok (.aload_n 0, 1) := by decide +kernel
theorem dX4_findBest_30 : decode cX4_findBest 30 = .ok (.getfield 57, 3) := by decide +kernel
theorem dX4_findBest_33 : decode cX4_findBest 33 = .ok (.iload_n 3, 1) := by decide +kernel
theorem dX4_findBest_34 : decode cX4_findBest 34 = .ok (.invokevirtual 129, 3) := by decide +kernel
theorem dX4_findBest_37 : decode cX4_findBest 37 = .ok (.putfield 35, 3) := by decide +kernel
theorem dX4_findBest_40 : decode cX4_findBest 40 = .ok (.aload_n 0, 1) := by decide +kernel
theorem dX4_findBest_41 : decode cX4_findBest 41 = .ok (.iload_n 1, 1) := by decide +kernel
theorem dX4_findBest_42 : decode cX4_findBest 42 = .ok (.invokevirtual 133, 3) := by decide +kernel
theorem dX4_findBest_45 : decode cX4_findBest 45 = .ok (.iconst 0, 1) := by decide +kernel
theorem dX4_findBest_46 : decode cX4_findBest 46 = .ok (.istore 4, 2) := by decide +kernel
theorem dX4_findBest_48 : decode cX4_findBest 48 = .ok (.iload 4, 2) := by decide +kernel
theorem dX4_findBest_50 : decode cX4_findBest 50 = .ok (.aload_n 0, 1) := by decide +kernel
theorem dX4_findBest_51 : decode cX4_findBest 51 = .ok (.getfield 28, 3) := by decide +kernel
theorem dX4_findBest_54 : decode cX4_findBest 54 = .ok (.if_icmp .ge 65, 3) := by decide +kernel
theorem dX4_findBest_57 : decode cX4_findBest 57 = .ok (.aload_n 0, 1) := by decide +kernel
theorem dX4_findBest_58 : decode cX4_findBest 58 = .ok (.iload_n 1, 1) := by decide +kernel
theorem dX4_findBest_59 : decode cX4_findBest 59 = .ok (.aload_n 0, 1) := by decide +kernel
theorem dX4_findBest_60 : decode cX4_findBest 60 = .ok (.getfield 11, 3) := by decide +kernel
theorem dX4_findBest_63 : decode cX4_findBest 63 = .ok (.iload 4, 2) := by decide +kernel
theorem dX4_findBest_65 : decode cX4_findBest 65 = .ok (.iaload, 1) := by decide +kernel
theorem dX4_findBest_66 : decode cX4_findBest 66 = .ok (.invokevirtual 137, 3) := by decide +kernel
theorem dX4_findBest_69 : decode cX4_findBest 69 = .ok (.aload_n 0, 1) := by decide +kernel
theorem dX4_findBest_70 : decode cX4_findBest 70 = .ok (.getfield 57, 3) := by decide +kernel
theorem dX4_findBest_73 : decode cX4_findBest 73 = .ok (.invokevirtual 126, 3) := by decide +kernel
theorem dX4_findBest_76 : decode cX4_findBest 76 = .ok (.aload_n 0, 1) := by decide +kernel
theorem dX4_findBest_77 : decode cX4_findBest 77 = .ok (.getfield 57, 3) := by decide +kernel
theorem dX4_findBest_80 : decode cX4_findBest 80 = .ok (.iload_n 3, 1) := by decide +kernel
theorem dX4_findBest_81 : decode cX4_findBest 81 = .ok (.invokevirtual 129, 3) := by decide +kernel
theorem dX4_findBest_84 : decode cX4_findBest 84 = .ok (.lstore 5, 2) := by decide +kernel
theorem dX4_findBest_86 : decode cX4_findBest 86 = .ok (.lload 5, 2) := by decide +kernel
theorem dX4_findBest_88 : decode cX4_findBest 88 = .ok (.aload_n 0, 1) := by decide +kernel
theorem dX4_findBest_89 : decode cX4_findBest 89 = .ok (.getfield 35, 3) := by decide +kernel
theorem dX4_findBest_92 : decode cX4_findBest 92 = .ok (.lcmp, 1) := by decide +kernel
theorem dX4_findBest_93 : decode cX4_findBest 93 = .ok (.ifCond .le 20, 3) := by decide +kernel
theorem dX4_findBest_96 : decode cX4_findBest 96 = .ok (.aload_n 0, 1) := by decide +kernel
theorem dX4_findBest_97 : decode cX4_findBest 97 = .ok (.lload 5, 2) := by decide +kernel
theorem dX4_findBest_99 : decode cX4_findBest 99 = .ok (.putfield 35, 3) := by decide +kernel
theorem dX4_findBest_102 : decode cX4_findBest 102 = .ok (.aload_n 0, 1) := by decide +kernel
theorem dX4_findBest_103 : decode cX4_findBest 103 = .ok (.aload_n 0, 1) := by decide +kernel
theorem dX4_findBest_104 : decode cX4_findBest 104 = .ok (.getfield 11, 3) := by decide +kernel
theorem dX4_findBest_107 : decode cX4_findBest 107 = .ok (.iload 4, 2) := by decide +kernel
theorem dX4_findBest_109 : decode cX4_findBest 109 = .ok (.iaload, 1) := by decide +kernel
theorem dX4_findBest_110 : decode cX4_findBest 110 = .ok (.putfield 32, 3) := by decide +kernel
theorem dX4_findBest_113 : decode cX4_findBest 113 = .ok (.iinc 4 1, 3) := by decide +kernel
theorem dX4_findBest_116 : decode cX4_findBest 116 = .ok (.goto (-68), 3) := by decide +kernel
theorem dX4_findBest_119 : decode cX4_findBest 119 = .ok (.aload_n 0, 1) := by decide +kernel
theorem dX4_findBest_120 : decode cX4_findBest 120 = .ok (.iload_n 1, 1) := by decide +kernel
theorem dX4_findBest_121 : decode cX4_findBest 121 = .ok (.iload_n 2, 1) := by decide +kernel
theorem dX4_findBest_122 : decode cX4_findBest 122 = .ok (.invokevirtual 137, 3) := by decide +kernel
theorem dX4_findBest_125 : decode cX4_findBest 125 = .ok (.aload_n 0, 1) := by decide +kernel
theorem dX4_findBest_126 : decode cX4_findBest 126 = .ok (.aload_n 0, 1) := by decide +kernel
theorem dX4_findBest_127 : decode cX4_findBest 127 = .ok (.getfield 32, 3) := by decide +kernel
theorem dX4_findBest_130 : decode cX4_findBest 130 = .ok (.iload_n 2, 1) := by decide +kernel
theorem dX4_findBest_131 : decode cX4_findBest 131 = .ok (.if_icmp .eq 7, 3) := by decide +kernel
theorem dX4_findBest_134 : decode cX4_findBest 134 = .ok (.iconst 1, 1) := by decide +kernel
theorem dX4_findBest_135 : decode cX4_findBest 135 = .ok (.goto 4, 3) := by decide +kernel
theorem dX4_findBest_138 : decode cX4_findBest 138 = .ok (.iconst 0, 1) := by decide +kernel
theorem dX4_findBest_139 : decode cX4_findBest 139 = .ok (.putfield 39, 3) := by decide +kernel
theorem dX4_findBest_142 : decode cX4_findBest 142 = .ok (.return_, 1) := by decide +kernel
theorem dX4_firstRestless_0 : decode cX4_firstRestless 0 = .ok (.iconst 0, 1) := by decide +kernel
theorem dX4_firstRestless_1 : decode cX4_firstRestless 1 = .ok (.istore_n 1, 1) := by decide +kernel
theorem dX4_firstRestless_2 : decode cX4_firstRestless 2 = .ok (.iload_n 1, 1) := by decide +kernel
theorem dX4_firstRestless_3 : decode cX4_firstRestless 3 = .ok (.aload_n 0, 1) := by decide +kernel
theorem dX4_firstRestless_4 : decode cX4_firstRestless 4 = .ok (.getfield 57, 3) := by decide +kernel
theorem dX4_firstRestless_7 : decode cX4_firstRestless 7 = .ok (.getfield 140, 3) := by decide +kernel
theorem dX4_firstRestless_10 : decode cX4_firstRestless 10 = .ok (.if_icmp .ge 23, 3) := by decide +kernel
theorem dX4_firstRestless_13 : decode cX4_firstRestless 13 = .ok (.aload_n 0, 1) := by decide +kernel
theorem dX4_firstRestless_14 : decode cX4_firstRestless 14 = .ok (.iload_n 1, 1) := by decide +kernel
theorem dX4_firstRestless_15 : decode cX4_firstRestless 15 = .ok (.invokevirtual 143, 3) := by decide +kernel
theorem dX4_firstRestless_18 : decode cX4_firstRestless 18 = .ok (.aload_n 0, 1) := by decide +kernel
theorem dX4_firstRestless_19 : decode cX4_firstRestless 19 = .ok (.getfield 39, 3) := by decide +kernel
theorem dX4_firstRestless_22 : decode cX4_firstRestless 22 = .ok (.ifCond .eq 5, 3) := by decide +kernel
theorem dX4_firstRestless_25 : decode cX4_firstRestless 25 = .ok (.iload_n 1, 1) := by decide +kernel
theorem dX4_firstRestless_26 : decode cX4_firstRestless 26 = .ok (.ireturn, 1) := by decide +kernel
theorem dX4_firstRestless_27 : decode cX4_firstRestless 27 = .ok (.iinc 1 1, 3) := by decide +kernel
theorem dX4_firstRestless_30 : decode cX4_firstRestless 30 = .ok (.goto (-28), 3) := by decide +kernel
theorem dX4_firstRestless_33 : decode cX4_firstRestless 33 = .ok (.iconst (-1), 1) := by decide +kernel
theorem dX4_firstRestless_34 : decode cX4_firstRestless 34 = .ok (.ireturn, 1) := by decide +kernel
theorem dX4_runChase_0 : decode cX4_runChase 0 = .ok (.aload_n 0, 1) := by decide +kernel
theorem dX4_runChase_1 : decode cX4_runChase 1 = .ok (.getfield 43, 3) := by decide +kernel
theorem dX4_runChase_4 : decode cX4_runChase 4 = .ok (.iload_n 1, 1) := by decide +kernel
theorem dX4_runChase_5 : decode cX4_runChase 5 = .ok (.if_icmp .ne 12, 3) := by decide +kernel
theorem dX4_runChase_8 : decode cX4_runChase 8 = .ok (.aload_n 0, 1) := by decide +kernel
theorem dX4_runChase_9 : decode cX4_runChase 9 = .ok (.getfield 46, 3) := by decide +kernel
theorem dX4_runChase_12 : decode cX4_runChase 12 = .ok (.iload_n 2, 1) := by decide +kernel
theorem dX4_runChase_13 : decode cX4_runChase 13 = .ok (.if_icmp .ne 4, 3) := by decide +kernel
theorem dX4_runChase_16 : decode cX4_runChase 16 = .ok (.return_, 1) := by decide +kernel
theorem dX4_runChase_17 : decode cX4_runChase 17 = .ok (.aload_n 0, 1) := by decide +kernel
theorem dX4_runChase_18 : decode cX4_runChase 18 = .ok (.iload_n 1, 1) := by decide +kernel
theorem dX4_runChase_19 : decode cX4_runChase 19 = .ok (.putfield 43, 3) := by decide +kernel
theorem dX4_runChase_22 : decode cX4_runChase 22 = .ok (.aload_n 0, 1) := by decide +kernel
theorem dX4_runChase_23 : decode cX4_runChase 23 = .ok (.iload_n 2, 1) := by decide +kernel
theorem dX4_runChase_24 : decode cX4_runChase 24 = .ok (.putfield 46, 3) := by decide +kernel
theorem dX4_runChase_27 : decode cX4_runChase 27 = .ok (.aload_n 0, 1) := by decide +kernel
theorem dX4_runChase_28 : decode cX4_runChase 28 = .ok (.getfield 57, 3) := by decide +kernel
theorem dX4_runChase_31 : decode cX4_runChase 31 = .ok (.aload_n 0, 1) := by decide +kernel
theorem dX4_runChase_32 : decode cX4_runChase 32 = .ok (.getfield 53, 3) := by decide +kernel
theorem dX4_runChase_35 : decode cX4_runChase 35 = .ok (.invokevirtual 146, 3) := by decide +kernel
theorem dX4_runChase_38 : decode cX4_runChase 38 = .ok (.aload_n 0, 1) := by decide +kernel
theorem dX4_runChase_39 : decode cX4_runChase 39 = .ok (.getfield 15, 3) := by decide +kernel
theorem dX4_runChase_42 : decode cX4_runChase 42 = .ok (.iconst 0, 1) := by decide +kernel
theorem dX4_runChase_43 : decode cX4_runChase 43 = .ok (.aload_n 0, 1) := by decide +kernel
theorem dX4_runChase_44 : decode cX4_runChase 44 = .ok (.invokevirtual 150, 3) := by decide +kernel
theorem dX4_runChase_47 : decode cX4_runChase 47 = .ok (.lastore, 1) := by decide +kernel
theorem dX4_runChase_48 : decode cX4_runChase 48 = .ok (.aload_n 0, 1) := by decide +kernel
theorem dX4_runChase_49 : decode cX4_runChase 49 = .ok (.iconst 2, 1) := by decide +kernel
theorem dX4_runChase_50 : decode cX4_runChase 50 = .ok (.iload_n 2, 1) := by decide +kernel
theorem dX4_runChase_51 : decode cX4_runChase 51 = .ok (.iconst 0, 1) := by decide +kernel
theorem dX4_runChase_52 : decode cX4_runChase 52 = .ok (.invokevirtual 154, 3) := by decide +kernel
theorem dX4_runChase_55 : decode cX4_runChase 55 = .ok (.iconst 1, 1) := by decide +kernel
theorem dX4_runChase_56 : decode cX4_runChase 56 = .ok (.istore_n 3, 1) := by decide +kernel
theorem dX4_runChase_57 : decode cX4_runChase 57 = .ok (.iload_n 3, 1) := by decide +kernel
theorem dX4_runChase_58 : decode cX4_runChase 58 = .ok (.iload_n 2, 1) := by decide +kernel
theorem dX4_runChase_59 : decode cX4_runChase 59 = .ok (.if_icmp .gt 77, 3) := by decide +kernel
theorem dX4_runChase_62 : decode cX4_runChase 62 = .ok (.iload_n 3, 1) := by decide +kernel
theorem dX4_runChase_63 : decode cX4_runChase 63 = .ok (.bipush 60, 2) := by decide +kernel
theorem dX4_runChase_65 : decode cX4_runChase 65 = .ok (.if_icmp .gt 71, 3) := by decide +kernel
theorem dX4_runChase_68 : decode cX4_runChase 68 = .ok (.aload_n 0, 1) := by decide +kernel
theorem dX4_runChase_69 : decode cX4_runChase 69 = .ok (.invokevirtual 158, 3) := by decide +kernel
theorem dX4_runChase_72 : decode cX4_runChase 72 = .ok (.istore 4, 2) := by decide +kernel
theorem dX4_runChase_74 : decode cX4_runChase 74 = .ok (.aload_n 0, 1) := by decide +kernel
theorem dX4_runChase_75 : decode cX4_runChase 75 = .ok (.getfield 15, 3) := by decide +kernel
theorem dX4_runChase_78 : decode cX4_runChase 78 = .ok (.iload_n 3, 1) := by decide +kernel
theorem dX4_runChase_79 : decode cX4_runChase 79 = .ok (.aload_n 0, 1) := by decide +kernel
theorem dX4_runChase_80 : decode cX4_runChase 80 = .ok (.invokevirtual 150, 3) := by decide +kernel
theorem dX4_runChase_83 : decode cX4_runChase 83 = .ok (.lastore, 1) := by decide +kernel
theorem dX4_runChase_84 : decode cX4_runChase 84 = .ok (.iload 4, 2) := by decide +kernel
theorem dX4_runChase_86 : decode cX4_runChase 86 = .ok (.ifCond .eq 11, 3) := by decide +kernel
theorem dX4_runChase_89 : decode cX4_runChase 89 = .ok (.aload_n 0, 1) := by decide +kernel
theorem dX4_runChase_90 : decode cX4_runChase 90 = .ok (.iload_n 3, 1) := by decide +kernel
theorem dX4_runChase_91 : decode cX4_runChase 91 = .ok (.invokevirtual 162, 3) := by decide +kernel
theorem dX4_runChase_94 : decode cX4_runChase 94 = .ok (.goto 4, 3) := by decide +kernel
theorem dX4_runChase_97 : decode cX4_runChase 97 = .ok (.iconst 0, 1) := by decide +kernel
theorem dX4_runChase_98 : decode cX4_runChase 98 = .ok (.istore 5, 2) := by decide +kernel
theorem dX4_runChase_100 : decode cX4_runChase 100 = .ok (.iload 4, 2) := by decide +kernel
theorem dX4_runChase_102 : decode cX4_runChase 102 = .ok (.ifCond .eq 8, 3) := by decide +kernel
theorem dX4_runChase_105 : decode cX4_runChase 105 = .ok (.iload 5, 2) := by decide +kernel
theorem dX4_runChase_107 : decode cX4_runChase 107 = .ok (.ifCond .le 23, 3) := by decide +kernel
theorem dX4_runChase_110 : decode cX4_runChase 110 = .ok (.aload_n 0, 1) := by decide +kernel
theorem dX4_runChase_111 : decode cX4_runChase 111 = .ok (.iload 4, 2) := by decide +kernel
theorem dX4_runChase_113 : decode cX4_runChase 113 = .ok (.ifCond .eq 7, 3) := by decide +kernel
theorem dX4_runChase_116 : decode cX4_runChase 116 = .ok (.iconst 1, 1) := by decide +kernel
theorem dX4_runChase_117 : decode cX4_runChase 117 = .ok (.goto 4, 3) := by decide +kernel
theorem dX4_runChase_120 : decode cX4_runChase 120 = .ok (.iconst 0, 1) := by decide +kernel
theorem dX4_runChase_121 : decode cX4_runChase 121 = .ok (.iload_n 3, 1) := by decide +kernel
theorem dX4_runChase_122 : decode cX4_runChase 122 = .ok (.iload 5, 2) := by decide +kernel
theorem dX4_runChase_124 : decode cX4_runChase 124 = .ok (.invokevirtual 154, 3) := by decide +kernel
theorem dX4_runChase_127 : decode cX4_runChase 127 = .ok (.goto 9, 3) := by decide +kernel
theorem dX4_runChase_130 : decode cX4_runChase 130 = .ok (.iinc 3 1, 3) := by decide +kernel
theorem dX4_runChase_133 : decode cX4_runChase 133 = .ok (.goto (-76), 3) := by decide +kernel
theorem dX4_runChase_136 : decode cX4_runChase 136 = .ok (.aload_n 0, 1) := by decide +kernel
theorem dX4_runChase_137 : decode cX4_runChase 137 = .ok (.getfield 57, 3) := by decide +kernel
theorem dX4_runChase_140 : decode cX4_runChase 140 = .ok (.getfield 71, 3) := by decide +kernel
theorem dX4_runChase_143 : decode cX4_runChase 143 = .ok (.iconst 0, 1) := by decide +kernel
theorem dX4_runChase_144 : decode cX4_runChase 144 = .ok (.aload_n 0, 1) := by decide +kernel
theorem dX4_runChase_145 : decode cX4_runChase 145 = .ok (.getfield 19, 3) := by decide +kernel
theorem dX4_runChase_148 : decode cX4_runChase 148 = .ok (.iconst 0, 1) := by decide +kernel
theorem dX4_runChase_149 : decode cX4_runChase 149 = .ok (.iconst 4, 1) := by decide +kernel
theorem dX4_runChase_150 : decode cX4_runChase 150 = .ok (.invokestatic 165, 3) := by decide +kernel
theorem dX4_runChase_153 : decode cX4_runChase 153 = .ok (.aload_n 0, 1) := by decide +kernel
theorem dX4_runChase_154 : decode cX4_runChase 154 = .ok (.getfield 57, 3) := by decide +kernel
theorem dX4_runChase_157 : decode cX4_runChase 157 = .ok (.getfield 66, 3) := by decide +kernel
theorem dX4_runChase_160 : decode cX4_runChase 160 = .ok (.iconst 0, 1) := by decide +kernel
theorem dX4_runChase_161 : decode cX4_runChase 161 = .ok (.aload_n 0, 1) := by decide +kernel
theorem dX4_runChase_162 : decode cX4_runChase 162 = .ok (.getfield 22, 3) := by decide +kernel
theorem dX4_runChase_165 : decode cX4_runChase 165 = .ok (.iconst 0, 1) := by decide +kernel
theorem dX4_runChase_166 : decode cX4_runChase 166 = .ok (.iconst 4, 1) := by decide +kernel
theorem dX4_runChase_167 : decode cX4_runChase 167 = .ok (.invokestatic 165, 3) := by decide +kernel
theorem dX4_runChase_170 : decode cX4_runChase 170 = .ok (.return_, 1) := by decide +kernel
theorem dX4_endChase_0 : decode cX4_endChase 0 = .ok (.aload_n 0, 1) := by decide +kernel
theorem dX4_endChase_1 : decode cX4_endChase 1 = .ok (.getfield 25, 3) := by decide +kernel
theorem dX4_endChase_4 : decode cX4_endChase 4 = .ok (.iconst 0, 1) := by decide +kernel
theorem dX4_endChase_5 : decode cX4_endChase 5 = .ok (.iload_n 1, 1) := by decide +kernel
theorem dX4_endChase_6 : decode cX4_endChase 6 = .ok (.iastore, 1) := by decide +kernel
theorem dX4_endChase_7 : decode cX4_endChase 7 = .ok (.aload_n 0, 1) := by decide +kernel
theorem dX4_endChase_8 : decode cX4_endChase 8 = .ok (.getfield 25, 3) := by decide +kernel
theorem dX4_endChase_11 : decode cX4_endChase 11 = .ok (.iconst 1, 1) := by decide +kernel
theorem dX4_endChase_12 : decode cX4_endChase 12 = .ok (.iload_n 2, 1) := by decide +kernel
theorem dX4_endChase_13 : decode cX4_endChase 13 = .ok (.iastore, 1) := by decide +kernel
theorem dX4_endChase_14 : decode cX4_endChase 14 = .ok (.aload_n 0, 1) := by decide +kernel
theorem dX4_endChase_15 : decode cX4_endChase 15 = .ok (.getfield 25, 3) := by decide +kernel
theorem dX4_endChase_18 : decode cX4_endChase 18 = .ok (.iconst 2, 1) := by decide +kernel
theorem dX4_endChase_19 : decode cX4_endChase 19 = .ok (.iload_n 3, 1) := by decide +kernel
theorem dX4_endChase_20 : decode cX4_endChase 20 = .ok (.iastore, 1) := by decide +kernel
theorem dX4_endChase_21 : decode cX4_endChase 21 = .ok (.return_, 1) := by decide +kernel
theorem dX4_goOneRound_0 : decode cX4_goOneRound 0 = .ok (.iconst 0, 1) := by decide +kernel
theorem dX4_goOneRound_1 : decode cX4_goOneRound 1 = .ok (.istore_n 1, 1) := by decide +kernel
theorem dX4_goOneRound_2 : decode cX4_goOneRound 2 = .ok (.iconst 0, 1) := by decide +kernel
theorem dX4_goOneRound_3 : decode cX4_goOneRound 3 = .ok (.istore_n 2, 1) := by decide +kernel
theorem dX4_goOneRound_4 : decode cX4_goOneRound 4 = .ok (.iload_n 2, 1) := by decide +kernel
theorem dX4_goOneRound_5 : decode cX4_goOneRound 5 = .ok (.aload_n 0, 1) := by decide +kernel
theorem dX4_goOneRound_6 : decode cX4_goOneRound 6 = .ok (.getfield 57, 3) := by decide +kernel
theorem dX4_goOneRound_9 : decode cX4_goOneRound 9 = .ok (.getfield 140, 3) := by decide +kernel
theorem dX4_goOneRound_12 : decode cX4_goOneRound 12 = .ok (.if_icmp .ge 30, 3) := by decide +kernel
theorem dX4_goOneRound_15 : decode cX4_goOneRound 15 = .ok (.aload_n 0, 1) := by decide +kernel
theorem dX4_goOneRound_16 : decode cX4_goOneRound 16 = .ok (.iload_n 2, 1) := by decide +kernel
theorem dX4_goOneRound_17 : decode cX4_goOneRound 17 = .ok (.invokevirtual 143, 3) := by decide +kernel
theorem dX4_goOneRound_20 : decode cX4_goOneRound 20 = .ok (.aload_n 0, 1) := by decide +kernel
theorem dX4_goOneRound_21 : decode cX4_goOneRound 21 = .ok (.iload_n 2, 1) := by decide +kernel
theorem dX4_goOneRound_22 : decode cX4_goOneRound 22 = .ok (.aload_n 0, 1) := by decide +kernel
theorem dX4_goOneRound_23 : decode cX4_goOneRound 23 = .ok (.getfield 32, 3) := by decide +kernel
theorem dX4_goOneRound_26 : decode cX4_goOneRound 26 = .ok (.invokevirtual 137, 3) := by decide +kernel
theorem dX4_goOneRound_29 : decode cX4_goOneRound 29 = .ok (.iload_n 1, 1) := by decide +kernel
theorem dX4_goOneRound_30 : decode cX4_goOneRound 30 = .ok (.aload_n 0, 1) := by decide +kernel
theorem dX4_goOneRound_31 : decode cX4_goOneRound 31 = .ok (.getfield 39, 3) := by decide +kernel
theorem dX4_goOneRound_34 : decode cX4_goOneRound 34 = .ok (.ior, 1) := by decide +kernel
theorem dX4_goOneRound_35 : decode cX4_goOneRound 35 = .ok (.istore_n 1, 1) := by decide +kernel
theorem dX4_goOneRound_36 : decode cX4_goOneRound 36 = .ok (.iinc 2 1, 3) := by decide +kernel
theorem dX4_goOneRound_39 : decode cX4_goOneRound 39 = .ok (.goto (-35), 3) := by decide +kernel
theorem dX4_goOneRound_42 : decode cX4_goOneRound 42 = .ok (.iload_n 1, 1) := by decide +kernel
theorem dX4_goOneRound_43 : decode cX4_goOneRound 43 = .ok (.ireturn, 1) := by decide +kernel
theorem dX4_snapshot_0 : decode cX4_snapshot 0 = .ok (.lconst 0, 1) := by decide +kernel
theorem dX4_snapshot_1 : decode cX4_snapshot 1 = .ok (.lstore_n 1, 1) := by decide +kernel
theorem dX4_snapshot_2 : decode cX4_snapshot 2 = .ok (.iconst 0, 1) := by decide +kernel
theorem dX4_snapshot_3 : decode cX4_snapshot 3 = .ok (.istore_n 3, 1) := by decide +kernel
theorem dX4_snapshot_4 : decode cX4_snapshot 4 = .ok (.iload_n 3, 1) := by decide +kernel
theorem dX4_snapshot_5 : decode cX4_snapshot 5 = .ok (.aload_n 0, 1) := by decide +kernel
theorem dX4_snapshot_6 : decode cX4_snapshot 6 = .ok (.getfield 57, 3) := by decide +kernel
theorem dX4_snapshot_9 : decode cX4_snapshot 9 = .ok (.getfield 140, 3) := by decide +kernel
theorem dX4_snapshot_12 : decode cX4_snapshot 12 = .ok (.if_icmp .ge 39, 3) := by decide +kernel
theorem dX4_snapshot_15 : decode cX4_snapshot 15 = .ok (.lload_n 1, 1) := by decide +kernel
theorem dX4_snapshot_16 : decode cX4_snapshot 16 = .ok (.bipush 15, 2) := by decide +kernel
theorem dX4_snapshot_18 : decode cX4_snapshot 18 = .ok (.lshl, 1) := by decide +kernel
theorem dX4_snapshot_19 : decode cX4_snapshot 19 = .ok (.aload_n 0, 1) := by decide +kernel
theorem dX4_snapshot_20 : decode cX4_snapshot 20 = .ok (.getfield 57, 3) := by decide +kernel
theorem dX4_snapshot_23 : decode cX4_snapshot 23 = .ok (.getfield 71, 3) := by decide +kernel
theorem dX4_snapshot_26 : decode cX4_snapshot 26 = .ok (.iload_n 3, 1) := by decide +kernel
theorem dX4_snapshot_27 : decode cX4_snapshot 27 = .ok (.iaload, 1) := by decide +kernel
theorem dX4_snapshot_28 : decode cX4_snapshot 28 = .ok (.bipush 6, 2) := by decide +kernel
theorem dX4_snapshot_30 : decode cX4_snapshot 30 = .ok (.ishl, 1) := by decide +kernel
theorem dX4_snapshot_31 : decode cX4_snapshot 31 = .ok (.i2l, 1) := by decide +kernel
theorem dX4_snapshot_32 : decode cX4_snapshot 32 = .ok (.lor, 1) := by decide +kernel
theorem dX4_snapshot_33 : decode cX4_snapshot 33 = .ok (.aload_n 0, 1) := by decide +kernel
theorem dX4_snapshot_34 : decode cX4_snapshot 34 = .ok (.getfield 57, 3) := by decide +kernel
theorem dX4_snapshot_37 : decode cX4_snapshot 37 = .ok (.getfield 66, 3) := by decide +kernel
theorem dX4_snapshot_40 : decode cX4_snapshot 40 = .ok (.iload_n 3, 1) := by decide +kernel
theorem dX4_snapshot_41 : decode cX4_snapshot 41 = .ok (.iaload, 1) := by decide +kernel
theorem dX4_snapshot_42 : decode cX4_snapshot 42 = .ok (.i2l, 1) := by decide +kernel
theorem dX4_snapshot_43 : decode cX4_snapshot 43 = .ok (.lor, 1) := by decide +kernel
theorem dX4_snapshot_44 : decode cX4_snapshot 44 = .ok (.lstore_n 1, 1) := by decide +kernel
theorem dX4_snapshot_45 : decode cX4_snapshot 45 = .ok (.iinc 3 1, 3) := by decide +kernel
theorem dX4_snapshot_48 : decode cX4_snapshot 48 = .ok (.goto (-44), 3) := by decide +kernel
theorem dX4_snapshot_51 : decode cX4_snapshot 51 = .ok (.lload_n 1, 1) := by decide +kernel
theorem dX4_snapshot_52 : decode cX4_snapshot 52 = .ok (.lreturn, 1) := by decide +kernel
theorem dX4_sameAgo_0 : decode cX4_sameAgo 0 = .ok (.iload_n 1, 1) := by decide +kernel
theorem dX4_sameAgo_1 : decode cX4_sameAgo 1 = .ok (.iconst 1, 1) := by decide +kernel
theorem dX4_sameAgo_2 : decode cX4_sameAgo 2 = .ok (.isub, 1) := by decide +kernel
theorem dX4_sameAgo_3 : decode cX4_sameAgo 3 = .ok (.istore_n 2, 1) := by decide +kernel
theorem dX4_sameAgo_4 : decode cX4_sameAgo 4 = .ok (.iload_n 2, 1) := by decide +kernel
theorem dX4_sameAgo_5 : decode cX4_sameAgo 5 = .ok (.ifCond .lt 29, 3) := by decide +kernel
theorem dX4_sameAgo_8 : decode cX4_sameAgo 8 = .ok (.aload_n 0, 1) := by decide +kernel
theorem dX4_sameAgo_9 : decode cX4_sameAgo 9 = .ok (.getfield 15, 3) := by decide +kernel
theorem dX4_sameAgo_12 : decode cX4_sameAgo 12 = .ok (.iload_n 2, 1) := by decide +kernel
theorem dX4_sameAgo_13 : decode cX4_sameAgo 13 = .ok (.laload, 1) := by decide +kernel
theorem dX4_sameAgo_14 : decode cX4_sameAgo 14 = .ok (.aload_n 0, 1) := by decide +kernel
theorem dX4_sameAgo_15 : decode cX4_sameAgo 15 = .ok (.getfield 15, 3) := by decide +kernel
theorem dX4_sameAgo_18 : decode cX4_sameAgo 18 = .ok (.iload_n 1, 1) := by decide +kernel
theorem dX4_sameAgo_19 : decode cX4_sameAgo 19 = .ok (.laload, 1) := by decide +kernel
theorem dX4_sameAgo_20 : decode cX4_sameAgo 20 = .ok (.lcmp, 1) := by decide +kernel
theorem dX4_sameAgo_21 : decode cX4_sameAgo 21 = .ok (.ifCond .ne 7, 3) := by decide +kernel
theorem dX4_sameAgo_24 : decode cX4_sameAgo 24 = .ok (.iload_n 1, 1) := by decide +kernel
theorem dX4_sameAgo_25 : decode cX4_sameAgo 25 = .ok (.iload_n 2, 1) := by decide +kernel
theorem dX4_sameAgo_26 : decode cX4_sameAgo 26 = .ok (.isub, 1) := by decide +kernel
theorem dX4_sameAgo_27 : decode cX4_sameAgo 27 = .ok (.ireturn, 1) := by decide +kernel
theorem dX4_sameAgo_28 : decode cX4_sameAgo 28 = .ok (.iinc 2 (-1), 3) := by decide +kernel
theorem dX4_sameAgo_31 : decode cX4_sameAgo 31 = .ok (.goto (-27), 3) := by decide +kernel
theorem dX4_sameAgo_34 : decode cX4_sameAgo 34 = .ok (.iconst 0, 1) := by decide +kernel
theorem dX4_sameAgo_35 : decode cX4_sameAgo 35 = .ok (.ireturn, 1) := by decide +kernel
theorem dX4_leastShift_0 : decode cX4_leastShift 0 = .ok (.aload_n 0, 1) := by decide +kernel
theorem dX4_leastShift_1 : decode cX4_leastShift 1 = .ok (.getfield 49, 3) := by decide +kernel
theorem dX4_leastShift_4 : decode cX4_leastShift 4 = .ok (.getfield 171, 3) := by decide +kernel
theorem dX4_leastShift_7 : decode cX4_leastShift 7 = .ok (.iload_n 1, 1) := by decide +kernel
theorem dX4_leastShift_8 : decode cX4_leastShift 8 = .ok (.iaload, 1) := by decide +kernel
theorem dX4_leastShift_9 : decode cX4_leastShift 9 = .ok (.iconst 1, 1) := by decide +kernel
theorem dX4_leastShift_10 : decode cX4_leastShift 10 = .ok (.iadd, 1) := by decide +kernel
theorem dX4_leastShift_11 : decode cX4_leastShift 11 = .ok (.istore_n 3, 1) := by decide +kernel
theorem dX4_leastShift_12 : decode cX4_leastShift 12 = .ok (.iconst 0, 1) := by decide +kernel
theorem dX4_leastShift_13 : decode cX4_leastShift 13 = .ok (.istore 4, 2) := by decide +kernel
theorem dX4_leastShift_15 : decode cX4_leastShift 15 = .ok (.iload 4, 2) := by decide +kernel
theorem dX4_leastShift_17 : decode cX4_leastShift 17 = .ok (.aload_n 0, 1) := by decide +kernel
theorem dX4_leastShift_18 : decode cX4_leastShift 18 = .ok (.getfield 57, 3) := by decide +kernel
theorem dX4_leastShift_21 : decode cX4_leastShift 21 = .ok (.getfield 140, 3) := by decide +kernel
theorem dX4_leastShift_24 : decode cX4_leastShift 24 = .ok (.if_icmp .ge 22, 3) := by decide +kernel
theorem dX4_leastShift_27 : decode cX4_leastShift 27 = .ok (.iload_n 3, 1) := by decide +kernel
theorem dX4_leastShift_28 : decode cX4_leastShift 28 = .ok (.aload_n 0, 1) := by decide +kernel
theorem dX4_leastShift_29 : decode cX4_leastShift 29 = .ok (.iload 4, 2) := by decide +kernel
theorem dX4_leastShift_31 : decode cX4_leastShift 31 = .ok (.iload_n 1, 1) := by decide +kernel
theorem dX4_leastShift_32 : decode cX4_leastShift 32 = .ok (.iload_n 2, 1) := by decide +kernel
theorem dX4_leastShift_33 : decode cX4_leastShift 33 = .ok (.invokevirtual 174, 3) := by decide +kernel
theorem dX4_leastShift_36 : decode cX4_leastShift 36 = .ok (.invokestatic 178, 3) := by decide +kernel
theorem dX4_leastShift_39 : decode cX4_leastShift 39 = .ok (.istore_n 3, 1) := by decide +kernel
theorem dX4_leastShift_40 : decode cX4_leastShift 40 = .ok (.iinc 4 1, 3) := by decide +kernel
theorem dX4_leastShift_43 : decode cX4_leastShift 43 = .ok (.goto (-28), 3) := by decide +kernel
theorem dX4_leastShift_46 : decode cX4_leastShift 46 = .ok (.iload_n 3, 1) := by decide +kernel
theorem dX4_leastShift_47 : decode cX4_leastShift 47 = .ok (.iconst 1, 1) := by decide +kernel
theorem dX4_leastShift_48 : decode cX4_leastShift 48 = .ok (.if_icmp .lt 16, 3) := by decide +kernel
theorem dX4_leastShift_51 : decode cX4_leastShift 51 = .ok (.iload_n 3, 1) := by decide +kernel
theorem dX4_leastShift_52 : decode cX4_leastShift 52 = .ok (.aload_n 0, 1) := by decide +kernel
theorem dX4_leastShift_53 : decode cX4_leastShift 53 = .ok (.getfield 49, 3) := by decide +kernel
theorem dX4_leastShift_56 : decode cX4_leastShift 56 = .ok (.getfield 171, 3) := by decide +kernel
theorem dX4_leastShift_59 : decode cX4_leastShift 59 = .ok (.iload_n 1, 1) := by decide +kernel
theorem dX4_leastShift_60 : decode cX4_leastShift 60 = .ok (.iaload, 1) := by decide +kernel
theorem dX4_leastShift_61 : decode cX4_leastShift 61 = .ok (.if_icmp .le 7, 3) := by decide +kernel
theorem dX4_leastShift_64 : decode cX4_leastShift 64 = .ok (.iconst (-1), 1) := by decide +kernel
theorem dX4_leastShift_65 : decode cX4_leastShift 65 = .ok (.goto 4, 3) := by decide +kernel
theorem dX4_leastShift_68 : decode cX4_leastShift 68 = .ok (.iload_n 3, 1) := by decide +kernel
theorem dX4_leastShift_69 : decode cX4_leastShift 69 = .ok (.ireturn, 1) := by decide +kernel
theorem dX4_leastShiftFor_0 : decode cX4_leastShiftFor 0 = .ok (.aload_n 0, 1) := by decide +kernel
theorem dX4_leastShiftFor_1 : decode cX4_leastShiftFor 1 = .ok (.iload_n 1, 1) := by decide +kernel
theorem dX4_leastShiftFor_2 : decode cX4_leastShiftFor 2 = .ok (.invokevirtual 86, 3) := by decide +kernel
theorem dX4_leastShiftFor_5 : decode cX4_leastShiftFor 5 = .ok (.istore 4, 2) := by decide +kernel
theorem dX4_leastShiftFor_7 : decode cX4_leastShiftFor 7 = .ok (.aload_n 0, 1) := by decide +kernel
theorem dX4_leastShiftFor_8 : decode cX4_leastShiftFor 8 = .ok (.getfield 57, 3) := by decide +kernel
theorem dX4_leastShiftFor_11 : decode cX4_leastShiftFor 11 = .ok (.getfield 123, 3) := by decide +kernel
theorem dX4_leastShiftFor_14 : decode cX4_leastShiftFor 14 = .ok (.iload_n 1, 1) := by decide +kernel
theorem dX4_leastShiftFor_15 : decode cX4_leastShiftFor 15 = .ok (.iaload, 1) := by decide +kernel
theorem dX4_leastShiftFor_16 : decode cX4_leastShiftFor 16 = .ok (.istore 5, 2) := by decide +kernel
theorem dX4_leastShiftFor_18 : decode cX4_leastShiftFor 18 = .ok (.aload_n 0, 1) := by decide +kernel
theorem dX4_leastShiftFor_19 : decode cX4_leastShiftFor 19 = .ok (.getfield 57, 3) := by decide +kernel
theorem dX4_leastShiftFor_22 : decode cX4_leastShiftFor 22 = .ok (.invokevirtual 126, 3) := by decide +kernel
theorem dX4_leastShiftFor_25 : decode cX4_leastShiftFor 25 = .ok (.aload_n 0, 1) := by decide +kernel
theorem dX4_leastShiftFor_26 : decode cX4_leastShiftFor 26 = .ok (.getfield 57, 3) := by decide +kernel
theorem dX4_leastShiftFor_29 : decode cX4_leastShiftFor 29 = .ok (.iload 5, 2) := by decide +kernel
theorem dX4_leastShiftFor_31 : decode cX4_leastShiftFor 31 = .ok (.invokevirtual 129, 3) := by decide +kernel
theorem dX4_leastShiftFor_34 : decode cX4_leastShiftFor 34 = .ok (.lstore 6, 2) := by decide +kernel
theorem dX4_leastShiftFor_36 : decode cX4_leastShiftFor 36 = .ok (.aload_n 0, 1) := by decide +kernel
theorem dX4_leastShiftFor_37 : decode cX4_leastShiftFor 37 = .ok (.getfield 57, 3) := by decide +kernel
theorem dX4_leastShiftFor_40 : decode cX4_leastShiftFor 40 = .ok (.iload 5, 2) := by decide +kernel
theorem dX4_leastShiftFor_42 : decode cX4_leastShiftFor 42 = .ok (.iload_n 3, 1) := by decide +kernel
theorem dX4_leastShiftFor_43 : decode cX4_leastShiftFor 43 = .ok (.invokevirtual 183, 3) := by decide +kernel
theorem dX4_leastShiftFor_46 : decode cX4_leastShiftFor 46 = .ok (.aload_n 0, 1) := by decide +kernel
theorem dX4_leastShiftFor_47 : decode cX4_leastShiftFor 47 = .ok (.getfield 57, 3) := by decide +kernel
theorem dX4_leastShiftFor_50 : decode cX4_leastShiftFor 50 = .ok (.iload 5, 2) := by decide +kernel
theorem dX4_leastShiftFor_52 : decode cX4_leastShiftFor 52 = .ok (.iload_n 2, 1) := by decide +kernel
theorem dX4_leastShiftFor_53 : decode cX4_leastShiftFor 53 = .ok (.invokevirtual 183, 3) := by decide +kernel
theorem dX4_leastShiftFor_56 : decode cX4_leastShiftFor 56 = .ok (.isub, 1) := by decide +kernel
theorem dX4_leastShiftFor_57 : decode cX4_leastShiftFor 57 = .ok (.istore 8, 2) := by decide +kernel
theorem dX4_leastShiftFor_59 : decode cX4_leastShiftFor 59 = .ok (.aload_n 0, 1) := by decide +kernel
theorem dX4_leastShiftFor_60 : decode cX4_leastShiftFor 60 = .ok (.getfield 49, 3) := by decide +kernel
theorem dX4_leastShiftFor_63 : decode cX4_leastShiftFor 63 = .ok (.getfield 171, 3) := by decide +kernel
theorem dX4_leastShiftFor_66 : decode cX4_leastShiftFor 66 = .ok (.iload_n 2, 1) := by decide +kernel
theorem dX4_leastShiftFor_67 : decode cX4_leastShiftFor 67 = .ok (.iaload, 1) := by decide +kernel
theorem dX4_leastShiftFor_68 : decode cX4_leastShiftFor 68 = .ok (.iconst 1, 1) := by decide +kernel
theorem dX4_leastShiftFor_69 : decode cX4_leastShiftFor 69 = .ok (.iadd, 1) := by decide +kernel
theorem dX4_leastShiftFor_70 : decode cX4_leastShiftFor 70 = .ok (.i2l, 1) := by decide +kernel
theorem dX4_leastShiftFor_71 : decode cX4_leastShiftFor 71 = .ok (.lstore 9, 2) := by decide +kernel
theorem dX4_leastShiftFor_73 : decode cX4_leastShiftFor 73 = .ok (.aload_n 0, 1) := by decide +kernel
theorem dX4_leastShiftFor_74 : decode cX4_leastShiftFor 74 = .ok (.iload_n 1, 1) := by decide +kernel
theorem dX4_leastShiftFor_75 : decode cX4_leastShiftFor 75 = .ok (.invokevirtual 133, 3) := by decide +kernel
theorem dX4_leastShiftFor_78 : decode cX4_leastShiftFor 78 = .ok (.iconst 0, 1) := by decide +kernel
theorem dX4_leastShiftFor_79 : decode cX4_leastShiftFor 79 = .ok (.istore 11, 2) := by decide +kernel
theorem dX4_leastShiftFor_81 : decode cX4_leastShiftFor 81 = .ok (.iload 11, 2) := by decide +kernel
theorem dX4_leastShiftFor_83 : decode cX4_leastShiftFor 83 = .ok (.aload_n 0, 1) := by decide +kernel
theorem dX4_leastShiftFor_84 : decode cX4_leastShiftFor 84 = .ok (.getfield 28, 3) := by decide +kernel
theorem dX4_leastShiftFor_87 : decode cX4_leastShiftFor 87 = .ok (.if_icmp .ge 101, 3) := by decide +kernel
theorem dX4_leastShiftFor_90 : decode cX4_leastShiftFor 90 = .ok (.aload_n 0, 1) := by decide +kernel
theorem dX4_leastShiftFor_91 : decode cX4_leastShiftFor 91 = .ok (.iload_n 1, 1) := by decide +kernel
theorem dX4_leastShiftFor_92 : decode cX4_leastShiftFor 92 = .ok (.aload_n 0, 1) := by decide +kernel
theorem dX4_leastShiftFor_93 : decode cX4_leastShiftFor 93 = .ok (.getfield 11, 3) := by decide +kernel
theorem dX4_leastShiftFor_96 : decode cX4_leastShiftFor 96 = .ok (.iload 11, 2) := by decide +kernel
theorem dX4_leastShiftFor_98 : decode cX4_leastShiftFor 98 = .ok (.iaload, 1) := by decide +kernel
theorem dX4_leastShiftFor_99 : decode cX4_leastShiftFor 99 = .ok (.invokevirtual 137, 3) := by decide +kernel
theorem dX4_leastShiftFor_102 : decode cX4_leastShiftFor 102 = .ok (.aload_n 0, 1) := by decide +kernel
theorem dX4_leastShiftFor_103 : decode cX4_leastShiftFor 103 = .ok (.getfield 57, 3) := by decide +kernel
theorem dX4_leastShiftFor_106 : decode cX4_leastShiftFor 106 = .ok (.invokevirtual 126, 3) := by decide +kernel
theorem dX4_leastShiftFor_109 : decode cX4_leastShiftFor 109 = .ok (.lload 6, 2) := by decide +kernel
theorem dX4_leastShiftFor_111 : decode cX4_leastShiftFor 111 = .ok (.aload_n 0, 1) := by decide +kernel
theorem dX4_leastShiftFor_112 : decode cX4_leastShiftFor 112 = .ok (.getfield 57, 3) := by decide +kernel
theorem dX4_leastShiftFor_115 : decode cX4_leastShiftFor 115 = .ok (.iload 5, 2) := by decide +kernel
theorem dX4_leastShiftFor_117 : decode cX4_leastShiftFor 117 = .ok (.invokevirtual 129, 3) := by decide +kernel
theorem dX4_leastShiftFor_120 : decode cX4_leastShiftFor 120 = .ok (.lsub, 1) := by decide +kernel
theorem dX4_leastShiftFor_121 : decode cX4_leastShiftFor 121 = .ok (.lstore 12, 2) := by decide +kernel
theorem dX4_leastShiftFor_123 : decode cX4_leastShiftFor 123 = .ok (.aload_n 0, 1) := by decide +kernel
theorem dX4_leastShiftFor_124 : decode cX4_leastShiftFor 124 = .ok (.getfield 57, 3) := by decide +kernel
theorem dX4_leastShiftFor_127 : decode cX4_leastShiftFor 127 = .ok (.iload 5, 2) := by decide +kernel
theorem dX4_leastShiftFor_129 : decode cX4_leastShiftFor 129 = .ok (.iload_n 3, 1) := by decide +kernel
theorem dX4_leastShiftFor_130 : decode cX4_leastShiftFor 130 = .ok (.invokevirtual 183, 3) := by decide +kernel
theorem dX4_leastShiftFor_133 : decode cX4_leastShiftFor 133 = .ok (.aload_n 0, 1) := by decide +kernel
theorem dX4_leastShiftFor_134 : decode cX4_leastShiftFor 134 = .ok (.getfield 57, 3) := by decide +kernel
theorem dX4_leastShiftFor_137 : decode cX4_leastShiftFor 137 = .ok (.iload 5, 2) := by decide +kernel
theorem dX4_leastShiftFor_139 : decode cX4_leastShiftFor 139 = .ok (.iload_n 2, 1) := by decide +kernel
theorem dX4_leastShiftFor_140 : decode cX4_leastShiftFor 140 = .ok (.invokevirtual 183, 3) := by decide +kernel
theorem dX4_leastShiftFor_143 : decode cX4_leastShiftFor 143 = .ok (.isub, 1) := by decide +kernel
theorem dX4_leastShiftFor_144 : decode cX4_leastShiftFor 144 = .ok (.iload 8, 2) := by decide +kernel
theorem dX4_leastShiftFor_146 : decode cX4_leastShiftFor 146 = .ok (.isub, 1) := by decide +kernel
theorem dX4_leastShiftFor_147 : decode cX4_leastShiftFor 147 = .ok (.istore 14, 2) := by decide +kernel
theorem dX4_leastShiftFor_149 : decode cX4_leastShiftFor 149 = .ok (.lload 12, 2) := by decide +kernel
theorem dX4_leastShiftFor_151 : decode cX4_leastShiftFor 151 = .ok (.lconst 0, 1) := by decide +kernel
theorem dX4_leastShiftFor_152 : decode cX4_leastShiftFor 152 = .ok (.lcmp, 1) := by decide +kernel
theorem dX4_leastShiftFor_153 : decode cX4_leastShiftFor 153 = .ok (.ifCond .ge 9, 3) := by decide +kernel
theorem dX4_leastShiftFor_156 : decode cX4_leastShiftFor 156 = .ok (.lconst 0, 1) := by decide +kernel
theorem dX4_leastShiftFor_157 : decode cX4_leastShiftFor 157 = .ok (.lstore 9, 2) := by decide +kernel
theorem dX4_leastShiftFor_159 : decode cX4_leastShiftFor 159 = .ok (.goto 23, 3) := by decide +kernel
theorem dX4_leastShiftFor_162 : decode cX4_leastShiftFor 162 = .ok (.iload 14, 2) := by decide +kernel
theorem dX4_leastShiftFor_164 : decode cX4_leastShiftFor 164 = .ok (.ifCond .le 18, 3) := by decide +kernel
theorem dX4_leastShiftFor_167 : decode cX4_leastShiftFor 167 = .ok (.lload 9, 2) := by decide +kernel
theorem dX4_leastShiftFor_169 : decode cX4_leastShiftFor 169 = .ok (.lload 12, 2) := by decide +kernel
theorem dX4_leastShiftFor_171 : decode cX4_leastShiftFor 171 = .ok (.iload 14, 2) := by decide +kernel
theorem dX4_leastShiftFor_173 : decode cX4_leastShiftFor 173 = .ok (.i2l, 1) := by decide +kernel
theorem dX4_leastShiftFor_174 : decode cX4_leastShiftFor 174 = .ok (.ldiv, 1) := by decide +kernel
theorem dX4_leastShiftFor_175 : decode cX4_leastShiftFor 175 = .ok (.lconst 1, 1) := by decide +kernel
theorem dX4_leastShiftFor_176 : decode cX4_leastShiftFor 176 = .ok (.ladd, 1) := by decide +kernel
theorem dX4_leastShiftFor_177 : decode cX4_leastShiftFor 177 = .ok (.invokestatic 186, 3) := by decide +kernel
theorem dX4_leastShiftFor_180 : decode cX4_leastShiftFor 180 = .ok (.lstore 9, 2) := by decide +kernel
theorem dX4_leastShiftFor_182 : decode cX4_leastShiftFor 182 = .ok (.iinc 11 1, 3) := by decide +kernel
theorem dX4_leastShiftFor_185 : decode cX4_leastShiftFor 185 = .ok (.goto (-104), 3) := by decide +kernel
theorem dX4_leastShiftFor_188 : decode cX4_leastShiftFor 188 = .ok (.aload_n 0, 1) := by decide +kernel
theorem dX4_leastShiftFor_189 : decode cX4_leastShiftFor 189 = .ok (.iload_n 1, 1) := by decide +kernel
theorem dX4_leastShiftFor_190 : decode cX4_leastShiftFor 190 = .ok (.iload 4, 2) := by decide +kernel
theorem dX4_leastShiftFor_192 : decode cX4_leastShiftFor 192 = .ok (.invokevirtual 137, 3) := by decide +kernel
theorem dX4_leastShiftFor_195 : decode cX4_leastShiftFor 195 = .ok (.lload 9, 2) := by decide +kernel
theorem dX4_leastShiftFor_197 : decode cX4_leastShiftFor 197 = .ok (.l2i, 1) := by decide +kernel
theorem dX4_leastShiftFor_198 : decode cX4_leastShiftFor 198 = .ok (.ireturn, 1) := by decide +kernel
theorem dX1_init_0 : decode cX1_init 0 = .ok (.aload_n 0, 1) := by decide +kernel
theorem dX1_init_1 : decode cX1_init 1 = .ok (.invokespecial 3, 3) := by decide +kernel
theorem dX1_init_4 : decode cX1_init 4 = .ok (.aload_n 0, 1) := by decide +kernel
theorem dX1_init_5 : decode cX1_init 5 = .ok (.sipush 5184, 3) := by decide +kernel
theorem dX1_init_8 : decode cX1_init 8 = .ok (.newarray .long, 2) := by decide +kernel
theorem dX1_init_10 : decode cX1_init 10 = .ok (.putfield 11, 3) := by decide +kernel
theorem dX1_init_13 : decode cX1_init 13 = .ok (.aload_n 0, 1) := by decide +kernel
theorem dX1_init_14 : decode cX1_init 14 = .ok (.sipush 1728, 3) := by decide +kernel
theorem dX1_init_17 : decode cX1_init 17 = .ok (.newarray .int, 2) := by decide +kernel
theorem dX1_init_19 : decode cX1_init 19 = .ok (.putfield 15, 3) := by decide +kernel
theorem dX1_init_22 : decode cX1_init 22 = .ok (.aload_n 0, 1) := by decide +kernel
theorem dX1_init_23 : decode cX1_init 23 = .ok (.iconst 3, 1) := by decide +kernel
theorem dX1_init_24 : decode cX1_init 24 = .ok (.newarray .int, 2) := by decide +kernel
theorem dX1_init_26 : decode cX1_init 26 = .ok (.putfield 19, 3) := by decide +kernel
theorem dX1_init_29 : decode cX1_init 29 = .ok (.aload_n 0, 1) := by decide +kernel
theorem dX1_init_30 : decode cX1_init 30 = .ok (.iconst 3, 1) := by decide +kernel
theorem dX1_init_31 : decode cX1_init 31 = .ok (.newarray .int, 2) := by decide +kernel
theorem dX1_init_33 : decode cX1_init 33 = .ok (.putfield 22, 3) := by decide +kernel
theorem dX1_init_36 : decode cX1_init 36 = .ok (.aload_n 0, 1) := by decide +kernel
theorem dX1_init_37 : decode cX1_init 37 = .ok (.iconst 4, 1) := by decide +kernel
theorem dX1_init_38 : decode cX1_init 38 = .ok (.newarray .long, 2) := by decide +kernel
theorem dX1_init_40 : decode cX1_init 40 = .ok (.putfield 25, 3) := by decide +kernel
theorem dX1_init_43 : decode cX1_init 43 = .ok (.aload_n 0, 1) := by decide +kernel
theorem dX1_init_44 : decode cX1_init 44 = .ok (.iconst 4, 1) := by decide +kernel
theorem dX1_init_45 : decode cX1_init 45 = .ok (.newarray .long, 2) := by decide +kernel
theorem dX1_init_47 : decode cX1_init 47 = .ok (.putfield 28, 3) := by decide +kernel
theorem dX1_init_50 : decode cX1_init 50 = .ok (.aload_n 0, 1) := by decide +kernel
theorem dX1_init_51 : decode cX1_init 51 = .ok (.iconst 3, 1) := by decide +kernel
theorem dX1_init_52 : decode cX1_init 52 = .ok (.newarray .long, 2) := by decide +kernel
theorem dX1_init_54 : decode cX1_init 54 = .ok (.putfield 31, 3) := by decide +kernel
theorem dX1_init_57 : decode cX1_init 57 = .ok (.aload_n 0, 1) := by decide +kernel
theorem dX1_init_58 : decode cX1_init 58 = .ok (.iconst 0, 1) := by decide +kernel
theorem dX1_init_59 : decode cX1_init 59 = .ok (.putfield 34, 3) := by decide +kernel
theorem dX1_init_62 : decode cX1_init 62 = .ok (.aload_n 0, 1) := by decide +kernel
theorem dX1_init_63 : decode cX1_init 63 = .ok (.iconst 0, 1) := by decide +kernel
theorem dX1_init_64 : decode cX1_init 64 = .ok (.putfield 38, 3) := by decide +kernel
theorem dX1_init_67 : decode cX1_init 67 = .ok (.aload_n 0, 1) := by decide +kernel
theorem dX1_init_68 : decode cX1_init 68 = .ok (.iconst (-1), 1) := by decide +kernel
theorem dX1_init_69 : decode cX1_init 69 = .ok (.putfield 41, 3) := by decide +kernel
theorem dX1_init_72 : decode cX1_init 72 = .ok (.aload_n 0, 1) := by decide +kernel
theorem dX1_init_73 : decode cX1_init 73 = .ok (.iconst (-1), 1) := by decide +kernel
theorem dX1_init_74 : decode cX1_init 74 = .ok (.putfield 44, 3) := by decide +kernel
theorem dX1_init_77 : decode cX1_init 77 = .ok (.aload_n 0, 1) := by decide +kernel
theorem dX1_init_78 : decode cX1_init 78 = .ok (.iconst (-1), 1) := by decide +kernel
theorem dX1_init_79 : decode cX1_init 79 = .ok (.putfield 47, 3) := by decide +kernel
theorem dX1_init_82 : decode cX1_init 82 = .ok (.aload_n 0, 1) := by decide +kernel
theorem dX1_init_83 : decode cX1_init 83 = .ok (.iconst (-1), 1) := by decide +kernel
theorem dX1_init_84 : decode cX1_init 84 = .ok (.putfield 50, 3) := by decide +kernel
theorem dX1_init_87 : decode cX1_init 87 = .ok (.aload_n 0, 1) := by decide +kernel
theorem dX1_init_88 : decode cX1_init 88 = .ok (.aload_n 1, 1) := by decide +kernel
theorem dX1_init_89 : decode cX1_init 89 = .ok (.putfield 53, 3) := by decide +kernel
theorem dX1_init_92 : decode cX1_init 92 = .ok (.aload_n 0, 1) := by decide +kernel
theorem dX1_init_93 : decode cX1_init 93 = .ok (.aload_n 2, 1) := by decide +kernel
theorem dX1_init_94 : decode cX1_init 94 = .ok (.putfield 57, 3) := by decide +kernel
theorem dX1_init_97 : decode cX1_init 97 = .ok (.aload_n 0, 1) := by decide +kernel
theorem dX1_init_98 : decode cX1_init 98 = .ok (.aload_n 3, 1) := by decide +kernel
theorem dX1_init_99 : decode cX1_init 99 = .ok (.putfield 61, 3) := by decide +kernel
theorem dX1_init_102 : decode cX1_init 102 = .ok (.aload_n 0, 1) := by decide +kernel
theorem dX1_init_103 : decode cX1_init 103 = .ok (.aload 4, 2) := by decide +kernel
theorem dX1_init_105 : decode cX1_init 105 = .ok (.putfield 65, 3) := by decide +kernel
theorem dX1_init_108 : decode cX1_init 108 = .ok (.return_, 1) := by decide +kernel
theorem dX1_prepare_0 : decode cX1_prepare 0 = .ok (.aload_n 0, 1) := by decide +kernel
theorem dX1_prepare_1 : decode cX1_prepare 1 = .ok (.getfield 34, 3) := by decide +kernel
theorem dX1_prepare_4 : decode cX1_prepare 4 = .ok (.iload 4, 2) := by decide +kernel
theorem dX1_prepare_6 : decode cX1_prepare 6 = .ok (.iconst (-1), 1) := by decide +kernel
theorem dX1_prepare_7 : decode cX1_prepare 7 = .ok (.if_icmp .ne 7, 3) := by decide +kernel
theorem dX1_prepare_10 : decode cX1_prepare 10 = .ok (.iconst 2, 1) := by decide +kernel
theorem dX1_prepare_11 : decode cX1_prepare 11 = .ok (.goto 4, 3) := by decide +kernel
theorem dX1_prepare_14 : decode cX1_prepare 14 = .ok (.iconst 3, 1) := by decide +kernel
theorem dX1_prepare_15 : decode cX1_prepare 15 = .ok (.if_icmp .ne 27, 3) := by decide +kernel
theorem dX1_prepare_18 : decode cX1_prepare 18 = .ok (.aload_n 0, 1) := by decide +kernel
theorem dX1_prepare_19 : decode cX1_prepare 19 = .ok (.getfield 19, 3) := by decide +kernel
theorem dX1_prepare_22 : decode cX1_prepare 22 = .ok (.iconst 0, 1) := by decide +kernel
theorem dX1_prepare_23 : decode cX1_prepare 23 = .ok (.iaload, 1) := by decide +kernel
theorem dX1_prepare_24 : decode cX1_prepare 24 = .ok (.iload_n 2, 1) := by decide +kernel
theorem dX1_prepare_25 : decode cX1_prepare 25 = .ok (.if_icmp .ne 17, 3) := by decide +kernel
theorem dX1_prepare_28 : decode cX1_prepare 28 = .ok (.aload_n 0, 1) := by decide +kernel
theorem dX1_prepare_29 : decode cX1_prepare 29 = .ok (.getfield 19, 3) := by decide +kernel
theorem dX1_prepare_32 : decode cX1_prepare 32 = .ok (.iconst 1, 1) := by decide +kernel
theorem dX1_prepare_33 : decode cX1_prepare 33 = .ok (.iaload, 1) := by decide +kernel
theorem dX1_prepare_34 : decode cX1_prepare 34 = .ok (.iload_n 3, 1) := by decide +kernel
theorem dX1_prepare_35 : decode cX1_prepare 35 = .ok (.if_icmp .ne 7, 3) := by decide +kernel
theorem dX1_prepare_38 : decode cX1_prepare 38 = .ok (.iconst 1, 1) := by decide +kernel
theorem dX1_prepare_39 : decode cX1_prepare 39 = .ok (.goto 4, 3) := by decide +kernel
theorem dX1_prepare_42 : decode cX1_prepare 42 = .ok (.iconst 0, 1) := by decide +kernel
theorem dX1_prepare_43 : decode cX1_prepare 43 = .ok (.istore 5, 2) := by decide +kernel
theorem dX1_prepare_45 : decode cX1_prepare 45 = .ok (.aload_n 0, 1) := by decide +kernel
theorem dX1_prepare_46 : decode cX1_prepare 46 = .ok (.getfield 41, 3) := by decide +kernel
theorem dX1_prepare_49 : decode cX1_prepare 49 = .ok (.iload_n 1, 1) := by decide +kernel
theorem dX1_prepare_50 : decode cX1_prepare 50 = .ok (.if_icmp .ne 26, 3) := by decide +kernel
theorem dX1_prepare_53 : decode cX1_prepare 53 = .ok (.iload 5, 2) := by decide +kernel
theorem dX1_prepare_55 : decode cX1_prepare 55 = .ok (.ifCond .eq 21, 3) := by decide +kernel
theorem dX1_prepare_58 : decode cX1_prepare 58 = .ok (.iload 4, 2) := by decide +kernel
theorem dX1_prepare_60 : decode cX1_prepare 60 = .ok (.iconst (-1), 1) := by decide +kernel
theorem dX1_prepare_61 : decode cX1_prepare 61 = .ok (.if_icmp .eq 14, 3) := by decide +kernel
theorem dX1_prepare_64 : decode cX1_prepare 64 = .ok (.aload_n 0, 1) := by decide +kernel
theorem dX1_prepare_65 : decode cX1_prepare 65 = .ok (.getfield 19, 3) := by decide +kernel
theorem dX1_prepare_68 : decode cX1_prepare 68 = .ok (.iconst 2, 1) := by decide +kernel
theorem dX1_prepare_69 : decode cX1_prepare 69 = .ok (.iaload, 1) := by decide +kernel
theorem dX1_prepare_70 : decode cX1_prepare 70 = .ok (.iload 4, 2) := by decide +kernel
theorem dX1_prepare_72 : decode cX1_prepare 72 = .ok (.if_icmp .ne 4, 3) := by decide +kernel
theorem dX1_prepare_75 : decode cX1_prepare 75 = .ok (.return_, 1) := by decide +kernel
theorem dX1_prepare_76 : decode cX1_prepare 76 = .ok (.aload_n 0, 1) := by decide +kernel
theorem dX1_prepare_77 : decode cX1_prepare 77 = .ok (.iload_n 1, 1) := by decide +kernel
theorem dX1_prepare_78 : decode cX1_prepare 78 = .ok (.putfield 41, 3) := by decide +kernel
theorem dX1_prepare_81 : decode cX1_prepare 81 = .ok (.aload_n 0, 1) := by decide +kernel
theorem dX1_prepare_82 : decode cX1_prepare 82 = .ok (.iload_n 2, 1) := by decide +kernel
theorem dX1_prepare_83 : decode cX1_prepare 83 = .ok (.iload_n 3, 1) := by decide +kernel
theorem dX1_prepare_84 : decode cX1_prepare 84 = .ok (.iload 4, 2) := by decide +kernel
theorem dX1_prepare_86 : decode cX1_prepare 86 = .ok (.invokevirtual 69, 3) := by decide +kernel
theorem dX1_prepare_89 : decode cX1_prepare 89 = .ok (.aload_n 0, 1) := by decide +kernel
theorem dX1_prepare_90 : decode cX1_prepare 90 = .ok (.invokevirtual 73, 3) := by decide +kernel
theorem dX1_prepare_93 : decode cX1_prepare 93 = .ok (.return_, 1) := by decide +kernel
theorem dX1_weighAll_0 : decode cX1_weighAll 0 = .ok (.iload_n 3, 1) := by decide +kernel
theorem dX1_weighAll_1 : decode cX1_weighAll 1 = .ok (.iconst (-1), 1) := by decide +kernel
theorem dX1_weighAll_2 : decode cX1_weighAll 2 = .ok (.if_icmp .ne 7, 3) := by decide +kernel
theorem dX1_weighAll_5 : decode cX1_weighAll 5 = .ok (.iconst 1, 1) := by decide +kernel
theorem dX1_weighAll_6 : decode cX1_weighAll 6 = .ok (.goto 10, 3) := by decide +kernel
theorem dX1_weighAll_9 : decode cX1_weighAll 9 = .ok (.aload_n 0, 1) := by decide +kernel
theorem dX1_weighAll_10 : decode cX1_weighAll 10 = .ok (.getfield 53, 3) := by decide +kernel
theorem dX1_weighAll_13 : decode cX1_weighAll 13 = .ok (.getfield 76, 3) := by decide +kernel
theorem dX1_weighAll_16 : decode cX1_weighAll 16 = .ok (.istore 4, 2) := by decide +kernel
theorem dX1_weighAll_18 : decode cX1_weighAll 18 = .ok (.aload_n 0, 1) := by decide +kernel
theorem dX1_weighAll_19 : decode cX1_weighAll 19 = .ok (.iload_n 3, 1) := by decide +kernel
theorem dX1_weighAll_20 : decode cX1_weighAll 20 = .ok (.iconst (-1), 1) := by decide +kernel
theorem dX1_weighAll_21 : decode cX1_weighAll 21 = .ok (.if_icmp .ne 7, 3) := by decide +kernel
theorem dX1_weighAll_24 : decode cX1_weighAll 24 = .ok (.iconst 2, 1) := by decide +kernel
theorem dX1_weighAll_25 : decode cX1_weighAll 25 = .ok (.goto 4, 3) := by decide +kernel
theorem dX1_weighAll_28 : decode cX1_weighAll 28 = .ok (.iconst 3, 1) := by decide +kernel
theorem dX1_weighAll_29 : decode cX1_weighAll 29 = .ok (.putfield 34, 3) := by decide +kernel
theorem dX1_weighAll_32 : decode cX1_weighAll 32 = .ok (.aload_n 0, 1) := by decide +kernel
theorem dX1_weighAll_33 : decode cX1_weighAll 33 = .ok (.getfield 19, 3) := by decide +kernel
theorem dX1_weighAll_36 : decode cX1_weighAll 36 = .ok (.iconst 0, 1) := by decide +kernel
theorem dX1_weighAll_37 : decode cX1_weighAll 37 = .ok (.iload_n 1, 1) := by decide +kernel
theorem dX1_weighAll_38 : decode cX1_weighAll 38 = .ok (.iastore, 1) := by decide +kernel
theorem dX1_weighAll_39 : decode cX1_weighAll 39 = .ok (.aload_n 0, 1) := by decide +kernel
theorem dX1_weighAll_40 : decode cX1_weighAll 40 = .ok (.getfield 19, 3) := by decide +kernel
theorem dX1_weighAll_43 : decode cX1_weighAll 43 = .ok (.iconst 1, 1) := by decide +kernel
theorem dX1_weighAll_44 : decode cX1_weighAll 44 = .ok (.iload_n 2, 1) := by decide +kernel
theorem dX1_weighAll_45 : decode cX1_weighAll 45 = .ok (.iastore, 1) := by decide +kernel
theorem dX1_weighAll_46 : decode cX1_weighAll 46 = .ok (.aload_n 0, 1) := by decide +kernel
theorem dX1_weighAll_47 : decode cX1_weighAll 47 = .ok (.getfield 19, 3) := by decide +kernel
theorem dX1_weighAll_50 : decode cX1_weighAll 50 = .ok (.iconst 2, 1) := by decide +kernel
theorem dX1_weighAll_51 : decode cX1_weighAll 51 = .ok (.iload_n 3, 1) := by decide +kernel
theorem dX1_weighAll_52 : decode cX1_weighAll 52 = .ok (.iastore, 1) := by decide +kernel
theorem dX1_weighAll_53 : decode cX1_weighAll 53 = .ok (.aload_n 0, 1) := by decide +kernel
theorem dX1_weighAll_54 : decode cX1_weighAll 54 = .ok (.getfield 22, 3) := by decide +kernel
theorem dX1_weighAll_57 : decode cX1_weighAll 57 = .ok (.iconst 0, 1) := by decide +kernel
theorem dX1_weighAll_58 : decode cX1_weighAll 58 = .ok (.aload_n 0, 1) := by decide +kernel
theorem dX1_weighAll_59 : decode cX1_weighAll 59 = .ok (.getfield 53, 3) := by decide +kernel
theorem dX1_weighAll_62 : decode cX1_weighAll 62 = .ok (.getfield 76, 3) := by decide +kernel
theorem dX1_weighAll_65 : decode cX1_weighAll 65 = .ok (.iload 4, 2) := by decide +kernel
theorem dX1_weighAll_67 : decode cX1_weighAll 67 = .ok (.imul, 1) := by decide +kernel
theorem dX1_weighAll_68 : decode cX1_weighAll 68 = .ok (.iastore, 1) := by decide +kernel
theorem dX1_weighAll_69 : decode cX1_weighAll 69 = .ok (.aload_n 0, 1) := by decide +kernel
theorem dX1_weighAll_70 : decode cX1_weighAll 70 = .ok (.getfield 22, 3) := by decide +kernel
theorem dX1_weighAll_73 : decode cX1_weighAll 73 = .ok (.iconst 1, 1) := by decide +kernel
theorem dX1_weighAll_74 : decode cX1_weighAll 74 = .ok (.iload 4, 2) := by decide +kernel
theorem dX1_weighAll_76 : decode cX1_weighAll 76 = .ok (.iastore, 1) := by decide +kernel
theorem dX1_weighAll_77 : decode cX1_weighAll 77 = .ok (.aload_n 0, 1) := by decide +kernel
theorem dX1_weighAll_78 : decode cX1_weighAll 78 = .ok (.getfield 22, 3) := by decide +kernel
theorem dX1_weighAll_81 : decode cX1_weighAll 81 = .ok (.iconst 2, 1) := by decide +kernel
theorem dX1_weighAll_82 : decode cX1_weighAll 82 = .ok (.iconst 1, 1) := by decide +kernel
theorem dX1_weighAll_83 : decode cX1_weighAll 83 = .ok (.iastore, 1) := by decide +kernel
theorem dX1_weighAll_84 : decode cX1_weighAll 84 = .ok (.aload_n 0, 1) := by decide +kernel
theorem dX1_weighAll_85 : decode cX1_weighAll 85 = .ok (.getfield 61, 3) := by decide +kernel
theorem dX1_weighAll_88 : decode cX1_weighAll 88 = .ok (.aload_n 0, 1) := by decide +kernel
theorem dX1_weighAll_89 : decode cX1_weighAll 89 = .ok (.getfield 57, 3) := by decide +kernel
theorem dX1_weighAll_92 : decode cX1_weighAll 92 = .ok (.invokevirtual 81, 3) := by decide +kernel
theorem dX1_weighAll_95 : decode cX1_weighAll 95 = .ok (.iconst 0, 1) := by decide +kernel
theorem dX1_weighAll_96 : decode cX1_weighAll 96 = .ok (.istore 5, 2) := by decide +kernel
theorem dX1_weighAll_98 : decode cX1_weighAll 98 = .ok (.iconst 0, 1) := by decide +kernel
theorem dX1_weighAll_99 : decode cX1_weighAll 99 = .ok (.istore 6, 2) := by decide +kernel
theorem dX1_weighAll_101 : decode cX1_weighAll 101 = .ok (.iload 6, 2) := by decide +kernel
theorem dX1_weighAll_103 : decode cX1_weighAll 103 = .ok (.aload_n 0, 1) := by decide +kernel
theorem dX1_weighAll_104 : decode cX1_weighAll 104 = .ok (.getfield 53, 3) := by decide +kernel
theorem dX1_weighAll_107 : decode cX1_weighAll 107 = .ok (.getfield 76, 3) := by decide +kernel
theorem dX1_weighAll_110 : decode cX1_weighAll 110 = .ok (.if_icmp .ge 90, 3) := by decide +kernel
theorem dX1_weighAll_113 : decode cX1_weighAll 113 = .ok (.aload_n 0, 1) := by decide +kernel
theorem dX1_weighAll_114 : decode cX1_weighAll 114 = .ok (.getfield 61, 3) := by decide +kernel
theorem dX1_weighAll_117 : decode cX1_weighAll 117 = .ok (.iload_n 1, 1) := by decide +kernel
theorem dX1_weighAll_118 : decode cX1_weighAll 118 = .ok (.iload 6, 2) := by decide +kernel
theorem dX1_weighAll_120 : decode cX1_weighAll 120 = .ok (.invokevirtual 87, 3) := by decide +kernel
theorem dX1_weighAll_123 : decode cX1_weighAll 123 = .ok (.iconst 0, 1) := by decide +kernel
theorem dX1_weighAll_124 : decode cX1_weighAll 124 = .ok (.istore 7, 2) := by decide +kernel
theorem dX1_weighAll_126 : decode cX1_weighAll 126 = .ok (.iload 7, 2) := by decide +kernel
theorem dX1_weighAll_128 : decode cX1_weighAll 128 = .ok (.aload_n 0, 1) := by decide +kernel
theorem dX1_weighAll_129 : decode cX1_weighAll 129 = .ok (.getfield 53, 3) := by decide +kernel
theorem dX1_weighAll_132 : decode cX1_weighAll 132 = .ok (.getfield 76, 3) := by decide +kernel
theorem dX1_weighAll_135 : decode cX1_weighAll 135 = .ok (.if_icmp .ge 59, 3) := by decide +kernel
theorem dX1_weighAll_138 : decode cX1_weighAll 138 = .ok (.aload_n 0, 1) := by decide +kernel
theorem dX1_weighAll_139 : decode cX1_weighAll 139 = .ok (.getfield 61, 3) := by decide +kernel
theorem dX1_weighAll_142 : decode cX1_weighAll 142 = .ok (.iload_n 2, 1) := by decide +kernel
theorem dX1_weighAll_143 : decode cX1_weighAll 143 = .ok (.iload 7, 2) := by decide +kernel
theorem dX1_weighAll_145 : decode cX1_weighAll 145 = .ok (.invokevirtual 87, 3) := by decide +kernel
theorem dX1_weighAll_148 : decode cX1_weighAll 148 = .ok (.iconst 0, 1) := by decide +kernel
theorem dX1_weighAll_149 : decode cX1_weighAll 149 = .ok (.istore 8, 2) := by decide +kernel
theorem dX1_weighAll_151 : decode cX1_weighAll 151 = .ok (.iload 8, 2) := by decide +kernel
theorem dX1_weighAll_153 : decode cX1_weighAll 153 = .ok (.iload 4, 2) := by decide +kernel
theorem dX1_weighAll_155 : decode cX1_weighAll 155 = .ok (.if_icmp .ge 33, 3) := by decide +kernel
theorem dX1_weighAll_158 : decode cX1_weighAll 158 = .ok (.iload_n 3, 1) := by decide +kernel
theorem dX1_weighAll_159 : decode cX1_weighAll 159 = .ok (.iconst (-1), 1) := by decide +kernel
theorem dX1_weighAll_160 : decode cX1_weighAll 160 = .ok (.if_icmp .eq 13, 3) := by decide +kernel
theorem dX1_weighAll_163 : decode cX1_weighAll 163 = .ok (.aload_n 0, 1) := by decide +kernel
theorem dX1_weighAll_164 : decode cX1_weighAll 164 = .ok (.getfield 61, 3) := by decide +kernel
theorem dX1_weighAll_167 : decode cX1_weighAll 167 = .ok (.iload_n 3, 1) := by decide +kernel
theorem dX1_weighAll_168 : decode cX1_weighAll 168 = .ok (.iload 8, 2) := by decide +kernel
theorem dX1_weighAll_170 : decode cX1_weighAll 170 = .ok (.invokevirtual 87, 3) := by decide +kernel
theorem dX1_weighAll_173 : decode cX1_weighAll 173 = .ok (.aload_n 0, 1) := by decide +kernel
theorem dX1_weighAll_174 : decode cX1_weighAll 174 = .ok (.iload 5, 2) := by decide +kernel
theorem dX1_weighAll_176 : decode cX1_weighAll 176 = .ok (.invokevirtual 91, 3) := by decide +kernel
theorem dX1_weighAll_179 : decode cX1_weighAll 179 = .ok (.iinc 5 1, 3) := by decide +kernel
theorem dX1_weighAll_182 : decode cX1_weighAll 182 = .ok (.iinc 8 1, 3) := by decide +kernel
theorem dX1_weighAll_185 : decode cX1_weighAll 185 = .ok (.goto (-34), 3) := by decide +kernel
theorem dX1_weighAll_188 : decode cX1_weighAll 188 = .ok (.iinc 7 1, 3) := by decide +kernel
theorem dX1_weighAll_191 : decode cX1_weighAll 191 = .ok (.goto (-65), 3) := by decide +kernel
theorem dX1_weighAll_194 : decode cX1_weighAll 194 = .ok (.iinc 6 1, 3) := by decide +kernel
theorem dX1_weighAll_197 : decode cX1_weighAll 197 = .ok (.goto (-96), 3) := by decide +kernel
theorem dX1_weighAll_200 : decode cX1_weighAll 200 = .ok (.return_, 1) := by decide +kernel
theorem dX1_weighRow_0 : decode cX1_weighRow 0 = .ok (.iconst 1, 1) := by decide +kernel
theorem dX1_weighRow_1 : decode cX1_weighRow 1 = .ok (.istore_n 2, 1) := by decide +kernel
theorem dX1_weighRow_2 : decode cX1_weighRow 2 = .ok (.iconst 0, 1) := by decide +kernel
theorem dX1_weighRow_3 : decode cX1_weighRow 3 = .ok (.istore_n 3, 1) := by decide +kernel
theorem dX1_weighRow_4 : decode cX1_weighRow 4 = .ok (.iload_n 3, 1) := by decide +kernel
theorem dX1_weighRow_5 : decode cX1_weighRow 5 = .ok (.aload_n 0, 1) := by decide +kernel
theorem dX1_weighRow_6 : decode cX1_weighRow 6 = .ok (.getfield 34, 3) := by decide +kernel
theorem dX1_weighRow_9 : decode cX1_weighRow 9 = .ok (.if_icmp .ge 49, 3) := by decide +kernel
theorem dX1_weighRow_12 : decode cX1_weighRow 12 = .ok (.iload_n 2, 1) := by decide +kernel
theorem dX1_weighRow_13 : decode cX1_weighRow 13 = .ok (.ifCond .eq 37, 3) := by decide +kernel
theorem dX1_weighRow_16 : decode cX1_weighRow 16 = .ok (.aload_n 0, 1) := by decide +kernel
theorem dX1_weighRow_17 : decode cX1_weighRow 17 = .ok (.getfield 61, 3) := by decide +kernel
theorem dX1_weighRow_20 : decode cX1_weighRow 20 = .ok (.aload_n 0, 1) := by decide +kernel
theorem dX1_weighRow_21 : decode cX1_weighRow 21 = .ok (.getfield 19, 3) := by decide +kernel
theorem dX1_weighRow_24 : decode cX1_weighRow 24 = .ok (.iload_n 3, 1) := by decide +kernel
theorem dX1_weighRow_25 : decode cX1_weighRow 25 = .ok (.iaload, 1) := by decide +kernel
theorem dX1_weighRow_26 : decode cX1_weighRow 26 = .ok (.aload_n 0, 1) := by decide +kernel
theorem dX1_weighRow_27 : decode cX1_weighRow 27 = .ok (.getfield 61, 3) := by decide +kernel
theorem dX1_weighRow_30 : decode cX1_weighRow 30 = .ok (.getfield 95, 3) := by decide +kernel
theorem dX1_weighRow_33 : decode cX1_weighRow 33 = .ok (.aload_n 0, 1) := by decide +kernel
theorem dX1_weighRow_34 : decode cX1_weighRow 34 = .ok (.getfield 19, 3) := by decide +kernel
theorem dX1_weighRow_37 : decode cX1_weighRow 37 = .ok (.iload_n 3, 1) := by decide +kernel
theorem dX1_weighRow_38 : decode cX1_weighRow 38 = .ok (.iaload, 1) := by decide +kernel
theorem dX1_weighRow_39 : decode cX1_weighRow 39 = .ok (.iaload, 1) := by decide +kernel
theorem dX1_weighRow_40 : decode cX1_weighRow 40 = .ok (.invokevirtual 98, 3) := by decide +kernel
theorem dX1_weighRow_43 : decode cX1_weighRow 43 = .ok (.ifCond .eq 7, 3) := by decide +kernel
theorem dX1_weighRow_46 : decode cX1_weighRow 46 = .ok (.iconst 1, 1) := by decide +kernel
theorem dX1_weighRow_47 : decode cX1_weighRow 47 = .ok (.goto 4, 3) := by decide +kernel
theorem dX1_weighRow_50 : decode cX1_weighRow 50 = .ok (.iconst 0, 1) := by decide +kernel
theorem dX1_weighRow_51 : decode cX1_weighRow 51 = .ok (.istore_n 2, 1) := by decide +kernel
theorem dX1_weighRow_52 : decode cX1_weighRow 52 = .ok (.iinc 3 1, 3) := by decide +kernel
theorem dX1_weighRow_55 : decode cX1_weighRow 55 = .ok (.goto (-51), 3) := by decide +kernel
theorem dX1_weighRow_58 : decode cX1_weighRow 58 = .ok (.iload_n 2, 1) := by decide +kernel
theorem dX1_weighRow_59 : decode cX1_weighRow 59 = .ok (.ifCond .eq 10, 3) := by decide +kernel
theorem dX1_weighRow_62 : decode cX1_weighRow 62 = .ok (.aload_n 0, 1) := by decide +kernel
theorem dX1_weighRow_63 : decode cX1_weighRow 63 = .ok (.getfield 61, 3) := by decide +kernel
theorem dX1_weighRow_66 : decode cX1_weighRow 66 = .ok (.invokevirtual 102, 3) := by decide +kernel
theorem dX1_weighRow_69 : decode cX1_weighRow 69 = .ok (.iconst 0, 1) := by decide +kernel
theorem dX1_weighRow_70 : decode cX1_weighRow 70 = .ok (.istore_n 3, 1) := by decide +kernel
theorem dX1_weighRow_71 : decode cX1_weighRow 71 = .ok (.iload_n 3, 1) := by decide +kernel
theorem dX1_weighRow_72 : decode cX1_weighRow 72 = .ok (.aload_n 0, 1) := by decide +kernel
theorem dX1_weighRow_73 : decode cX1_weighRow 73 = .ok (.getfield 34, 3) := by decide +kernel
theorem dX1_weighRow_76 : decode cX1_weighRow 76 = .ok (.if_icmp .ge 44, 3) := by decide +kernel
theorem dX1_weighRow_79 : decode cX1_weighRow 79 = .ok (.aload_n 0, 1) := by decide +kernel
theorem dX1_weighRow_80 : decode cX1_weighRow 80 = .ok (.getfield 11, 3) := by decide +kernel
theorem dX1_weighRow_83 : decode cX1_weighRow 83 = .ok (.sipush 1728, 3) := by decide +kernel
theorem dX1_weighRow_86 : decode cX1_weighRow 86 = .ok (.iload_n 3, 1) := by decide +kernel
theorem dX1_weighRow_87 : decode cX1_weighRow 87 = .ok (.imul, 1) := by decide +kernel
theorem dX1_weighRow_88 : decode cX1_weighRow 88 = .ok (.iload_n 1, 1) := by decide +kernel
theorem dX1_weighRow_89 : decode cX1_weighRow 89 = .ok (.iadd, 1) := by decide +kernel
theorem dX1_weighRow_90 : decode cX1_weighRow 90 = .ok (.iload_n 2, 1) := by decide +kernel
theorem dX1_weighRow_91 : decode cX1_weighRow 91 = .ok (.ifCond .eq 19, 3) := by decide +kernel
theorem dX1_weighRow_94 : decode cX1_weighRow 94 = .ok (.aload_n 0, 1) := by decide +kernel
theorem dX1_weighRow_95 : decode cX1_weighRow 95 = .ok (.getfield 61, 3) := by decide +kernel
theorem dX1_weighRow_98 : decode cX1_weighRow 98 = .ok (.aload_n 0, 1) := by decide +kernel
theorem dX1_weighRow_99 : decode cX1_weighRow 99 = .ok (.getfield 19, 3) := by decide +kernel
theorem dX1_weighRow_102 : decode cX1_weighRow 102 = .ok (.iload_n 3, 1) := by decide +kernel
theorem dX1_weighRow_103 : decode cX1_weighRow 103 = .ok (.iaload, 1) := by decide +kernel
theorem dX1_weighRow_104 : decode cX1_weighRow 104 = .ok (.invokevirtual 105, 3) := by decide +kernel
theorem dX1_weighRow_107 : decode cX1_weighRow 107 = .ok (.goto 6, 3) := by decide +kernel
theorem dX1_weighRow_110 : decode cX1_weighRow 110 = .ok (.ldc2_w 108, 3) := by decide +kernel
theorem dX1_weighRow_113 : decode cX1_weighRow 113 = .ok (.lastore, 1) := by decide +kernel
theorem dX1_weighRow_114 : decode cX1_weighRow 114 = .ok (.iinc 3 1, 3) := by decide +kernel
theorem dX1_weighRow_117 : decode cX1_weighRow 117 = .ok (.goto (-46), 3) := by decide +kernel
theorem dX1_weighRow_120 : decode cX1_weighRow 120 = .ok (.return_, 1) := by decide +kernel
theorem dX1_findRests_0 : decode cX1_findRests 0 = .ok (.aload_n 0, 1) := by decide +kernel
theorem dX1_findRests_1 : decode cX1_findRests 1 = .ok (.getfield 22, 3) := by decide +kernel
theorem dX1_findRests_4 : decode cX1_findRests 4 = .ok (.iconst 0, 1) := by decide +kernel
theorem dX1_findRests_5 : decode cX1_findRests 5 = .ok (.iaload, 1) := by decide +kernel
theorem dX1_findRests_6 : decode cX1_findRests 6 = .ok (.aload_n 0, 1) := by decide +kernel
theorem dX1_findRests_7 : decode cX1_findRests 7 = .ok (.getfield 53, 3) := by decide +kernel
theorem dX1_findRests_10 : decode cX1_findRests 10 = .ok (.getfield 76, 3) := by decide +kernel
theorem dX1_findRests_13 : decode cX1_findRests 13 = .ok (.imul, 1) := by decide +kernel
theorem dX1_findRests_14 : decode cX1_findRests 14 = .ok (.istore_n 1, 1) := by decide +kernel
theorem dX1_findRests_15 : decode cX1_findRests 15 = .ok (.aload_n 0, 1) := by decide +kernel
theorem dX1_findRests_16 : decode cX1_findRests 16 = .ok (.iconst 0, 1) := by decide +kernel
theorem dX1_findRests_17 : decode cX1_findRests 17 = .ok (.putfield 38, 3) := by decide +kernel
theorem dX1_findRests_20 : decode cX1_findRests 20 = .ok (.iconst 0, 1) := by decide +kernel
theorem dX1_findRests_21 : decode cX1_findRests 21 = .ok (.istore_n 2, 1) := by decide +kernel
theorem dX1_findRests_22 : decode cX1_findRests 22 = .ok (.iload_n 2, 1) := by decide +kernel
theorem dX1_findRests_23 : decode cX1_findRests 23 = .ok (.iload_n 1, 1) := by decide +kernel
theorem dX1_findRests_24 : decode cX1_findRests 24 = .ok (.if_icmp .ge 57, 3) := by decide +kernel
theorem dX1_findRests_27 : decode cX1_findRests 27 = .ok (.iload_n 2, 1) := by decide +kernel
theorem dX1_findRests_28 : decode cX1_findRests 28 = .ok (.sipush 1728, 3) := by decide +kernel
theorem dX1_findRests_31 : decode cX1_findRests 31 = .ok (.if_icmp .ge 50, 3) := by decide +kernel
theorem dX1_findRests_34 : decode cX1_findRests 34 = .ok (.aload_n 0, 1) := by decide +kernel
theorem dX1_findRests_35 : decode cX1_findRests 35 = .ok (.getfield 11, 3) := by decide +kernel
theorem dX1_findRests_38 : decode cX1_findRests 38 = .ok (.iload_n 2, 1) := by decide +kernel
theorem dX1_findRests_39 : decode cX1_findRests 39 = .ok (.laload, 1) := by decide +kernel
theorem dX1_findRests_40 : decode cX1_findRests 40 = .ok (.ldc2_w 108, 3) := by decide +kernel
theorem dX1_findRests_43 : decode cX1_findRests 43 = .ok (.lcmp, 1) := by decide +kernel
theorem dX1_findRests_44 : decode cX1_findRests 44 = .ok (.ifCond .eq 31, 3) := by decide +kernel
theorem dX1_findRests_47 : decode cX1_findRests 47 = .ok (.aload_n 0, 1) := by decide +kernel
theorem dX1_findRests_48 : decode cX1_findRests 48 = .ok (.iload_n 2, 1) := by decide +kernel
theorem dX1_findRests_49 : decode cX1_findRests 49 = .ok (.invokevirtual 110, 3) := by decide +kernel
theorem dX1_findRests_52 : decode cX1_findRests 52 = .ok (.ifCond .eq 23, 3) := by decide +kernel
theorem dX1_findRests_55 : decode cX1_findRests 55 = .ok (.aload_n 0, 1) := by decide +kernel
theorem dX1_findRests_56 : decode cX1_findRests 56 = .ok (.getfield 15, 3) := by decide +kernel
theorem dX1_findRests_59 : decode cX1_findRests 59 = .ok (.aload_n 0, 1) := by decide +kernel
theorem dX1_findRests_60 : decode cX1_findRests 60 = .ok (.getfield 38, 3) := by decide +kernel
theorem dX1_findRests_63 : decode cX1_findRests 63 = .ok (.iload_n 2, 1) := by decide +kernel
theorem dX1_findRests_64 : decode cX1_findRests 64 = .ok (.iastore, 1) := by decide +kernel
theorem dX1_findRests_65 : decode cX1_findRests 65 = .ok (.aload_n 0, 1) := by decide +kernel
theorem dX1_findRests_66 : decode cX1_findRests 66 = .ok (.dup, 1) := by decide +kernel
theorem dX1_findRests_67 : decode cX1_findRests 67 = .ok (.getfield 38, 3) := by decide +kernel
theorem dX1_findRests_70 : decode cX1_findRests 70 = .ok (.iconst 1, 1) := by decide +kernel
theorem dX1_findRests_71 : decode cX1_findRests 71 = .ok (.iadd, 1) := by decide +kernel
theorem dX1_findRests_72 : decode cX1_findRests 72 = .ok (.putfield 38, 3) := by decide +kernel
theorem dX1_findRests_75 : decode cX1_findRests 75 = .ok (.iinc 2 1, 3) := by decide +kernel
theorem dX1_findRests_78 : decode cX1_findRests 78 = .ok (.goto (-56), 3) := by decide +kernel
theorem dX1_findRests_81 : decode cX1_findRests 81 = .ok (.return_, 1) := by decide +kernel
theorem dX1_isRest_0 : decode cX1_isRest 0 = .ok (.iconst 0, 1) := by decide +kernel
theorem dX1_isRest_1 : decode cX1_isRest 1 = .ok (.istore_n 2, 1) := by decide +kernel
theorem dX1_isRest_2 : decode cX1_isRest 2 = .ok (.iload_n 2, 1) := by decide +kernel
theorem dX1_isRest_3 : decode cX1_isRest 3 = .ok (.aload_n 0, 1) := by decide +kernel
theorem dX1_isRest_4 : decode cX1_isRest 4 = .ok (.getfield 34, 3) := by decide +kernel
theorem dX1_isRest_7 : decode cX1_isRest 7 = .ok (.if_icmp .ge 90, 3) := by decide +kernel
theorem dX1_isRest_10 : decode cX1_isRest 10 = .ok (.sipush 1728, 3) := by decide +kernel
theorem dX1_isRest_13 : decode cX1_isRest 13 = .ok (.iload_n 2, 1) := by decide +kernel
theorem dX1_isRest_14 : decode cX1_isRest 14 = .ok (.imul, 1) := by decide +kernel
theorem dX1_isRest_15 : decode cX1_isRest 15 = .ok (.iload_n 1, 1) := by decide +kernel
theorem dX1_isRest_16 : decode cX1_isRest 16 = .ok (.iadd, 1) := by decide +kernel
theorem dX1_isRest_17 : decode cX1_isRest 17 = .ok (.aload_n 0, 1) := by decide +kernel
theorem dX1_isRest_18 : decode cX1_isRest 18 = .ok (.iload_n 1, 1) := by decide +kernel
theorem dX1_isRest_19 : decode cX1_isRest 19 = .ok (.iload_n 2, 1) := by decide +kernel
theorem dX1_isRest_20 : decode cX1_isRest 20 = .ok (.invokevirtual 114, 3) := by decide +kernel
theorem dX1_isRest_23 : decode cX1_isRest 23 = .ok (.aload_n 0, 1) := by decide +kernel
theorem dX1_isRest_24 : decode cX1_isRest 24 = .ok (.getfield 22, 3) := by decide +kernel
theorem dX1_isRest_27 : decode cX1_isRest 27 = .ok (.iload_n 2, 1) := by decide +kernel
theorem dX1_isRest_28 : decode cX1_isRest 28 = .ok (.iaload, 1) := by decide +kernel
theorem dX1_isRest_29 : decode cX1_isRest 29 = .ok (.imul, 1) := by decide +kernel
theorem dX1_isRest_30 : decode cX1_isRest 30 = .ok (.isub, 1) := by decide +kernel
theorem dX1_isRest_31 : decode cX1_isRest 31 = .ok (.istore_n 3, 1) := by decide +kernel
theorem dX1_isRest_32 : decode cX1_isRest 32 = .ok (.aload_n 0, 1) := by decide +kernel
theorem dX1_isRest_33 : decode cX1_isRest 33 = .ok (.getfield 11, 3) := by decide +kernel
theorem dX1_isRest_36 : decode cX1_isRest 36 = .ok (.sipush 1728, 3) := by decide +kernel
theorem dX1_isRest_39 : decode cX1_isRest 39 = .ok (.iload_n 2, 1) := by decide +kernel
theorem dX1_isRest_40 : decode cX1_isRest 40 = .ok (.imul, 1) := by decide +kernel
theorem dX1_isRest_41 : decode cX1_isRest 41 = .ok (.iload_n 1, 1) := by decide +kernel
theorem dX1_isRest_42 : decode cX1_isRest 42 = .ok (.iadd, 1) := by decide +kernel
theorem dX1_isRest_43 : decode cX1_isRest 43 = .ok (.laload, 1) := by decide +kernel
theorem dX1_isRest_44 : decode cX1_isRest 44 = .ok (.lstore 4, 2) := by decide +kernel
theorem dX1_isRest_46 : decode cX1_isRest 46 = .ok (.iconst 0, 1) := by decide +kernel
theorem dX1_isRest_47 : decode cX1_isRest 47 = .ok (.istore 6, 2) := by decide +kernel
theorem dX1_isRest_49 : decode cX1_isRest 49 = .ok (.iload 6, 2) := by decide +kernel
theorem dX1_isRest_51 : decode cX1_isRest 51 = .ok (.aload_n 0, 1) := by decide +kernel
theorem dX1_isRest_52 : decode cX1_isRest 52 = .ok (.getfield 53, 3) := by decide +kernel
theorem dX1_isRest_55 : decode cX1_isRest 55 = .ok (.getfield 76, 3) := by decide +kernel
theorem dX1_isRest_58 : decode cX1_isRest 58 = .ok (.if_icmp .ge 33, 3) := by decide +kernel
theorem dX1_isRest_61 : decode cX1_isRest 61 = .ok (.aload_n 0, 1) := by decide +kernel
theorem dX1_isRest_62 : decode cX1_isRest 62 = .ok (.getfield 11, 3) := by decide +kernel
theorem dX1_isRest_65 : decode cX1_isRest 65 = .ok (.iload_n 3, 1) := by decide +kernel
theorem dX1_isRest_66 : decode cX1_isRest 66 = .ok (.iload 6, 2) := by decide +kernel
theorem dX1_isRest_68 : decode cX1_isRest 68 = .ok (.aload_n 0, 1) := by decide +kernel
theorem dX1_isRest_69 : decode cX1_isRest 69 = .ok (.getfield 22, 3) := by decide +kernel
theorem dX1_isRest_72 : decode cX1_isRest 72 = .ok (.iload_n 2, 1) := by decide +kernel
theorem dX1_isRest_73 : decode cX1_isRest 73 = .ok (.iaload, 1) := by decide +kernel
theorem dX1_isRest_74 : decode cX1_isRest 74 = .ok (.imul, 1) := by decide +kernel
theorem dX1_isRest_75 : decode cX1_isRest 75 = .ok (.iadd, 1) := by decide +kernel
theorem dX1_isRest_76 : decode cX1_isRest 76 = .ok (.laload, 1) := by decide +kernel
theorem dX1_isRest_77 : decode cX1_isRest 77 = .ok (.lload 4, 2) := by decide +kernel
theorem dX1_isRest_79 : decode cX1_isRest 79 = .ok (.lcmp, 1) := by decide +kernel
theorem dX1_isRest_80 : decode cX1_isRest 80 = .ok (.ifCond .le 5, 3) := by decide +kernel
theorem dX1_isRest_83 : decode cX1_isRest 83 = .ok (.iconst 0, 1) := by decide +kernel
theorem dX1_isRest_84 : decode cX1_isRest 84 = .ok (.ireturn, 1) := by decide +kernel
theorem dX1_isRest_85 : decode cX1_isRest 85 = .ok (.iinc 6 1, 3) := by decide +kernel
theorem dX1_isRest_88 : decode cX1_isRest 88 = .ok (.goto (-39), 3) := by decide +kernel
theorem dX1_isRest_91 : decode cX1_isRest 91 = .ok (.iinc 2 1, 3) := by decide +kernel
theorem dX1_isRest_94 : decode cX1_isRest 94 = .ok (.goto (-92), 3) := by decide +kernel
theorem dX1_isRest_97 : decode cX1_isRest 97 = .ok (.iconst 1, 1) := by decide +kernel
theorem dX1_isRest_98 : decode cX1_isRest 98 = .ok (.ireturn, 1) := by decide +kernel
theorem dX1_cornerIn_0 : decode cX1_cornerIn 0 = .ok (.aload_n 0, 1) := by decide +kernel
theorem dX1_cornerIn_1 : decode cX1_cornerIn 1 = .ok (.getfield 22, 3) := by decide +kernel
theorem dX1_cornerIn_4 : decode cX1_cornerIn 4 = .ok (.iload_n 2, 1) := by decide +kernel
theorem dX1_cornerIn_5 : decode cX1_cornerIn 5 = .ok (.iaload, 1) := by decide +kernel
theorem dX1_cornerIn_6 : decode cX1_cornerIn 6 = .ok (.ifCond .le 32, 3) := by decide +kernel
theorem dX1_cornerIn_9 : decode cX1_cornerIn 9 = .ok (.aload_n 0, 1) := by decide +kernel
theorem dX1_cornerIn_10 : decode cX1_cornerIn 10 = .ok (.getfield 53, 3) := by decide +kernel
theorem dX1_cornerIn_13 : decode cX1_cornerIn 13 = .ok (.getfield 76, 3) := by decide +kernel
theorem dX1_cornerIn_16 : decode cX1_cornerIn 16 = .ok (.ifCond .le 22, 3) := by decide +kernel
theorem dX1_cornerIn_19 : decode cX1_cornerIn 19 = .ok (.iload_n 1, 1) := by decide +kernel
theorem dX1_cornerIn_20 : decode cX1_cornerIn 20 = .ok (.aload_n 0, 1) := by decide +kernel
theorem dX1_cornerIn_21 : decode cX1_cornerIn 21 = .ok (.getfield 22, 3) := by decide +kernel
theorem dX1_cornerIn_24 : decode cX1_cornerIn 24 = .ok (.iload_n 2, 1) := by decide +kernel
theorem dX1_cornerIn_25 : decode cX1_cornerIn 25 = .ok (.iaload, 1) := by decide +kernel
theorem dX1_cornerIn_26 : decode cX1_cornerIn 26 = .ok (.idiv, 1) := by decide +kernel
theorem dX1_cornerIn_27 : decode cX1_cornerIn 27 = .ok (.aload_n 0, 1) := by decide +kernel
theorem dX1_cornerIn_28 : decode cX1_cornerIn 28 = .ok (.getfield 53, 3) := by decide +kernel
theorem dX1_cornerIn_31 : decode cX1_cornerIn 31 = .ok (.getfield 76, 3) := by decide +kernel
theorem dX1_cornerIn_34 : decode cX1_cornerIn 34 = .ok (.irem, 1) := by decide +kernel
theorem dX1_cornerIn_35 : decode cX1_cornerIn 35 = .ok (.goto 4, 3) := by decide +kernel
theorem dX1_cornerIn_38 : decode cX1_cornerIn 38 = .ok (.iconst 0, 1) := by decide +kernel
theorem dX1_cornerIn_39 : decode cX1_cornerIn 39 = .ok (.ireturn, 1) := by decide +kernel
theorem dX1_cornersOf_0 : decode cX1_cornersOf 0 = .ok (.sipush 256, 3) := by decide +kernel
theorem dX1_cornersOf_3 : decode cX1_cornersOf 3 = .ok (.aload_n 0, 1) := by decide +kernel
theorem dX1_cornersOf_4 : decode cX1_cornersOf 4 = .ok (.iload_n 1, 1) := by decide +kernel
theorem dX1_cornersOf_5 : decode cX1_cornersOf 5 = .ok (.iconst 0, 1) := by decide +kernel
theorem dX1_cornersOf_6 : decode cX1_cornersOf 6 = .ok (.invokevirtual 114, 3) := by decide +kernel
theorem dX1_cornersOf_9 : decode cX1_cornersOf 9 = .ok (.imul, 1) := by decide +kernel
theorem dX1_cornersOf_10 : decode cX1_cornersOf 10 = .ok (.bipush 16, 2) := by decide +kernel
theorem dX1_cornersOf_12 : decode cX1_cornersOf 12 = .ok (.aload_n 0, 1) := by decide +kernel
theorem dX1_cornersOf_13 : decode cX1_cornersOf 13 = .ok (.iload_n 1, 1) := by decide +kernel
theorem dX1_cornersOf_14 : decode cX1_cornersOf 14 = .ok (.iconst 1, 1) := by decide +kernel
theorem dX1_cornersOf_15 : decode cX1_cornersOf 15 = .ok (.invokevirtual 114, 3) := by decide +kernel
theorem dX1_cornersOf_18 : decode cX1_cornersOf 18 = .ok (.imul, 1) := by decide +kernel
theorem dX1_cornersOf_19 : decode cX1_cornersOf 19 = .ok (.iadd, 1) := by decide +kernel
theorem dX1_cornersOf_20 : decode cX1_cornersOf 20 = .ok (.aload_n 0, 1) := by decide +kernel
theorem dX1_cornersOf_21 : decode cX1_cornersOf 21 = .ok (.getfield 34, 3) := by decide +kernel
theorem dX1_cornersOf_24 : decode cX1_cornersOf 24 = .ok (.iconst 3, 1) := by decide +kernel
theorem dX1_cornersOf_25 : decode cX1_cornersOf 25 = .ok (.if_icmp .ne 12, 3) := by decide +kernel
theorem dX1_cornersOf_28 : decode cX1_cornersOf 28 = .ok (.aload_n 0, 1) := by decide +kernel
theorem dX1_cornersOf_29 : decode cX1_cornersOf 29 = .ok (.iload_n 1, 1) := by decide +kernel
theorem dX1_cornersOf_30 : decode cX1_cornersOf 30 = .ok (.iconst 2, 1) := by decide +kernel
theorem dX1_cornersOf_31 : decode cX1_cornersOf 31 = .ok (.invokevirtual 114, 3) := by decide +kernel
theorem dX1_cornersOf_34 : decode cX1_cornersOf 34 = .ok (.goto 4, 3) := by decide +kernel
theorem dX1_cornersOf_37 : decode cX1_cornersOf 37 = .ok (.iconst 0, 1) := by decide +kernel
theorem dX1_cornersOf_38 : decode cX1_cornersOf 38 = .ok (.iadd, 1) := by decide +kernel
theorem dX1_cornersOf_39 : decode cX1_cornersOf 39 = .ok (.ireturn, 1) := by decide +kernel
theorem dX1_worthOf_0 : decode cX1_worthOf 0 = .ok (.aload_n 0, 1) := by decide +kernel
theorem dX1_worthOf_1 : decode cX1_worthOf 1 = .ok (.getfield 11, 3) := by decide +kernel
theorem dX1_worthOf_4 : decode cX1_worthOf 4 = .ok (.sipush 1728, 3) := by decide +kernel
theorem dX1_worthOf_7 : decode cX1_worthOf 7 = .ok (.iload_n 1, 1) := by decide +kernel
theorem dX1_worthOf_8 : decode cX1_worthOf 8 = .ok (.imul, 1) := by decide +kernel
theorem dX1_worthOf_9 : decode cX1_worthOf 9 = .ok (.iload_n 2, 1) := by decide +kernel
theorem dX1_worthOf_10 : decode cX1_worthOf 10 = .ok (.iadd, 1) := by decide +kernel
theorem dX1_worthOf_11 : decode cX1_worthOf 11 = .ok (.laload, 1) := by decide +kernel
theorem dX1_worthOf_12 : decode cX1_worthOf 12 = .ok (.lreturn, 1) := by decide +kernel
theorem dX1_ledRow_0 : decode cX1_ledRow 0 = .ok (.iconst (-1), 1) := by decide +kernel
theorem dX1_ledRow_1 : decode cX1_ledRow 1 = .ok (.istore_n 2, 1) := by decide +kernel
theorem dX1_ledRow_2 : decode cX1_ledRow 2 = .ok (.iconst 0, 1) := by decide +kernel
theorem dX1_ledRow_3 : decode cX1_ledRow 3 = .ok (.istore_n 3, 1) := by decide +kernel
theorem dX1_ledRow_4 : decode cX1_ledRow 4 = .ok (.iload_n 3, 1) := by decide +kernel
theorem dX1_ledRow_5 : decode cX1_ledRow 5 = .ok (.aload_n 0, 1) := by decide +kernel
theorem dX1_ledRow_6 : decode cX1_ledRow 6 = .ok (.getfield 53, 3) := by decide +kernel
theorem dX1_ledRow_9 : decode cX1_ledRow 9 = .ok (.getfield 76, 3) := by decide +kernel
theorem dX1_ledRow_12 : decode cX1_ledRow 12 = .ok (.if_icmp .ge 48, 3) := by decide +kernel
theorem dX1_ledRow_15 : decode cX1_ledRow 15 = .ok (.aload_n 0, 1) := by decide +kernel
theorem dX1_ledRow_16 : decode cX1_ledRow 16 = .ok (.iload_n 1, 1) := by decide +kernel
theorem dX1_ledRow_17 : decode cX1_ledRow 17 = .ok (.iload_n 3, 1) := by decide +kernel
theorem dX1_ledRow_18 : decode cX1_ledRow 18 = .ok (.invokevirtual 118, 3) := by decide +kernel
theorem dX1_ledRow_21 : decode cX1_ledRow 21 = .ok (.istore 4, 2) := by decide +kernel
theorem dX1_ledRow_23 : decode cX1_ledRow 23 = .ok (.iload 4, 2) := by decide +kernel
theorem dX1_ledRow_25 : decode cX1_ledRow 25 = .ok (.iconst (-1), 1) := by decide +kernel
theorem dX1_ledRow_26 : decode cX1_ledRow 26 = .ok (.if_icmp .eq 28, 3) := by decide +kernel
theorem dX1_ledRow_29 : decode cX1_ledRow 29 = .ok (.iload_n 2, 1) := by decide +kernel
theorem dX1_ledRow_30 : decode cX1_ledRow 30 = .ok (.iconst (-1), 1) := by decide +kernel
theorem dX1_ledRow_31 : decode cX1_ledRow 31 = .ok (.if_icmp .eq 20, 3) := by decide +kernel
theorem dX1_ledRow_34 : decode cX1_ledRow 34 = .ok (.aload_n 0, 1) := by decide +kernel
theorem dX1_ledRow_35 : decode cX1_ledRow 35 = .ok (.iload_n 1, 1) := by decide +kernel
theorem dX1_ledRow_36 : decode cX1_ledRow 36 = .ok (.iload 4, 2) := by decide +kernel
theorem dX1_ledRow_38 : decode cX1_ledRow 38 = .ok (.invokevirtual 121, 3) := by decide +kernel
theorem dX1_ledRow_41 : decode cX1_ledRow 41 = .ok (.aload_n 0, 1) := by decide +kernel
theorem dX1_ledRow_42 : decode cX1_ledRow 42 = .ok (.iload_n 1, 1) := by decide +kernel
theorem dX1_ledRow_43 : decode cX1_ledRow 43 = .ok (.iload_n 2, 1) := by decide +kernel
theorem dX1_ledRow_44 : decode cX1_ledRow 44 = .ok (.invokevirtual 121, 3) := by decide +kernel
theorem dX1_ledRow_47 : decode cX1_ledRow 47 = .ok (.lcmp, 1) := by decide +kernel
theorem dX1_ledRow_48 : decode cX1_ledRow 48 = .ok (.ifCond .le 6, 3) := by decide +kernel
theorem dX1_ledRow_51 : decode cX1_ledRow 51 = .ok (.iload 4, 2) := by decide +kernel
theorem dX1_ledRow_53 : decode cX1_ledRow 53 = .ok (.istore_n 2, 1) := by decide +kernel
theorem dX1_ledRow_54 : decode cX1_ledRow 54 = .ok (.iinc 3 1, 3) := by decide +kernel
theorem dX1_ledRow_57 : decode cX1_ledRow 57 = .ok (.goto (-53), 3) := by decide +kernel
theorem dX1_ledRow_60 : decode cX1_ledRow 60 = .ok (.iload_n 2, 1) := by decide +kernel
theorem dX1_ledRow_61 : decode cX1_ledRow 61 = .ok (.ireturn, 1) := by decide +kernel
theorem dX1_answerTo_0 : decode cX1_answerTo 0 = .ok (.iconst 1, 1) := by decide +kernel
theorem dX1_answerTo_1 : decode cX1_answerTo 1 = .ok (.iload_n 1, 1) := by decide +kernel
theorem dX1_answerTo_2 : decode cX1_answerTo 2 = .ok (.isub, 1) := by decide +kernel
theorem dX1_answerTo_3 : decode cX1_answerTo 3 = .ok (.istore_n 3, 1) := by decide +kernel
theorem dX1_answerTo_4 : decode cX1_answerTo 4 = .ok (.iconst (-1), 1) := by decide +kernel
theorem dX1_answerTo_5 : decode cX1_answerTo 5 = .ok (.istore 4, 2) := by decide +kernel
theorem dX1_answerTo_7 : decode cX1_answerTo 7 = .ok (.iconst 0, 1) := by decide +kernel
theorem dX1_answerTo_8 : decode cX1_answerTo 8 = .ok (.istore 5, 2) := by decide +kernel
theorem dX1_answerTo_10 : decode cX1_answerTo 10 = .ok (.iload 5, 2) := by decide +kernel
theorem dX1_answerTo_12 : decode cX1_answerTo 12 = .ok (.aload_n 0, 1) := by decide +kernel
theorem dX1_answerTo_13 : decode cX1_answerTo 13 = .ok (.getfield 53, 3) := by decide +kernel
theorem dX1_answerTo_16 : decode cX1_answerTo 16 = .ok (.getfield 76, 3) := by decide +kernel
theorem dX1_answerTo_19 : decode cX1_answerTo 19 = .ok (.if_icmp .ge 83, 3) := by decide +kernel
theorem dX1_answerTo_22 : decode cX1_answerTo 22 = .ok (.iload_n 2, 1) := by decide +kernel
theorem dX1_answerTo_23 : decode cX1_answerTo 23 = .ok (.aload_n 0, 1) := by decide +kernel
theorem dX1_answerTo_24 : decode cX1_answerTo 24 = .ok (.getfield 22, 3) := by decide +kernel
theorem dX1_answerTo_27 : decode cX1_answerTo 27 = .ok (.iload_n 1, 1) := by decide +kernel
theorem dX1_answerTo_28 : decode cX1_answerTo 28 = .ok (.iaload, 1) := by decide +kernel
theorem dX1_answerTo_29 : decode cX1_answerTo 29 = .ok (.imul, 1) := by decide +kernel
theorem dX1_answerTo_30 : decode cX1_answerTo 30 = .ok (.iload 5, 2) := by decide +kernel
theorem dX1_answerTo_32 : decode cX1_answerTo 32 = .ok (.aload_n 0, 1) := by decide +kernel
theorem dX1_answerTo_33 : decode cX1_answerTo 33 = .ok (.getfield 22, 3) := by decide +kernel
theorem dX1_answerTo_36 : decode cX1_answerTo 36 = .ok (.iload_n 3, 1) := by decide +kernel
theorem dX1_answerTo_37 : decode cX1_answerTo 37 = .ok (.iaload, 1) := by decide +kernel
theorem dX1_answerTo_38 : decode cX1_answerTo 38 = .ok (.imul, 1) := by decide +kernel
theorem dX1_answerTo_39 : decode cX1_answerTo 39 = .ok (.iadd, 1) := by decide +kernel
theorem dX1_answerTo_40 : decode cX1_answerTo 40 = .ok (.istore 6, 2) := by decide +kernel
theorem dX1_answerTo_42 : decode cX1_answerTo 42 = .ok (.aload_n 0, 1) := by decide +kernel
theorem dX1_answerTo_43 : decode cX1_answerTo 43 = .ok (.iload_n 3, 1) := by decide +kernel
theorem dX1_answerTo_44 : decode cX1_answerTo 44 = .ok (.iload 6, 2) := by decide +kernel
theorem dX1_answerTo_46 : decode cX1_answerTo 46 = .ok (.invokevirtual 121, 3) := by decide +kernel
theorem dX1_answerTo_49 : decode cX1_answerTo 49 = .ok (.ldc2_w 108, 3) := by decide +kernel
theorem dX1_answerTo_52 : decode cX1_answerTo 52 = .ok (.lcmp, 1) := by decide +kernel
theorem dX1_answerTo_53 : decode cX1_answerTo 53 = .ok (.ifCond .eq 7, 3) := by decide +kernel
theorem dX1_answerTo_56 : decode cX1_answerTo 56 = .ok (.iconst 1, 1) := by decide +kernel
theorem dX1_answerTo_57 : decode cX1_answerTo 57 = .ok (.goto 4, 3) := by decide +kernel
theorem dX1_answerTo_60 : decode cX1_answerTo 60 = .ok (.iconst 0, 1) := by decide +kernel
theorem dX1_answerTo_61 : decode cX1_answerTo 61 = .ok (.istore 7, 2) := by decide +kernel
theorem dX1_answerTo_63 : decode cX1_answerTo 63 = .ok (.iload 7, 2) := by decide +kernel
theorem dX1_answerTo_65 : decode cX1_answerTo 65 = .ok (.ifCond .eq 31, 3) := by decide +kernel
theorem dX1_answerTo_68 : decode cX1_answerTo 68 = .ok (.iload 4, 2) := by decide +kernel
theorem dX1_answerTo_70 : decode cX1_answerTo 70 = .ok (.iconst (-1), 1) := by decide +kernel
theorem dX1_answerTo_71 : decode cX1_answerTo 71 = .ok (.if_icmp .eq 21, 3) := by decide +kernel
theorem dX1_answerTo_74 : decode cX1_answerTo 74 = .ok (.aload_n 0, 1) := by decide +kernel
theorem dX1_answerTo_75 : decode cX1_answerTo 75 = .ok (.iload_n 3, 1) := by decide +kernel
theorem dX1_answerTo_76 : decode cX1_answerTo 76 = .ok (.iload 6, 2) := by decide +kernel
theorem dX1_answerTo_78 : decode cX1_answerTo 78 = .ok (.invokevirtual 121, 3) := by decide +kernel
theorem dX1_answerTo_81 : decode cX1_answerTo 81 = .ok (.aload_n 0, 1) := by decide +kernel
theorem dX1_answerTo_82 : decode cX1_answerTo 82 = .ok (.iload_n 3, 1) := by decide +kernel
theorem dX1_answerTo_83 : decode cX1_answerTo 83 = .ok (.iload 4, 2) := by decide +kernel
theorem dX1_answerTo_85 : decode cX1_answerTo 85 = .ok (.invokevirtual 121, 3) := by decide +kernel
theorem dX1_answerTo_88 : decode cX1_answerTo 88 = .ok (.lcmp, 1) := by decide +kernel
theorem dX1_answerTo_89 : decode cX1_answerTo 89 = .ok (.ifCond .le 7, 3) := by decide +kernel
theorem dX1_answerTo_92 : decode cX1_answerTo 92 = .ok (.iload 6, 2) := by decide +kernel
theorem dX1_answerTo_94 : decode cX1_answerTo 94 = .ok (.istore 4, 2) := by decide +kernel
theorem dX1_answerTo_96 : decode cX1_answerTo 96 = .ok (.iinc 5 1, 3) := by decide +kernel
theorem dX1_answerTo_99 : decode cX1_answerTo 99 = .ok (.goto (-89), 3) := by decide +kernel
theorem dX1_answerTo_102 : decode cX1_answerTo 102 = .ok (.iload 4, 2) := by decide +kernel
theorem dX1_answerTo_104 : decode cX1_answerTo 104 = .ok (.ireturn, 1) := by decide +kernel
theorem dX1_drawLots_0 : decode cX1_drawLots 0 = .ok (.aload_n 0, 1) := by decide +kernel
theorem dX1_drawLots_1 : decode cX1_drawLots 1 = .ok (.getfield 61, 3) := by decide +kernel
theorem dX1_drawLots_4 : decode cX1_drawLots 4 = .ok (.aload_n 0, 1) := by decide +kernel
theorem dX1_drawLots_5 : decode cX1_drawLots 5 = .ok (.getfield 57, 3) := by decide +kernel
theorem dX1_drawLots_8 : decode cX1_drawLots 8 = .ok (.invokevirtual 81, 3) := by decide +kernel
theorem dX1_drawLots_11 : decode cX1_drawLots 11 = .ok (.iconst 0, 1) := by decide +kernel
theorem dX1_drawLots_12 : decode cX1_drawLots 12 = .ok (.istore 6, 2) := by decide +kernel
theorem dX1_drawLots_14 : decode cX1_drawLots 14 = .ok (.iload 6, 2) := by decide +kernel
theorem dX1_drawLots_16 : decode cX1_drawLots 16 = .ok (.iconst 4, 1) := by decide +kernel
theorem dX1_drawLots_17 : decode cX1_drawLots 17 = .ok (.if_icmp .ge 131, 3) := by decide +kernel
theorem dX1_drawLots_20 : decode cX1_drawLots 20 = .ok (.aload_n 0, 1) := by decide +kernel
theorem dX1_drawLots_21 : decode cX1_drawLots 21 = .ok (.getfield 61, 3) := by decide +kernel
theorem dX1_drawLots_24 : decode cX1_drawLots 24 = .ok (.iload_n 1, 1) := by decide +kernel
theorem dX1_drawLots_25 : decode cX1_drawLots 25 = .ok (.iload 6, 2) := by decide +kernel
theorem dX1_drawLots_27 : decode cX1_drawLots 27 = .ok (.iconst 2, 1) := by decide +kernel
theorem dX1_drawLots_28 : decode cX1_drawLots 28 = .ok (.if_icmp .ge 7, 3) := by decide +kernel
theorem dX1_drawLots_31 : decode cX1_drawLots 31 = .ok (.iload_n 3, 1) := by decide +kernel
theorem dX1_drawLots_32 : decode cX1_drawLots 32 = .ok (.goto 5, 3) := by decide +kernel
theorem dX1_drawLots_35 : decode cX1_drawLots 35 = .ok (.iload 4, 2) := by decide +kernel
theorem dX1_drawLots_37 : decode cX1_drawLots 37 = .ok (.invokevirtual 87, 3) := by decide +kernel
theorem dX1_drawLots_40 : decode cX1_drawLots 40 = .ok (.aload_n 0, 1) := by decide +kernel
theorem dX1_drawLots_41 : decode cX1_drawLots 41 = .ok (.getfield 61, 3) := by decide +kernel
theorem dX1_drawLots_44 : decode cX1_drawLots 44 = .ok (.iload_n 2, 1) := by decide +kernel
theorem dX1_drawLots_45 : decode cX1_drawLots 45 = .ok (.iload 6, 2) := by decide +kernel
theorem dX1_drawLots_47 : decode cX1_drawLots 47 = .ok (.iconst 2, 1) := by decide +kernel
theorem dX1_drawLots_48 : decode cX1_drawLots 48 = .ok (.irem, 1) := by decide +kernel
theorem dX1_drawLots_49 : decode cX1_drawLots 49 = .ok (.ifCond .ne 7, 3) := by decide +kernel
theorem dX1_drawLots_52 : decode cX1_drawLots 52 = .ok (.iload_n 3, 1) := by decide +kernel
theorem dX1_drawLots_53 : decode cX1_drawLots 53 = .ok (.goto 5, 3) := by decide +kernel
theorem dX1_drawLots_56 : decode cX1_drawLots 56 = .ok (.iload 4, 2) := by decide +kernel
theorem dX1_drawLots_58 : decode cX1_drawLots 58 = .ok (.invokevirtual 87, 3) := by decide +kernel
theorem dX1_drawLots_61 : decode cX1_drawLots 61 = .ok (.aload_n 0, 1) := by decide +kernel
theorem dX1_drawLots_62 : decode cX1_drawLots 62 = .ok (.getfield 61, 3) := by decide +kernel
theorem dX1_drawLots_65 : decode cX1_drawLots 65 = .ok (.iload_n 1, 1) := by decide +kernel
theorem dX1_drawLots_66 : decode cX1_drawLots 66 = .ok (.aload_n 0, 1) := by decide +kernel
theorem dX1_drawLots_67 : decode cX1_drawLots 67 = .ok (.getfield 61, 3) := by decide +kernel
theorem dX1_drawLots_70 : decode cX1_drawLots 70 = .ok (.getfield 95, 3) := by decide +kernel
theorem dX1_drawLots_73 : decode cX1_drawLots 73 = .ok (.iload_n 1, 1) := by decide +kernel
theorem dX1_drawLots_74 : decode cX1_drawLots 74 = .ok (.iaload, 1) := by decide +kernel
theorem dX1_drawLots_75 : decode cX1_drawLots 75 = .ok (.invokevirtual 98, 3) := by decide +kernel
theorem dX1_drawLots_78 : decode cX1_drawLots 78 = .ok (.ifCond .eq 23, 3) := by decide +kernel
theorem dX1_drawLots_81 : decode cX1_drawLots 81 = .ok (.aload_n 0, 1) := by decide +kernel
theorem dX1_drawLots_82 : decode cX1_drawLots 82 = .ok (.getfield 61, 3) := by decide +kernel
theorem dX1_drawLots_85 : decode cX1_drawLots 85 = .ok (.iload_n 2, 1) := by decide +kernel
theorem dX1_drawLots_86 : decode cX1_drawLots 86 = .ok (.aload_n 0, 1) := by decide +kernel
theorem dX1_drawLots_87 : decode cX1_drawLots 87 = .ok (.getfield 61, 3) := by decide +kernel
theorem dX1_drawLots_90 : decode cX1_drawLots 90 = .ok (.getfield 95, 3) := by decide +kernel
theorem dX1_drawLots_93 : decode cX1_drawLots 93 = .ok (.iload_n 2, 1) := by decide +kernel
theorem dX1_drawLots_94 : decode cX1_drawLots 94 = .ok (.iaload, 1) := by decide +kernel
theorem dX1_drawLots_95 : decode cX1_drawLots 95 = .ok (.invokevirtual 98, 3) := by decide +kernel
theorem dX1_drawLots_98 : decode cX1_drawLots 98 = .ok (.ifCond .ne 7, 3) := by decide +kernel
theorem dX1_drawLots_101 : decode cX1_drawLots 101 = .ok (.ldc2_w 108, 3) := by decide +kernel
theorem dX1_drawLots_104 : decode cX1_drawLots 104 = .ok (.lreturn, 1) := by decide +kernel
theorem dX1_drawLots_105 : decode cX1_drawLots 105 = .ok (.aload_n 0, 1) := by decide +kernel
theorem dX1_drawLots_106 : decode cX1_drawLots 106 = .ok (.getfield 61, 3) := by decide +kernel
theorem dX1_drawLots_109 : decode cX1_drawLots 109 = .ok (.invokevirtual 102, 3) := by decide +kernel
theorem dX1_drawLots_112 : decode cX1_drawLots 112 = .ok (.aload_n 0, 1) := by decide +kernel
theorem dX1_drawLots_113 : decode cX1_drawLots 113 = .ok (.getfield 25, 3) := by decide +kernel
theorem dX1_drawLots_116 : decode cX1_drawLots 116 = .ok (.iload 6, 2) := by decide +kernel
theorem dX1_drawLots_118 : decode cX1_drawLots 118 = .ok (.aload_n 0, 1) := by decide +kernel
theorem dX1_drawLots_119 : decode cX1_drawLots 119 = .ok (.getfield 61, 3) := by decide +kernel
theorem dX1_drawLots_122 : decode cX1_drawLots 122 = .ok (.iload_n 1, 1) := by decide +kernel
theorem dX1_drawLots_123 : decode cX1_drawLots 123 = .ok (.invokevirtual 105, 3) := by decide +kernel
theorem dX1_drawLots_126 : decode cX1_drawLots 126 = .ok (.lastore, 1) := by decide +kernel
theorem dX1_drawLots_127 : decode cX1_drawLots 127 = .ok (.aload_n 0, 1) := by decide +kernel
theorem dX1_drawLots_128 : decode cX1_drawLots 128 = .ok (.getfield 28, 3) := by decide +kernel
theorem dX1_drawLots_131 : decode cX1_drawLots 131 = .ok (.iload 6, 2) := by decide +kernel
theorem dX1_drawLots_133 : decode cX1_drawLots 133 = .ok (.aload_n 0, 1) := by decide +kernel
theorem dX1_drawLots_134 : decode cX1_drawLots 134 = .ok (.getfield 61, 3) := by decide +kernel
theorem dX1_drawLots_137 : decode cX1_drawLots 137 = .ok (.iload_n 2, 1) := by decide +kernel
theorem dX1_drawLots_138 : decode cX1_drawLots 138 = .ok (.invokevirtual 105, 3) := by decide +kernel
theorem dX1_drawLots_141 : decode cX1_drawLots 141 = .ok (.lastore, 1) := by decide +kernel
theorem dX1_drawLots_142 : decode cX1_drawLots 142 = .ok (.iinc 6 1, 3) := by decide +kernel
theorem dX1_drawLots_145 : decode cX1_drawLots 145 = .ok (.goto (-131), 3) := by decide +kernel
theorem dX1_drawLots_148 : decode cX1_drawLots 148 = .ok (.iconst 0, 1) := by decide +kernel
theorem dX1_drawLots_149 : decode cX1_drawLots 149 = .ok (.istore 6, 2) := by decide +kernel
theorem dX1_drawLots_151 : decode cX1_drawLots 151 = .ok (.iload 6, 2) := by decide +kernel
theorem dX1_drawLots_153 : decode cX1_drawLots 153 = .ok (.iconst 4, 1) := by decide +kernel
theorem dX1_drawLots_154 : decode cX1_drawLots 154 = .ok (.if_icmp .ge 29, 3) := by decide +kernel
theorem dX1_drawLots_157 : decode cX1_drawLots 157 = .ok (.aload_n 0, 1) := by decide +kernel
theorem dX1_drawLots_158 : decode cX1_drawLots 158 = .ok (.getfield 25, 3) := by decide +kernel
theorem dX1_drawLots_161 : decode cX1_drawLots 161 = .ok (.aload_n 0, 1) := by decide +kernel
theorem dX1_drawLots_162 : decode cX1_drawLots 162 = .ok (.getfield 28, 3) := by decide +kernel
theorem dX1_drawLots_165 : decode cX1_drawLots 165 = .ok (.iload 6, 2) := by decide +kernel
theorem dX1_drawLots_167 : decode cX1_drawLots 167 = .ok (.invokestatic 125, 3) := by decide +kernel
theorem dX1_drawLots_170 : decode cX1_drawLots 170 = .ok (.ifCond .eq 7, 3) := by decide +kernel
theorem dX1_drawLots_173 : decode cX1_drawLots 173 = .ok (.ldc2_w 108, 3) := by decide +kernel
theorem dX1_drawLots_176 : decode cX1_drawLots 176 = .ok (.lreturn, 1) := by decide +kernel
theorem dX1_drawLots_177 : decode cX1_drawLots 177 = .ok (.iinc 6 1, 3) := by decide +kernel
theorem dX1_drawLots_180 : decode cX1_drawLots 180 = .ok (.goto (-29), 3) := by decide +kernel
theorem dX1_drawLots_183 : decode cX1_drawLots 183 = .ok (.iload 5, 2) := by decide +kernel
theorem dX1_drawLots_185 : decode cX1_drawLots 185 = .ok (.iconst 2, 1) := by decide +kernel
theorem dX1_drawLots_186 : decode cX1_drawLots 186 = .ok (.if_icmp .ge 31, 3) := by decide +kernel
theorem dX1_drawLots_189 : decode cX1_drawLots 189 = .ok (.aload_n 0, 1) := by decide +kernel
theorem dX1_drawLots_190 : decode cX1_drawLots 190 = .ok (.getfield 28, 3) := by decide +kernel
theorem dX1_drawLots_193 : decode cX1_drawLots 193 = .ok (.iconst 3, 1) := by decide +kernel
theorem dX1_drawLots_194 : decode cX1_drawLots 194 = .ok (.laload, 1) := by decide +kernel
theorem dX1_drawLots_195 : decode cX1_drawLots 195 = .ok (.aload_n 0, 1) := by decide +kernel
theorem dX1_drawLots_196 : decode cX1_drawLots 196 = .ok (.getfield 28, 3) := by decide +kernel
theorem dX1_drawLots_199 : decode cX1_drawLots 199 = .ok (.iconst 2, 1) := by decide +kernel
theorem dX1_drawLots_200 : decode cX1_drawLots 200 = .ok (.laload, 1) := by decide +kernel
theorem dX1_drawLots_201 : decode cX1_drawLots 201 = .ok (.lsub, 1) := by decide +kernel
theorem dX1_drawLots_202 : decode cX1_drawLots 202 = .ok (.aload_n 0, 1) := by decide +kernel
theorem dX1_drawLots_203 : decode cX1_drawLots 203 = .ok (.getfield 28, 3) := by decide +kernel
theorem dX1_drawLots_206 : decode cX1_drawLots 206 = .ok (.invokestatic 129, 3) := by decide +kernel
theorem dX1_drawLots_209 : decode cX1_drawLots 209 = .ok (.iload 5, 2) := by decide +kernel
theorem dX1_drawLots_211 : decode cX1_drawLots 211 = .ok (.invokestatic 133, 3) := by decide +kernel
theorem dX1_drawLots_214 : decode cX1_drawLots 214 = .ok (.goto 30, 3) := by decide +kernel
theorem dX1_drawLots_217 : decode cX1_drawLots 217 = .ok (.aload_n 0, 1) := by decide +kernel
theorem dX1_drawLots_218 : decode cX1_drawLots 218 = .ok (.getfield 25, 3) := by decide +kernel
theorem dX1_drawLots_221 : decode cX1_drawLots 221 = .ok (.iconst 3, 1) := by decide +kernel
theorem dX1_drawLots_222 : decode cX1_drawLots 222 = .ok (.laload, 1) := by decide +kernel
theorem dX1_drawLots_223 : decode cX1_drawLots 223 = .ok (.aload_n 0, 1) := by decide +kernel
theorem dX1_drawLots_224 : decode cX1_drawLots 224 = .ok (.getfield 25, 3) := by decide +kernel
theorem dX1_drawLots_227 : decode cX1_drawLots 227 = .ok (.iconst 1, 1) := by decide +kernel
theorem dX1_drawLots_228 : decode cX1_drawLots 228 = .ok (.laload, 1) := by decide +kernel
theorem dX1_drawLots_229 : decode cX1_drawLots 229 = .ok (.lsub, 1) := by decide +kernel
theorem dX1_drawLots_230 : decode cX1_drawLots 230 = .ok (.aload_n 0, 1) := by decide +kernel
theorem dX1_drawLots_231 : decode cX1_drawLots 231 = .ok (.getfield 25, 3) := by decide +kernel
theorem dX1_drawLots_234 : decode cX1_drawLots 234 = .ok (.invokestatic 129, 3) := by decide +kernel
theorem dX1_drawLots_237 : decode cX1_drawLots 237 = .ok (.iload 5, 2) := by decide +kernel
theorem dX1_drawLots_239 : decode cX1_drawLots 239 = .ok (.iconst 2, 1) := by decide +kernel
theorem dX1_drawLots_240 : decode cX1_drawLots 240 = .ok (.isub, 1) := by decide +kernel
theorem dX1_drawLots_241 : decode cX1_drawLots 241 = .ok (.invokestatic 133, 3) := by decide +kernel
theorem dX1_drawLots_244 : decode cX1_drawLots 244 = .ok (.lreturn, 1) := by decide +kernel
theorem dX1_sumOf_0 : decode cX1_sumOf 0 = .ok (.aload_n 0, 1) := by decide +kernel
theorem dX1_sumOf_1 : decode cX1_sumOf 1 = .ok (.iconst 0, 1) := by decide +kernel
theorem dX1_sumOf_2 : decode cX1_sumOf 2 = .ok (.laload, 1) := by decide +kernel
theorem dX1_sumOf_3 : decode cX1_sumOf 3 = .ok (.aload_n 0, 1) := by decide +kernel
theorem dX1_sumOf_4 : decode cX1_sumOf 4 = .ok (.iconst 1, 1) := by decide +kernel
theorem dX1_sumOf_5 : decode cX1_sumOf 5 = .ok (.laload, 1) := by decide +kernel
theorem dX1_sumOf_6 : decode cX1_sumOf 6 = .ok (.lsub, 1) := by decide +kernel
theorem dX1_sumOf_7 : decode cX1_sumOf 7 = .ok (.aload_n 0, 1) := by decide +kernel
theorem dX1_sumOf_8 : decode cX1_sumOf 8 = .ok (.iconst 2, 1) := by decide +kernel
theorem dX1_sumOf_9 : decode cX1_sumOf 9 = .ok (.laload, 1) := by decide +kernel
theorem dX1_sumOf_10 : decode cX1_sumOf 10 = .ok (.lsub, 1) := by decide +kernel
theorem dX1_sumOf_11 : decode cX1_sumOf 11 = .ok (.aload_n 0, 1) := by decide +kernel
theorem dX1_sumOf_12 : decode cX1_sumOf 12 = .ok (.iconst 3, 1) := by decide +kernel
theorem dX1_sumOf_13 : decode cX1_sumOf 13 = .ok (.laload, 1) := by decide +kernel
theorem dX1_sumOf_14 : decode cX1_sumOf 14 = .ok (.ladd, 1) := by decide +kernel
theorem dX1_sumOf_15 : decode cX1_sumOf 15 = .ok (.lreturn, 1) := by decide +kernel
theorem dX1_inLowest_0 : decode cX1_inLowest 0 = .ok (.lload_n 0, 1) := by decide +kernel
theorem dX1_inLowest_1 : decode cX1_inLowest 1 = .ok (.invokestatic 137, 3) := by decide +kernel
theorem dX1_inLowest_4 : decode cX1_inLowest 4 = .ok (.lload_n 2, 1) := by decide +kernel
theorem dX1_inLowest_5 : decode cX1_inLowest 5 = .ok (.invokestatic 137, 3) := by decide +kernel
theorem dX1_inLowest_8 : decode cX1_inLowest 8 = .ok (.invokestatic 143, 3) := by decide +kernel
theorem dX1_inLowest_11 : decode cX1_inLowest 11 = .ok (.lstore 5, 2) := by decide +kernel
theorem dX1_inLowest_13 : decode cX1_inLowest 13 = .ok (.lload 5, 2) := by decide +kernel
theorem dX1_inLowest_15 : decode cX1_inLowest 15 = .ok (.lconst 0, 1) := by decide +kernel
theorem dX1_inLowest_16 : decode cX1_inLowest 16 = .ok (.lcmp, 1) := by decide +kernel
theorem dX1_inLowest_17 : decode cX1_inLowest 17 = .ok (.ifCond .ne 7, 3) := by decide +kernel
theorem dX1_inLowest_20 : decode cX1_inLowest 20 = .ok (.ldc2_w 108, 3) := by decide +kernel
theorem dX1_inLowest_23 : decode cX1_inLowest 23 = .ok (.lreturn, 1) := by decide +kernel
theorem dX1_inLowest_24 : decode cX1_inLowest 24 = .ok (.iload 4, 2) := by decide +kernel
theorem dX1_inLowest_26 : decode cX1_inLowest 26 = .ok (.ifCond .ne 7, 3) := by decide +kernel
theorem dX1_inLowest_29 : decode cX1_inLowest 29 = .ok (.lload_n 0, 1) := by decide +kernel
theorem dX1_inLowest_30 : decode cX1_inLowest 30 = .ok (.goto 4, 3) := by decide +kernel
theorem dX1_inLowest_33 : decode cX1_inLowest 33 = .ok (.lload_n 2, 1) := by decide +kernel
theorem dX1_inLowest_34 : decode cX1_inLowest 34 = .ok (.lstore 7, 2) := by decide +kernel
theorem dX1_inLowest_36 : decode cX1_inLowest 36 = .ok (.lload_n 2, 1) := by decide +kernel
theorem dX1_inLowest_37 : decode cX1_inLowest 37 = .ok (.lconst 0, 1) := by decide +kernel
theorem dX1_inLowest_38 : decode cX1_inLowest 38 = .ok (.lcmp, 1) := by decide +kernel
theorem dX1_inLowest_39 : decode cX1_inLowest 39 = .ok (.ifCond .ge 9, 3) := by decide +kernel
theorem dX1_inLowest_42 : decode cX1_inLowest 42 = .ok (.lload 7, 2) := by decide +kernel
theorem dX1_inLowest_44 : decode cX1_inLowest 44 = .ok (.lneg, 1) := by decide +kernel
theorem dX1_inLowest_45 : decode cX1_inLowest 45 = .ok (.goto 5, 3) := by decide +kernel
theorem dX1_inLowest_48 : decode cX1_inLowest 48 = .ok (.lload 7, 2) := by decide +kernel
theorem dX1_inLowest_50 : decode cX1_inLowest 50 = .ok (.lload 5, 2) := by decide +kernel
theorem dX1_inLowest_52 : decode cX1_inLowest 52 = .ok (.ldiv, 1) := by decide +kernel
theorem dX1_inLowest_53 : decode cX1_inLowest 53 = .ok (.lreturn, 1) := by decide +kernel
theorem dX1_commonDivisor_0 : decode cX1_commonDivisor 0 = .ok (.lload_n 0, 1) := by decide +kernel
theorem dX1_commonDivisor_1 : decode cX1_commonDivisor 1 = .ok (.lstore 4, 2) := by decide +kernel
theorem dX1_commonDivisor_3 : decode cX1_commonDivisor 3 = .ok (.lload_n 2, 1) := by decide +kernel
theorem dX1_commonDivisor_4 : decode cX1_commonDivisor 4 = .ok (.lstore 6, 2) := by decide +kernel
theorem dX1_commonDivisor_6 : decode cX1_commonDivisor 6 = .ok (.iconst 0, 1) := by decide +kernel
theorem dX1_commonDivisor_7 : decode cX1_commonDivisor 7 = .ok (.istore 8, 2) := by decide +kernel
theorem dX1_commonDivisor_9 : decode cX1_commonDivisor 9 = .ok (.iload 8, 2) := by decide +kernel
theorem dX1_commonDivisor_11 : decode cX1_commonDivisor 11 = .ok (.sipush 200, 3) := by decide +kernel
theorem dX1_commonDivisor_14 : decode cX1_commonDivisor 14 = .ok (.if_icmp .ge 31, 3) := by decide +kernel
theorem dX1_commonDivisor_17 : decode cX1_commonDivisor 17 = .ok (.lload 6, 2) := by decide +kernel
theorem dX1_commonDivisor_19 : decode cX1_commonDivisor 19 = .ok (.lconst 0, 1) := by decide +kernel
theorem dX1_commonDivisor_20 : decode cX1_commonDivisor 20 = .ok (.lcmp, 1) := by decide +kernel
theorem dX1_commonDivisor_21 : decode cX1_commonDivisor 21 = .ok (.ifCond .eq 24, 3) := by decide +kernel
theorem dX1_commonDivisor_24 : decode cX1_commonDivisor 24 = .ok (.lload 4, 2) := by decide +kernel
theorem dX1_commonDivisor_26 : decode cX1_commonDivisor 26 = .ok (.lload 6, 2) := by decide +kernel
theorem dX1_commonDivisor_28 : decode cX1_commonDivisor 28 = .ok (.lrem, 1) := by decide +kernel
theorem dX1_commonDivisor_29 : decode cX1_commonDivisor 29 = .ok (.lstore 9, 2) := by decide +kernel
theorem dX1_commonDivisor_31 : decode cX1_commonDivisor 31 = .ok (.lload 6, 2) := by decide +kernel
theorem dX1_commonDivisor_33 : decode cX1_commonDivisor 33 = .ok (.lstore 4, 2) := by decide +kernel
theorem dX1_commonDivisor_35 : decode cX1_commonDivisor 35 = .ok (.lload 9, 2) := by decide +kernel
theorem dX1_commonDivisor_37 : decode cX1_commonDivisor 37 = .ok (.lstore 6, 2) := by decide +kernel
theorem dX1_commonDivisor_39 : decode cX1_commonDivisor 39 = .ok (.iinc 8 1, 3) := by decide +kernel
theorem dX1_commonDivisor_42 : decode cX1_commonDivisor 42 = .ok (.goto (-33), 3) := by decide +kernel
theorem dX1_commonDivisor_45 : decode cX1_commonDivisor 45 = .ok (.lload 4, 2) := by decide +kernel
theorem dX1_commonDivisor_47 : decode cX1_commonDivisor 47 = .ok (.lreturn, 1) := by decide +kernel
theorem dX1_choose_0 : decode cX1_choose 0 = .ok (.aload_n 0, 1) := by decide +kernel
theorem dX1_choose_1 : decode cX1_choose 1 = .ok (.getfield 44, 3) := by decide +kernel
theorem dX1_choose_4 : decode cX1_choose 4 = .ok (.iload_n 1, 1) := by decide +kernel
theorem dX1_choose_5 : decode cX1_choose 5 = .ok (.if_icmp .ne 21, 3) := by decide +kernel
theorem dX1_choose_8 : decode cX1_choose 8 = .ok (.aload_n 0, 1) := by decide +kernel
theorem dX1_choose_9 : decode cX1_choose 9 = .ok (.getfield 47, 3) := by decide +kernel
theorem dX1_choose_12 : decode cX1_choose 12 = .ok (.iload_n 3, 1) := by decide +kernel
theorem dX1_choose_13 : decode cX1_choose 13 = .ok (.if_icmp .ne 13, 3) := by decide +kernel
theorem dX1_choose_16 : decode cX1_choose 16 = .ok (.aload_n 0, 1) := by decide +kernel
theorem dX1_choose_17 : decode cX1_choose 17 = .ok (.getfield 50, 3) := by decide +kernel
theorem dX1_choose_20 : decode cX1_choose 20 = .ok (.iload 4, 2) := by decide +kernel
theorem dX1_choose_22 : decode cX1_choose 22 = .ok (.if_icmp .ne 4, 3) := by decide +kernel
theorem dX1_choose_25 : decode cX1_choose 25 = .ok (.return_, 1) := by decide +kernel
theorem dX1_choose_26 : decode cX1_choose 26 = .ok (.aload_n 0, 1) := by decide +kernel
theorem dX1_choose_27 : decode cX1_choose 27 = .ok (.iload_n 1, 1) := by decide +kernel
theorem dX1_choose_28 : decode cX1_choose 28 = .ok (.putfield 44, 3) := by decide +kernel
theorem dX1_choose_31 : decode cX1_choose 31 = .ok (.aload_n 0, 1) := by decide +kernel
theorem dX1_choose_32 : decode cX1_choose 32 = .ok (.iload_n 3, 1) := by decide +kernel
theorem dX1_choose_33 : decode cX1_choose 33 = .ok (.putfield 47, 3) := by decide +kernel
theorem dX1_choose_36 : decode cX1_choose 36 = .ok (.aload_n 0, 1) := by decide +kernel
theorem dX1_choose_37 : decode cX1_choose 37 = .ok (.iload 4, 2) := by decide +kernel
theorem dX1_choose_39 : decode cX1_choose 39 = .ok (.putfield 50, 3) := by decide +kernel
theorem dX1_choose_42 : decode cX1_choose 42 = .ok (.aload_n 0, 1) := by decide +kernel
theorem dX1_choose_43 : decode cX1_choose 43 = .ok (.getfield 31, 3) := by decide +kernel
theorem dX1_choose_46 : decode cX1_choose 46 = .ok (.ldc2_w 108, 3) := by decide +kernel
theorem dX1_choose_49 : decode cX1_choose 49 = .ok (.invokestatic 147, 3) := by decide +kernel
theorem dX1_choose_52 : decode cX1_choose 52 = .ok (.iconst (-1), 1) := by decide +kernel
theorem dX1_choose_53 : decode cX1_choose 53 = .ok (.istore 5, 2) := by decide +kernel
theorem dX1_choose_55 : decode cX1_choose 55 = .ok (.iload 5, 2) := by decide +kernel
theorem dX1_choose_57 : decode cX1_choose 57 = .ok (.aload_n 2, 1) := by decide +kernel
theorem dX1_choose_58 : decode cX1_choose 58 = .ok (.getfield 153, 3) := by decide +kernel
theorem dX1_choose_61 : decode cX1_choose 61 = .ok (.if_icmp .ge 114, 3) := by decide +kernel
theorem dX1_choose_64 : decode cX1_choose 64 = .ok (.aload_n 0, 1) := by decide +kernel
theorem dX1_choose_65 : decode cX1_choose 65 = .ok (.getfield 61, 3) := by decide +kernel
theorem dX1_choose_68 : decode cX1_choose 68 = .ok (.getfield 158, 3) := by decide +kernel
theorem dX1_choose_71 : decode cX1_choose 71 = .ok (.aload_n 2, 1) := by decide +kernel
theorem dX1_choose_72 : decode cX1_choose 72 = .ok (.iload 5, 2) := by decide +kernel
theorem dX1_choose_74 : decode cX1_choose 74 = .ok (.invokevirtual 162, 3) := by decide +kernel
theorem dX1_choose_77 : decode cX1_choose 77 = .ok (.aload_n 0, 1) := by decide +kernel
theorem dX1_choose_78 : decode cX1_choose 78 = .ok (.iload_n 3, 1) := by decide +kernel
theorem dX1_choose_79 : decode cX1_choose 79 = .ok (.iload 4, 2) := by decide +kernel
theorem dX1_choose_81 : decode cX1_choose 81 = .ok (.iconst (-1), 1) := by decide +kernel
theorem dX1_choose_82 : decode cX1_choose 82 = .ok (.invokevirtual 69, 3) := by decide +kernel
theorem dX1_choose_85 : decode cX1_choose 85 = .ok (.aload_n 0, 1) := by decide +kernel
theorem dX1_choose_86 : decode cX1_choose 86 = .ok (.invokevirtual 73, 3) := by decide +kernel
theorem dX1_choose_89 : decode cX1_choose 89 = .ok (.aload_n 0, 1) := by decide +kernel
theorem dX1_choose_90 : decode cX1_choose 90 = .ok (.invokevirtual 168, 3) := by decide +kernel
theorem dX1_choose_93 : decode cX1_choose 93 = .ok (.lstore 6, 2) := by decide +kernel
theorem dX1_choose_95 : decode cX1_choose 95 = .ok (.lload 6, 2) := by decide +kernel
theorem dX1_choose_97 : decode cX1_choose 97 = .ok (.ldc2_w 108, 3) := by decide +kernel
theorem dX1_choose_100 : decode cX1_choose 100 = .ok (.lcmp, 1) := by decide +kernel
theorem dX1_choose_101 : decode cX1_choose 101 = .ok (.ifCond .eq 68, 3) := by decide +kernel
theorem dX1_choose_104 : decode cX1_choose 104 = .ok (.aload_n 0, 1) := by decide +kernel
theorem dX1_choose_105 : decode cX1_choose 105 = .ok (.getfield 31, 3) := by decide +kernel
theorem dX1_choose_108 : decode cX1_choose 108 = .ok (.iconst 1, 1) := by decide +kernel
theorem dX1_choose_109 : decode cX1_choose 109 = .ok (.laload, 1) := by decide +kernel
theorem dX1_choose_110 : decode cX1_choose 110 = .ok (.ldc2_w 108, 3) := by decide +kernel
theorem dX1_choose_113 : decode cX1_choose 113 = .ok (.lcmp, 1) := by decide +kernel
theorem dX1_choose_114 : decode cX1_choose 114 = .ok (.ifCond .eq 15, 3) := by decide +kernel
theorem dX1_choose_117 : decode cX1_choose 117 = .ok (.lload 6, 2) := by decide +kernel
theorem dX1_choose_119 : decode cX1_choose 119 = .ok (.aload_n 0, 1) := by decide +kernel
theorem dX1_choose_120 : decode cX1_choose 120 = .ok (.getfield 31, 3) := by decide +kernel
theorem dX1_choose_123 : decode cX1_choose 123 = .ok (.iconst 1, 1) := by decide +kernel
theorem dX1_choose_124 : decode cX1_choose 124 = .ok (.laload, 1) := by decide +kernel
theorem dX1_choose_125 : decode cX1_choose 125 = .ok (.lcmp, 1) := by decide +kernel
theorem dX1_choose_126 : decode cX1_choose 126 = .ok (.ifCond .ge 43, 3) := by decide +kernel
theorem dX1_choose_129 : decode cX1_choose 129 = .ok (.aload_n 0, 1) := by decide +kernel
theorem dX1_choose_130 : decode cX1_choose 130 = .ok (.getfield 31, 3) := by decide +kernel
theorem dX1_choose_133 : decode cX1_choose 133 = .ok (.iconst 0, 1) := by decide +kernel
theorem dX1_choose_134 : decode cX1_choose 134 = .ok (.iload 5, 2) := by decide +kernel
theorem dX1_choose_136 : decode cX1_choose 136 = .ok (.iconst (-1), 1) := by decide +kernel
theorem dX1_choose_137 : decode cX1_choose 137 = .ok (.if_icmp .ne 9, 3) := by decide +kernel
theorem dX1_choose_140 : decode cX1_choose 140 = .ok (.ldc2_w 172, 3) := by decide +kernel
theorem dX1_choose_143 : decode cX1_choose 143 = .ok (.goto 6, 3) := by decide +kernel
theorem dX1_choose_146 : decode cX1_choose 146 = .ok (.iload 5, 2) := by decide +kernel
theorem dX1_choose_148 : decode cX1_choose 148 = .ok (.i2l, 1) := by decide +kernel
theorem dX1_choose_149 : decode cX1_choose 149 = .ok (.lastore, 1) := by decide +kernel
theorem dX1_choose_150 : decode cX1_choose 150 = .ok (.aload_n 0, 1) := by decide +kernel
theorem dX1_choose_151 : decode cX1_choose 151 = .ok (.getfield 31, 3) := by decide +kernel
theorem dX1_choose_154 : decode cX1_choose 154 = .ok (.iconst 1, 1) := by decide +kernel
theorem dX1_choose_155 : decode cX1_choose 155 = .ok (.lload 6, 2) := by decide +kernel
theorem dX1_choose_157 : decode cX1_choose 157 = .ok (.lastore, 1) := by decide +kernel
theorem dX1_choose_158 : decode cX1_choose 158 = .ok (.aload_n 0, 1) := by decide +kernel
theorem dX1_choose_159 : decode cX1_choose 159 = .ok (.getfield 31, 3) := by decide +kernel
theorem dX1_choose_162 : decode cX1_choose 162 = .ok (.iconst 2, 1) := by decide +kernel
theorem dX1_choose_163 : decode cX1_choose 163 = .ok (.aload_n 0, 1) := by decide +kernel
theorem dX1_choose_164 : decode cX1_choose 164 = .ok (.getfield 38, 3) := by decide +kernel
theorem dX1_choose_167 : decode cX1_choose 167 = .ok (.i2l, 1) := by decide +kernel
theorem dX1_choose_168 : decode cX1_choose 168 = .ok (.lastore, 1) := by decide +kernel
theorem dX1_choose_169 : decode cX1_choose 169 = .ok (.iinc 5 1, 3) := by decide +kernel
theorem dX1_choose_172 : decode cX1_choose 172 = .ok (.goto (-117), 3) := by decide +kernel
theorem dX1_choose_175 : decode cX1_choose 175 = .ok (.aload_n 0, 1) := by decide +kernel
theorem dX1_choose_176 : decode cX1_choose 176 = .ok (.getfield 61, 3) := by decide +kernel
theorem dX1_choose_179 : decode cX1_choose 179 = .ok (.getfield 158, 3) := by decide +kernel
theorem dX1_choose_182 : decode cX1_choose 182 = .ok (.aload_n 2, 1) := by decide +kernel
theorem dX1_choose_183 : decode cX1_choose 183 = .ok (.aload_n 0, 1) := by decide +kernel
theorem dX1_choose_184 : decode cX1_choose 184 = .ok (.getfield 57, 3) := by decide +kernel
theorem dX1_choose_187 : decode cX1_choose 187 = .ok (.getfield 174, 3) := by decide +kernel
theorem dX1_choose_190 : decode cX1_choose 190 = .ok (.invokevirtual 162, 3) := by decide +kernel
theorem dX1_choose_193 : decode cX1_choose 193 = .ok (.aload_n 0, 1) := by decide +kernel
theorem dX1_choose_194 : decode cX1_choose 194 = .ok (.iconst (-1), 1) := by decide +kernel
theorem dX1_choose_195 : decode cX1_choose 195 = .ok (.putfield 41, 3) := by decide +kernel
theorem dX1_choose_198 : decode cX1_choose 198 = .ok (.return_, 1) := by decide +kernel
theorem dX1_leastWalk_0 : decode cX1_leastWalk 0 = .ok (.ldc2_w 108, 3) := by decide +kernel
theorem dX1_leastWalk_3 : decode cX1_leastWalk 3 = .ok (.lstore_n 1, 1) := by decide +kernel
theorem dX1_leastWalk_4 : decode cX1_leastWalk 4 = .ok (.iconst 0, 1) := by decide +kernel
theorem dX1_leastWalk_5 : decode cX1_leastWalk 5 = .ok (.istore_n 3, 1) := by decide +kernel
theorem dX1_leastWalk_6 : decode cX1_leastWalk 6 = .ok (.iload_n 3, 1) := by decide +kernel
theorem dX1_leastWalk_7 : decode cX1_leastWalk 7 = .ok (.aload_n 0, 1) := by decide +kernel
theorem dX1_leastWalk_8 : decode cX1_leastWalk 8 = .ok (.getfield 38, 3) := by decide +kernel
theorem dX1_leastWalk_11 : decode cX1_leastWalk 11 = .ok (.if_icmp .ge 67, 3) := by decide +kernel
theorem dX1_leastWalk_14 : decode cX1_leastWalk 14 = .ok (.aload_n 0, 1) := by decide +kernel
theorem dX1_leastWalk_15 : decode cX1_leastWalk 15 = .ok (.getfield 65, 3) := by decide +kernel
theorem dX1_leastWalk_18 : decode cX1_leastWalk 18 = .ok (.aload_n 0, 1) := by decide +kernel
theorem dX1_leastWalk_19 : decode cX1_leastWalk 19 = .ok (.aload_n 0, 1) := by decide +kernel
theorem dX1_leastWalk_20 : decode cX1_leastWalk 20 = .ok (.getfield 15, 3) := by decide +kernel
theorem dX1_leastWalk_23 : decode cX1_leastWalk 23 = .ok (.iload_n 3, 1) := by decide +kernel
theorem dX1_leastWalk_24 : decode cX1_leastWalk 24 = .ok (.iaload, 1) := by decide +kernel
theorem dX1_leastWalk_25 : decode cX1_leastWalk 25 = .ok (.iconst 0, 1) := by decide +kernel
theorem dX1_leastWalk_26 : decode cX1_leastWalk 26 = .ok (.invokevirtual 114, 3) := by decide +kernel
theorem dX1_leastWalk_29 : decode cX1_leastWalk 29 = .ok (.aload_n 0, 1) := by decide +kernel
theorem dX1_leastWalk_30 : decode cX1_leastWalk 30 = .ok (.aload_n 0, 1) := by decide +kernel
theorem dX1_leastWalk_31 : decode cX1_leastWalk 31 = .ok (.getfield 15, 3) := by decide +kernel
theorem dX1_leastWalk_34 : decode cX1_leastWalk 34 = .ok (.iload_n 3, 1) := by decide +kernel
theorem dX1_leastWalk_35 : decode cX1_leastWalk 35 = .ok (.iaload, 1) := by decide +kernel
theorem dX1_leastWalk_36 : decode cX1_leastWalk 36 = .ok (.iconst 1, 1) := by decide +kernel
theorem dX1_leastWalk_37 : decode cX1_leastWalk 37 = .ok (.invokevirtual 114, 3) := by decide +kernel
theorem dX1_leastWalk_40 : decode cX1_leastWalk 40 = .ok (.invokevirtual 179, 3) := by decide +kernel
theorem dX1_leastWalk_43 : decode cX1_leastWalk 43 = .ok (.lstore 4, 2) := by decide +kernel
theorem dX1_leastWalk_45 : decode cX1_leastWalk 45 = .ok (.lload 4, 2) := by decide +kernel
theorem dX1_leastWalk_47 : decode cX1_leastWalk 47 = .ok (.ldc2_w 108, 3) := by decide +kernel
theorem dX1_leastWalk_50 : decode cX1_leastWalk 50 = .ok (.lcmp, 1) := by decide +kernel
theorem dX1_leastWalk_51 : decode cX1_leastWalk 51 = .ok (.ifCond .eq 21, 3) := by decide +kernel
theorem dX1_leastWalk_54 : decode cX1_leastWalk 54 = .ok (.lload_n 1, 1) := by decide +kernel
theorem dX1_leastWalk_55 : decode cX1_leastWalk 55 = .ok (.ldc2_w 108, 3) := by decide +kernel
theorem dX1_leastWalk_58 : decode cX1_leastWalk 58 = .ok (.lcmp, 1) := by decide +kernel
theorem dX1_leastWalk_59 : decode cX1_leastWalk 59 = .ok (.ifCond .eq 10, 3) := by decide +kernel
theorem dX1_leastWalk_62 : decode cX1_leastWalk 62 = .ok (.lload 4, 2) := by decide +kernel
theorem dX1_leastWalk_64 : decode cX1_leastWalk 64 = .ok (.lload_n 1, 1) := by decide +kernel
theorem dX1_leastWalk_65 : decode cX1_leastWalk 65 = .ok (.lcmp, 1) := by decide +kernel
theorem dX1_leastWalk_66 : decode cX1_leastWalk 66 = .ok (.ifCond .ge 6, 3) := by decide +kernel
theorem dX1_leastWalk_69 : decode cX1_leastWalk 69 = .ok (.lload 4, 2) := by decide +kernel
theorem dX1_leastWalk_71 : decode cX1_leastWalk 71 = .ok (.lstore_n 1, 1) := by decide +kernel
theorem dX1_leastWalk_72 : decode cX1_leastWalk 72 = .ok (.iinc 3 1, 3) := by decide +kernel
theorem dX1_leastWalk_75 : decode cX1_leastWalk 75 = .ok (.goto (-69), 3) := by decide +kernel
theorem dX1_leastWalk_78 : decode cX1_leastWalk 78 = .ok (.lload_n 1, 1) := by decide +kernel
theorem dX1_leastWalk_79 : decode cX1_leastWalk 79 = .ok (.lreturn, 1) := by decide +kernel
theorem dX5_init_0 : decode cX5_init 0 = .ok (.aload_n 0, 1) := by decide +kernel
theorem dX5_init_1 : decode cX5_init 1 = .ok (.invokespecial 3, 3) := by decide +kernel
theorem dX5_init_4 : decode cX5_init 4 = .ok (.aload_n 0, 1) := by decide +kernel
theorem dX5_init_5 : decode cX5_init 5 = .ok (.sipush 441, 3) := by decide +kernel
theorem dX5_init_8 : decode cX5_init 8 = .ok (.newarray .long, 2) := by decide +kernel
theorem dX5_init_10 : decode cX5_init 10 = .ok (.putfield 11, 3) := by decide +kernel
theorem dX5_init_13 : decode cX5_init 13 = .ok (.aload_n 0, 1) := by decide +kernel
theorem dX5_init_14 : decode cX5_init 14 = .ok (.sipush 441, 3) := by decide +kernel
theorem dX5_init_17 : decode cX5_init 17 = .ok (.newarray .long, 2) := by decide +kernel
theorem dX5_init_19 : decode cX5_init 19 = .ok (.putfield 15, 3) := by decide +kernel
theorem dX5_init_22 : decode cX5_init 22 = .ok (.aload_n 0, 1) := by decide +kernel
theorem dX5_init_23 : decode cX5_init 23 = .ok (.sipush 441, 3) := by decide +kernel
theorem dX5_init_26 : decode cX5_init 26 = .ok (.newarray .int, 2) := by decide +kernel
theorem dX5_init_28 : decode cX5_init 28 = .ok (.putfield 18, 3) := by decide +kernel
theorem dX5_init_31 : decode cX5_init 31 = .ok (.aload_n 0, 1) := by decide +kernel
theorem dX5_init_32 : decode cX5_init 32 = .ok (.iconst 4, 1) := by decide +kernel
theorem dX5_init_33 : decode cX5_init 33 = .ok (.newarray .long, 2) := by decide +kernel
theorem dX5_init_35 : decode cX5_init 35 = .ok (.putfield 22, 3) := by decide +kernel
theorem dX5_init_38 : decode cX5_init 38 = .ok (.aload_n 0, 1) := by decide +kernel
theorem dX5_init_39 : decode cX5_init 39 = .ok (.iconst 4, 1) := by decide +kernel
theorem dX5_init_40 : decode cX5_init 40 = .ok (.newarray .long, 2) := by decide +kernel
theorem dX5_init_42 : decode cX5_init 42 = .ok (.putfield 25, 3) := by decide +kernel
theorem dX5_init_45 : decode cX5_init 45 = .ok (.aload_n 0, 1) := by decide +kernel
theorem dX5_init_46 : decode cX5_init 46 = .ok (.iconst 4, 1) := by decide +kernel
theorem dX5_init_47 : decode cX5_init 47 = .ok (.newarray .int, 2) := by decide +kernel
theorem dX5_init_49 : decode cX5_init 49 = .ok (.putfield 28, 3) := by decide +kernel
theorem dX5_init_52 : decode cX5_init 52 = .ok (.aload_n 0, 1) := by decide +kernel
theorem dX5_init_53 : decode cX5_init 53 = .ok (.iconst 0, 1) := by decide +kernel
theorem dX5_init_54 : decode cX5_init 54 = .ok (.putfield 31, 3) := by decide +kernel
theorem dX5_init_57 : decode cX5_init 57 = .ok (.aload_n 0, 1) := by decide +kernel
theorem dX5_init_58 : decode cX5_init 58 = .ok (.iconst 0, 1) := by decide +kernel
theorem dX5_init_59 : decode cX5_init 59 = .ok (.putfield 35, 3) := by decide +kernel
theorem dX5_init_62 : decode cX5_init 62 = .ok (.aload_n 0, 1) := by decide +kernel
theorem dX5_init_63 : decode cX5_init 63 = .ok (.iconst 0, 1) := by decide +kernel
theorem dX5_init_64 : decode cX5_init 64 = .ok (.putfield 38, 3) := by decide +kernel
theorem dX5_init_67 : decode cX5_init 67 = .ok (.aload_n 0, 1) := by decide +kernel
theorem dX5_init_68 : decode cX5_init 68 = .ok (.iconst (-1), 1) := by decide +kernel
theorem dX5_init_69 : decode cX5_init 69 = .ok (.putfield 41, 3) := by decide +kernel
theorem dX5_init_72 : decode cX5_init 72 = .ok (.aload_n 0, 1) := by decide +kernel
theorem dX5_init_73 : decode cX5_init 73 = .ok (.iconst (-1), 1) := by decide +kernel
theorem dX5_init_74 : decode cX5_init 74 = .ok (.putfield 44, 3) := by decide +kernel
theorem dX5_init_77 : decode cX5_init 77 = .ok (.aload_n 0, 1) := by decide +kernel
theorem dX5_init_78 : decode cX5_init 78 = .ok (.iconst (-1), 1) := by decide +kernel
theorem dX5_init_79 : decode cX5_init 79 = .ok (.putfield 47, 3) := by decide +kernel
theorem dX5_init_82 : decode cX5_init 82 = .ok (.aload_n 0, 1) := by decide +kernel
theorem dX5_init_83 : decode cX5_init 83 = .ok (.aload_n 1, 1) := by decide +kernel
theorem dX5_init_84 : decode cX5_init 84 = .ok (.putfield 50, 3) := by decide +kernel
theorem dX5_init_87 : decode cX5_init 87 = .ok (.aload_n 0, 1) := by decide +kernel
theorem dX5_init_88 : decode cX5_init 88 = .ok (.aload_n 2, 1) := by decide +kernel
theorem dX5_init_89 : decode cX5_init 89 = .ok (.putfield 54, 3) := by decide +kernel
theorem dX5_init_92 : decode cX5_init 92 = .ok (.aload_n 0, 1) := by decide +kernel
theorem dX5_init_93 : decode cX5_init 93 = .ok (.aload_n 3, 1) := by decide +kernel
theorem dX5_init_94 : decode cX5_init 94 = .ok (.putfield 58, 3) := by decide +kernel
theorem dX5_init_97 : decode cX5_init 97 = .ok (.return_, 1) := by decide +kernel
theorem dX5_prepare_0 : decode cX5_prepare 0 = .ok (.aload_n 0, 1) := by decide +kernel
theorem dX5_prepare_1 : decode cX5_prepare 1 = .ok (.getfield 41, 3) := by decide +kernel
theorem dX5_prepare_4 : decode cX5_prepare 4 = .ok (.iload_n 1, 1) := by decide +kernel
theorem dX5_prepare_5 : decode cX5_prepare 5 = .ok (.if_icmp .ne 20, 3) := by decide +kernel
theorem dX5_prepare_8 : decode cX5_prepare 8 = .ok (.aload_n 0, 1) := by decide +kernel
theorem dX5_prepare_9 : decode cX5_prepare 9 = .ok (.getfield 44, 3) := by decide +kernel
theorem dX5_prepare_12 : decode cX5_prepare 12 = .ok (.iload_n 2, 1) := by decide +kernel
theorem dX5_prepare_13 : decode cX5_prepare 13 = .ok (.if_icmp .ne 12, 3) := by decide +kernel
theorem dX5_prepare_16 : decode cX5_prepare 16 = .ok (.aload_n 0, 1) := by decide +kernel
theorem dX5_prepare_17 : decode cX5_prepare 17 = .ok (.getfield 47, 3) := by decide +kernel
theorem dX5_prepare_20 : decode cX5_prepare 20 = .ok (.iload_n 3, 1) := by decide +kernel
theorem dX5_prepare_21 : decode cX5_prepare 21 = .ok (.if_icmp .ne 4, 3) := by decide +kernel
theorem dX5_prepare_24 : decode cX5_prepare 24 = .ok (.return_, 1) := by decide +kernel
theorem dX5_prepare_25 : decode cX5_prepare 25 = .ok (.aload_n 0, 1) := by decide +kernel
theorem dX5_prepare_26 : decode cX5_prepare 26 = .ok (.iload_n 1, 1) := by decide +kernel
theorem dX5_prepare_27 : decode cX5_prepare 27 = .ok (.putfield 41, 3) := by decide +kernel
theorem dX5_prepare_30 : decode cX5_prepare 30 = .ok (.aload_n 0, 1) := by decide +kernel
theorem dX5_prepare_31 : decode cX5_prepare 31 = .ok (.iload_n 2, 1) := by decide +kernel
theorem dX5_prepare_32 : decode cX5_prepare 32 = .ok (.putfield 44, 3) := by decide +kernel
theorem dX5_prepare_35 : decode cX5_prepare 35 = .ok (.aload_n 0, 1) := by decide +kernel
theorem dX5_prepare_36 : decode cX5_prepare 36 = .ok (.iload_n 3, 1) := by decide +kernel
theorem dX5_prepare_37 : decode cX5_prepare 37 = .ok (.putfield 47, 3) := by decide +kernel
theorem dX5_prepare_40 : decode cX5_prepare 40 = .ok (.aload_n 0, 1) := by decide +kernel
theorem dX5_prepare_41 : decode cX5_prepare 41 = .ok (.getfield 58, 3) := by decide +kernel
theorem dX5_prepare_44 : decode cX5_prepare 44 = .ok (.aload_n 0, 1) := by decide +kernel
theorem dX5_prepare_45 : decode cX5_prepare 45 = .ok (.getfield 54, 3) := by decide +kernel
theorem dX5_prepare_48 : decode cX5_prepare 48 = .ok (.invokevirtual 62, 3) := by decide +kernel
theorem dX5_prepare_51 : decode cX5_prepare 51 = .ok (.aload_n 0, 1) := by decide +kernel
theorem dX5_prepare_52 : decode cX5_prepare 52 = .ok (.iload_n 2, 1) := by decide +kernel
theorem dX5_prepare_53 : decode cX5_prepare 53 = .ok (.iload_n 3, 1) := by decide +kernel
theorem dX5_prepare_54 : decode cX5_prepare 54 = .ok (.invokevirtual 68, 3) := by decide +kernel
theorem dX5_prepare_57 : decode cX5_prepare 57 = .ok (.return_, 1) := by decide +kernel
theorem dX5_findPairs_0 : decode cX5_findPairs 0 = .ok (.aload_n 0, 1) := by decide +kernel
theorem dX5_findPairs_1 : decode cX5_findPairs 1 = .ok (.getfield 58, 3) := by decide +kernel
theorem dX5_findPairs_4 : decode cX5_findPairs 4 = .ok (.getfield 72, 3) := by decide +kernel
theorem dX5_findPairs_7 : decode cX5_findPairs 7 = .ok (.getfield 76, 3) := by decide +kernel
theorem dX5_findPairs_10 : decode cX5_findPairs 10 = .ok (.istore_n 3, 1) := by decide +kernel
theorem dX5_findPairs_11 : decode cX5_findPairs 11 = .ok (.aload_n 0, 1) := by decide +kernel
theorem dX5_findPairs_12 : decode cX5_findPairs 12 = .ok (.iload_n 3, 1) := by decide +kernel
theorem dX5_findPairs_13 : decode cX5_findPairs 13 = .ok (.iconst (-1), 1) := by decide +kernel
theorem dX5_findPairs_14 : decode cX5_findPairs 14 = .ok (.if_icmp .eq 7, 3) := by decide +kernel
theorem dX5_findPairs_17 : decode cX5_findPairs 17 = .ok (.iload_n 3, 1) := by decide +kernel
theorem dX5_findPairs_18 : decode cX5_findPairs 18 = .ok (.goto 10, 3) := by decide +kernel
theorem dX5_findPairs_21 : decode cX5_findPairs 21 = .ok (.aload_n 0, 1) := by decide +kernel
theorem dX5_findPairs_22 : decode cX5_findPairs 22 = .ok (.getfield 50, 3) := by decide +kernel
theorem dX5_findPairs_25 : decode cX5_findPairs 25 = .ok (.getfield 81, 3) := by decide +kernel
theorem dX5_findPairs_28 : decode cX5_findPairs 28 = .ok (.putfield 35, 3) := by decide +kernel
theorem dX5_findPairs_31 : decode cX5_findPairs 31 = .ok (.aload_n 0, 1) := by decide +kernel
theorem dX5_findPairs_32 : decode cX5_findPairs 32 = .ok (.iload_n 3, 1) := by decide +kernel
theorem dX5_findPairs_33 : decode cX5_findPairs 33 = .ok (.iconst (-1), 1) := by decide +kernel
theorem dX5_findPairs_34 : decode cX5_findPairs 34 = .ok (.if_icmp .eq 7, 3) := by decide +kernel
theorem dX5_findPairs_37 : decode cX5_findPairs 37 = .ok (.iconst 1, 1) := by decide +kernel
theorem dX5_findPairs_38 : decode cX5_findPairs 38 = .ok (.goto 25, 3) := by decide +kernel
theorem dX5_findPairs_41 : decode cX5_findPairs 41 = .ok (.bipush 21, 2) := by decide +kernel
theorem dX5_findPairs_43 : decode cX5_findPairs 43 = .ok (.aload_n 0, 1) := by decide +kernel
theorem dX5_findPairs_44 : decode cX5_findPairs 44 = .ok (.getfield 50, 3) := by decide +kernel
theorem dX5_findPairs_47 : decode cX5_findPairs 47 = .ok (.getfield 86, 3) := by decide +kernel
theorem dX5_findPairs_50 : decode cX5_findPairs 50 = .ok (.aload_n 0, 1) := by decide +kernel
theorem dX5_findPairs_51 : decode cX5_findPairs 51 = .ok (.getfield 50, 3) := by decide +kernel
theorem dX5_findPairs_54 : decode cX5_findPairs 54 = .ok (.getfield 81, 3) := by decide +kernel
theorem dX5_findPairs_57 : decode cX5_findPairs 57 = .ok (.isub, 1) := by decide +kernel
theorem dX5_findPairs_58 : decode cX5_findPairs 58 = .ok (.iconst 1, 1) := by decide +kernel
theorem dX5_findPairs_59 : decode cX5_findPairs 59 = .ok (.iadd, 1) := by decide +kernel
theorem dX5_findPairs_60 : decode cX5_findPairs 60 = .ok (.invokestatic 89, 3) := by decide +kernel
theorem dX5_findPairs_63 : decode cX5_findPairs 63 = .ok (.putfield 38, 3) := by decide +kernel
theorem dX5_findPairs_66 : decode cX5_findPairs 66 = .ok (.iconst 0, 1) := by decide +kernel
theorem dX5_findPairs_67 : decode cX5_findPairs 67 = .ok (.istore 4, 2) := by decide +kernel
theorem dX5_findPairs_69 : decode cX5_findPairs 69 = .ok (.iload 4, 2) := by decide +kernel
theorem dX5_findPairs_71 : decode cX5_findPairs 71 = .ok (.aload_n 0, 1) := by decide +kernel
theorem dX5_findPairs_72 : decode cX5_findPairs 72 = .ok (.getfield 38, 3) := by decide +kernel
theorem dX5_findPairs_75 : decode cX5_findPairs 75 = .ok (.if_icmp .ge 108, 3) := by decide +kernel
theorem dX5_findPairs_78 : decode cX5_findPairs 78 = .ok (.aload_n 0, 1) := by decide +kernel
theorem dX5_findPairs_79 : decode cX5_findPairs 79 = .ok (.getfield 58, 3) := by decide +kernel
theorem dX5_findPairs_82 : decode cX5_findPairs 82 = .ok (.getfield 95, 3) := by decide +kernel
theorem dX5_findPairs_85 : decode cX5_findPairs 85 = .ok (.iload_n 1, 1) := by decide +kernel
theorem dX5_findPairs_86 : decode cX5_findPairs 86 = .ok (.aload_n 0, 1) := by decide +kernel
theorem dX5_findPairs_87 : decode cX5_findPairs 87 = .ok (.getfield 35, 3) := by decide +kernel
theorem dX5_findPairs_90 : decode cX5_findPairs 90 = .ok (.iload 4, 2) := by decide +kernel
theorem dX5_findPairs_92 : decode cX5_findPairs 92 = .ok (.iadd, 1) := by decide +kernel
theorem dX5_findPairs_93 : decode cX5_findPairs 93 = .ok (.iastore, 1) := by decide +kernel
theorem dX5_findPairs_94 : decode cX5_findPairs 94 = .ok (.iconst 0, 1) := by decide +kernel
theorem dX5_findPairs_95 : decode cX5_findPairs 95 = .ok (.istore 5, 2) := by decide +kernel
theorem dX5_findPairs_97 : decode cX5_findPairs 97 = .ok (.iload 5, 2) := by decide +kernel
theorem dX5_findPairs_99 : decode cX5_findPairs 99 = .ok (.aload_n 0, 1) := by decide +kernel
theorem dX5_findPairs_100 : decode cX5_findPairs 100 = .ok (.getfield 38, 3) := by decide +kernel
theorem dX5_findPairs_103 : decode cX5_findPairs 103 = .ok (.if_icmp .ge 74, 3) := by decide +kernel
theorem dX5_findPairs_106 : decode cX5_findPairs 106 = .ok (.aload_n 0, 1) := by decide +kernel
theorem dX5_findPairs_107 : decode cX5_findPairs 107 = .ok (.getfield 58, 3) := by decide +kernel
theorem dX5_findPairs_110 : decode cX5_findPairs 110 = .ok (.getfield 95, 3) := by decide +kernel
theorem dX5_findPairs_113 : decode cX5_findPairs 113 = .ok (.iload_n 2, 1) := by decide +kernel
theorem dX5_findPairs_114 : decode cX5_findPairs 114 = .ok (.aload_n 0, 1) := by decide +kernel
theorem dX5_findPairs_115 : decode cX5_findPairs 115 = .ok (.getfield 35, 3) := by decide +kernel
theorem dX5_findPairs_118 : decode cX5_findPairs 118 = .ok (.iload 5, 2) := by decide +kernel
theorem dX5_findPairs_120 : decode cX5_findPairs 120 = .ok (.iadd, 1) := by decide +kernel
theorem dX5_findPairs_121 : decode cX5_findPairs 121 = .ok (.iastore, 1) := by decide +kernel
theorem dX5_findPairs_122 : decode cX5_findPairs 122 = .ok (.aload_n 0, 1) := by decide +kernel
theorem dX5_findPairs_123 : decode cX5_findPairs 123 = .ok (.getfield 58, 3) := by decide +kernel
theorem dX5_findPairs_126 : decode cX5_findPairs 126 = .ok (.invokevirtual 97, 3) := by decide +kernel
theorem dX5_findPairs_129 : decode cX5_findPairs 129 = .ok (.aload_n 0, 1) := by decide +kernel
theorem dX5_findPairs_130 : decode cX5_findPairs 130 = .ok (.getfield 11, 3) := by decide +kernel
theorem dX5_findPairs_133 : decode cX5_findPairs 133 = .ok (.bipush 21, 2) := by decide +kernel
theorem dX5_findPairs_135 : decode cX5_findPairs 135 = .ok (.iload 4, 2) := by decide +kernel
theorem dX5_findPairs_137 : decode cX5_findPairs 137 = .ok (.imul, 1) := by decide +kernel
theorem dX5_findPairs_138 : decode cX5_findPairs 138 = .ok (.iload 5, 2) := by decide +kernel
theorem dX5_findPairs_140 : decode cX5_findPairs 140 = .ok (.iadd, 1) := by decide +kernel
theorem dX5_findPairs_141 : decode cX5_findPairs 141 = .ok (.aload_n 0, 1) := by decide +kernel
theorem dX5_findPairs_142 : decode cX5_findPairs 142 = .ok (.getfield 58, 3) := by decide +kernel
theorem dX5_findPairs_145 : decode cX5_findPairs 145 = .ok (.iload_n 1, 1) := by decide +kernel
theorem dX5_findPairs_146 : decode cX5_findPairs 146 = .ok (.invokevirtual 100, 3) := by decide +kernel
theorem dX5_findPairs_149 : decode cX5_findPairs 149 = .ok (.lastore, 1) := by decide +kernel
theorem dX5_findPairs_150 : decode cX5_findPairs 150 = .ok (.aload_n 0, 1) := by decide +kernel
theorem dX5_findPairs_151 : decode cX5_findPairs 151 = .ok (.getfield 15, 3) := by decide +kernel
theorem dX5_findPairs_154 : decode cX5_findPairs 154 = .ok (.bipush 21, 2) := by decide +kernel
theorem dX5_findPairs_156 : decode cX5_findPairs 156 = .ok (.iload 4, 2) := by decide +kernel
theorem dX5_findPairs_158 : decode cX5_findPairs 158 = .ok (.imul, 1) := by decide +kernel
theorem dX5_findPairs_159 : decode cX5_findPairs 159 = .ok (.iload 5, 2) := by decide +kernel
theorem dX5_findPairs_161 : decode cX5_findPairs 161 = .ok (.iadd, 1) := by decide +kernel
theorem dX5_findPairs_162 : decode cX5_findPairs 162 = .ok (.aload_n 0, 1) := by decide +kernel
theorem dX5_findPairs_163 : decode cX5_findPairs 163 = .ok (.getfield 58, 3) := by decide +kernel
theorem dX5_findPairs_166 : decode cX5_findPairs 166 = .ok (.iload_n 2, 1) := by decide +kernel
theorem dX5_findPairs_167 : decode cX5_findPairs 167 = .ok (.invokevirtual 100, 3) := by decide +kernel
theorem dX5_findPairs_170 : decode cX5_findPairs 170 = .ok (.lastore, 1) := by decide +kernel
theorem dX5_findPairs_171 : decode cX5_findPairs 171 = .ok (.iinc 5 1, 3) := by decide +kernel
theorem dX5_findPairs_174 : decode cX5_findPairs 174 = .ok (.goto (-77), 3) := by decide +kernel
theorem dX5_findPairs_177 : decode cX5_findPairs 177 = .ok (.iinc 4 1, 3) := by decide +kernel
theorem dX5_findPairs_180 : decode cX5_findPairs 180 = .ok (.goto (-111), 3) := by decide +kernel
theorem dX5_findPairs_183 : decode cX5_findPairs 183 = .ok (.aload_n 0, 1) := by decide +kernel
theorem dX5_findPairs_184 : decode cX5_findPairs 184 = .ok (.iconst 0, 1) := by decide +kernel
theorem dX5_findPairs_185 : decode cX5_findPairs 185 = .ok (.putfield 31, 3) := by decide +kernel
theorem dX5_findPairs_188 : decode cX5_findPairs 188 = .ok (.iconst 0, 1) := by decide +kernel
theorem dX5_findPairs_189 : decode cX5_findPairs 189 = .ok (.istore 4, 2) := by decide +kernel
theorem dX5_findPairs_191 : decode cX5_findPairs 191 = .ok (.iload 4, 2) := by decide +kernel
theorem dX5_findPairs_193 : decode cX5_findPairs 193 = .ok (.aload_n 0, 1) := by decide +kernel
theorem dX5_findPairs_194 : decode cX5_findPairs 194 = .ok (.getfield 38, 3) := by decide +kernel
theorem dX5_findPairs_197 : decode cX5_findPairs 197 = .ok (.if_icmp .ge 65, 3) := by decide +kernel
theorem dX5_findPairs_200 : decode cX5_findPairs 200 = .ok (.iconst 0, 1) := by decide +kernel
theorem dX5_findPairs_201 : decode cX5_findPairs 201 = .ok (.istore 5, 2) := by decide +kernel
theorem dX5_findPairs_203 : decode cX5_findPairs 203 = .ok (.iload 5, 2) := by decide +kernel
theorem dX5_findPairs_205 : decode cX5_findPairs 205 = .ok (.aload_n 0, 1) := by decide +kernel
theorem dX5_findPairs_206 : decode cX5_findPairs 206 = .ok (.getfield 38, 3) := by decide +kernel
theorem dX5_findPairs_209 : decode cX5_findPairs 209 = .ok (.if_icmp .ge 47, 3) := by decide +kernel
theorem dX5_findPairs_212 : decode cX5_findPairs 212 = .ok (.aload_n 0, 1) := by decide +kernel
theorem dX5_findPairs_213 : decode cX5_findPairs 213 = .ok (.iload 4, 2) := by decide +kernel
theorem dX5_findPairs_215 : decode cX5_findPairs 215 = .ok (.iload 5, 2) := by decide +kernel
theorem dX5_findPairs_217 : decode cX5_findPairs 217 = .ok (.invokevirtual 104, 3) := by decide +kernel
theorem dX5_findPairs_220 : decode cX5_findPairs 220 = .ok (.ifCond .eq 30, 3) := by decide +kernel
theorem dX5_findPairs_223 : decode cX5_findPairs 223 = .ok (.aload_n 0, 1) := by decide +kernel
theorem dX5_findPairs_224 : decode cX5_findPairs 224 = .ok (.getfield 18, 3) := by decide +kernel
theorem dX5_findPairs_227 : decode cX5_findPairs 227 = .ok (.aload_n 0, 1) := by decide +kernel
theorem dX5_findPairs_228 : decode cX5_findPairs 228 = .ok (.getfield 31, 3) := by decide +kernel
theorem dX5_findPairs_231 : decode cX5_findPairs 231 = .ok (.bipush 21, 2) := by decide +kernel
theorem dX5_findPairs_233 : decode cX5_findPairs 233 = .ok (.iload 4, 2) := by decide +kernel
theorem dX5_findPairs_235 : decode cX5_findPairs 235 = .ok (.imul, 1) := by decide +kernel
theorem dX5_findPairs_236 : decode cX5_findPairs 236 = .ok (.iload 5, 2) := by decide +kernel
theorem dX5_findPairs_238 : decode cX5_findPairs 238 = .ok (.iadd, 1) := by decide +kernel
theorem dX5_findPairs_239 : decode cX5_findPairs 239 = .ok (.iastore, 1) := by decide +kernel
theorem dX5_findPairs_240 : decode cX5_findPairs 240 = .ok (.aload_n 0, 1) := by decide +kernel
theorem dX5_findPairs_241 : decode cX5_findPairs 241 = .ok (.dup, 1) := by decide +kernel
theorem dX5_findPairs_242 : decode cX5_findPairs 242 = .ok (.getfield 31, 3) := by decide +kernel
theorem dX5_findPairs_245 : decode cX5_findPairs 245 = .ok (.iconst 1, 1) := by decide +kernel
theorem dX5_findPairs_246 : decode cX5_findPairs 246 = .ok (.iadd, 1) := by decide +kernel
theorem dX5_findPairs_247 : decode cX5_findPairs 247 = .ok (.putfield 31, 3) := by decide +kernel
theorem dX5_findPairs_250 : decode cX5_findPairs 250 = .ok (.iinc 5 1, 3) := by decide +kernel
theorem dX5_findPairs_253 : decode cX5_findPairs 253 = .ok (.goto (-50), 3) := by decide +kernel
theorem dX5_findPairs_256 : decode cX5_findPairs 256 = .ok (.iinc 4 1, 3) := by decide +kernel
theorem dX5_findPairs_259 : decode cX5_findPairs 259 = .ok (.goto (-68), 3) := by decide +kernel
theorem dX5_findPairs_262 : decode cX5_findPairs 262 = .ok (.return_, 1) := by decide +kernel
theorem dX5_isRest_0 : decode cX5_isRest 0 = .ok (.bipush 21, 2) := by decide +kernel
theorem dX5_isRest_2 : decode cX5_isRest 2 = .ok (.iload_n 1, 1) := by decide +kernel
theorem dX5_isRest_3 : decode cX5_isRest 3 = .ok (.imul, 1) := by decide +kernel
theorem dX5_isRest_4 : decode cX5_isRest 4 = .ok (.iload_n 2, 1) := by decide +kernel
theorem dX5_isRest_5 : decode cX5_isRest 5 = .ok (.iadd, 1) := by decide +kernel
theorem dX5_isRest_6 : decode cX5_isRest 6 = .ok (.istore_n 3, 1) := by decide +kernel
theorem dX5_isRest_7 : decode cX5_isRest 7 = .ok (.iconst 0, 1) := by decide +kernel
theorem dX5_isRest_8 : decode cX5_isRest 8 = .ok (.istore 4, 2) := by decide +kernel
theorem dX5_isRest_10 : decode cX5_isRest 10 = .ok (.iload 4, 2) := by decide +kernel
theorem dX5_isRest_12 : decode cX5_isRest 12 = .ok (.aload_n 0, 1) := by decide +kernel
theorem dX5_isRest_13 : decode cX5_isRest 13 = .ok (.getfield 38, 3) := by decide +kernel
theorem dX5_isRest_16 : decode cX5_isRest 16 = .ok (.if_icmp .ge 55, 3) := by decide +kernel
theorem dX5_isRest_19 : decode cX5_isRest 19 = .ok (.aload_n 0, 1) := by decide +kernel
theorem dX5_isRest_20 : decode cX5_isRest 20 = .ok (.getfield 11, 3) := by decide +kernel
theorem dX5_isRest_23 : decode cX5_isRest 23 = .ok (.bipush 21, 2) := by decide +kernel
theorem dX5_isRest_25 : decode cX5_isRest 25 = .ok (.iload 4, 2) := by decide +kernel
theorem dX5_isRest_27 : decode cX5_isRest 27 = .ok (.imul, 1) := by decide +kernel
theorem dX5_isRest_28 : decode cX5_isRest 28 = .ok (.iload_n 2, 1) := by decide +kernel
theorem dX5_isRest_29 : decode cX5_isRest 29 = .ok (.iadd, 1) := by decide +kernel
theorem dX5_isRest_30 : decode cX5_isRest 30 = .ok (.laload, 1) := by decide +kernel
theorem dX5_isRest_31 : decode cX5_isRest 31 = .ok (.aload_n 0, 1) := by decide +kernel
theorem dX5_isRest_32 : decode cX5_isRest 32 = .ok (.getfield 11, 3) := by decide +kernel
theorem dX5_isRest_35 : decode cX5_isRest 35 = .ok (.iload_n 3, 1) := by decide +kernel
theorem dX5_isRest_36 : decode cX5_isRest 36 = .ok (.laload, 1) := by decide +kernel
theorem dX5_isRest_37 : decode cX5_isRest 37 = .ok (.lcmp, 1) := by decide +kernel
theorem dX5_isRest_38 : decode cX5_isRest 38 = .ok (.ifCond .gt 25, 3) := by decide +kernel
theorem dX5_isRest_41 : decode cX5_isRest 41 = .ok (.aload_n 0, 1) := by decide +kernel
theorem dX5_isRest_42 : decode cX5_isRest 42 = .ok (.getfield 15, 3) := by decide +kernel
theorem dX5_isRest_45 : decode cX5_isRest 45 = .ok (.bipush 21, 2) := by decide +kernel
theorem dX5_isRest_47 : decode cX5_isRest 47 = .ok (.iload_n 1, 1) := by decide +kernel
theorem dX5_isRest_48 : decode cX5_isRest 48 = .ok (.imul, 1) := by decide +kernel
theorem dX5_isRest_49 : decode cX5_isRest 49 = .ok (.iload 4, 2) := by decide +kernel
theorem dX5_isRest_51 : decode cX5_isRest 51 = .ok (.iadd, 1) := by decide +kernel
theorem dX5_isRest_52 : decode cX5_isRest 52 = .ok (.laload, 1) := by decide +kernel
theorem dX5_isRest_53 : decode cX5_isRest 53 = .ok (.aload_n 0, 1) := by decide +kernel
theorem dX5_isRest_54 : decode cX5_isRest 54 = .ok (.getfield 15, 3) := by decide +kernel
theorem dX5_isRest_57 : decode cX5_isRest 57 = .ok (.iload_n 3, 1) := by decide +kernel
theorem dX5_isRest_58 : decode cX5_isRest 58 = .ok (.laload, 1) := by decide +kernel
theorem dX5_isRest_59 : decode cX5_isRest 59 = .ok (.lcmp, 1) := by decide +kernel
theorem dX5_isRest_60 : decode cX5_isRest 60 = .ok (.ifCond .le 5, 3) := by decide +kernel
theorem dX5_isRest_63 : decode cX5_isRest 63 = .ok (.iconst 0, 1) := by decide +kernel
theorem dX5_isRest_64 : decode cX5_isRest 64 = .ok (.ireturn, 1) := by decide +kernel
theorem dX5_isRest_65 : decode cX5_isRest 65 = .ok (.iinc 4 1, 3) := by decide +kernel
theorem dX5_isRest_68 : decode cX5_isRest 68 = .ok (.goto (-58), 3) := by decide +kernel
theorem dX5_isRest_71 : decode cX5_isRest 71 = .ok (.iconst 1, 1) := by decide +kernel
theorem dX5_isRest_72 : decode cX5_isRest 72 = .ok (.ireturn, 1) := by decide +kernel
theorem dX5_pairAt_0 : decode cX5_pairAt 0 = .ok (.bipush 100, 2) := by decide +kernel
theorem dX5_pairAt_2 : decode cX5_pairAt 2 = .ok (.aload_n 0, 1) := by decide +kernel
theorem dX5_pairAt_3 : decode cX5_pairAt 3 = .ok (.getfield 35, 3) := by decide +kernel
theorem dX5_pairAt_6 : decode cX5_pairAt 6 = .ok (.aload_n 0, 1) := by decide +kernel
theorem dX5_pairAt_7 : decode cX5_pairAt 7 = .ok (.getfield 18, 3) := by decide +kernel
theorem dX5_pairAt_10 : decode cX5_pairAt 10 = .ok (.iload_n 1, 1) := by decide +kernel
theorem dX5_pairAt_11 : decode cX5_pairAt 11 = .ok (.iaload, 1) := by decide +kernel
theorem dX5_pairAt_12 : decode cX5_pairAt 12 = .ok (.bipush 21, 2) := by decide +kernel
theorem dX5_pairAt_14 : decode cX5_pairAt 14 = .ok (.idiv, 1) := by decide +kernel
theorem dX5_pairAt_15 : decode cX5_pairAt 15 = .ok (.iadd, 1) := by decide +kernel
theorem dX5_pairAt_16 : decode cX5_pairAt 16 = .ok (.imul, 1) := by decide +kernel
theorem dX5_pairAt_17 : decode cX5_pairAt 17 = .ok (.aload_n 0, 1) := by decide +kernel
theorem dX5_pairAt_18 : decode cX5_pairAt 18 = .ok (.getfield 35, 3) := by decide +kernel
theorem dX5_pairAt_21 : decode cX5_pairAt 21 = .ok (.iadd, 1) := by decide +kernel
theorem dX5_pairAt_22 : decode cX5_pairAt 22 = .ok (.aload_n 0, 1) := by decide +kernel
theorem dX5_pairAt_23 : decode cX5_pairAt 23 = .ok (.getfield 18, 3) := by decide +kernel
theorem dX5_pairAt_26 : decode cX5_pairAt 26 = .ok (.iload_n 1, 1) := by decide +kernel
theorem dX5_pairAt_27 : decode cX5_pairAt 27 = .ok (.iaload, 1) := by decide +kernel
theorem dX5_pairAt_28 : decode cX5_pairAt 28 = .ok (.bipush 21, 2) := by decide +kernel
theorem dX5_pairAt_30 : decode cX5_pairAt 30 = .ok (.irem, 1) := by decide +kernel
theorem dX5_pairAt_31 : decode cX5_pairAt 31 = .ok (.iadd, 1) := by decide +kernel
theorem dX5_pairAt_32 : decode cX5_pairAt 32 = .ok (.ireturn, 1) := by decide +kernel
theorem dX5_firstStage_0 : decode cX5_firstStage 0 = .ok (.aload_n 0, 1) := by decide +kernel
theorem dX5_firstStage_1 : decode cX5_firstStage 1 = .ok (.iconst (-1), 1) := by decide +kernel
theorem dX5_firstStage_2 : decode cX5_firstStage 2 = .ok (.putfield 41, 3) := by decide +kernel
theorem dX5_firstStage_5 : decode cX5_firstStage 5 = .ok (.aload_n 0, 1) := by decide +kernel
theorem dX5_firstStage_6 : decode cX5_firstStage 6 = .ok (.getfield 58, 3) := by decide +kernel
theorem dX5_firstStage_9 : decode cX5_firstStage 9 = .ok (.aload_n 0, 1) := by decide +kernel
theorem dX5_firstStage_10 : decode cX5_firstStage 10 = .ok (.getfield 54, 3) := by decide +kernel
theorem dX5_firstStage_13 : decode cX5_firstStage 13 = .ok (.invokevirtual 62, 3) := by decide +kernel
theorem dX5_firstStage_16 : decode cX5_firstStage 16 = .ok (.iconst 0, 1) := by decide +kernel
theorem dX5_firstStage_17 : decode cX5_firstStage 17 = .ok (.istore 5, 2) := by decide +kernel
theorem dX5_firstStage_19 : decode cX5_firstStage 19 = .ok (.iload 5, 2) := by decide +kernel
theorem dX5_firstStage_21 : decode cX5_firstStage 21 = .ok (.iconst 4, 1) := by decide +kernel
theorem dX5_firstStage_22 : decode cX5_firstStage 22 = .ok (.if_icmp .ge 58, 3) := by decide +kernel
theorem dX5_firstStage_25 : decode cX5_firstStage 25 = .ok (.aload_n 0, 1) := by decide +kernel
theorem dX5_firstStage_26 : decode cX5_firstStage 26 = .ok (.getfield 58, 3) := by decide +kernel
theorem dX5_firstStage_29 : decode cX5_firstStage 29 = .ok (.iload_n 1, 1) := by decide +kernel
theorem dX5_firstStage_30 : decode cX5_firstStage 30 = .ok (.iload 5, 2) := by decide +kernel
theorem dX5_firstStage_32 : decode cX5_firstStage 32 = .ok (.iconst 2, 1) := by decide +kernel
theorem dX5_firstStage_33 : decode cX5_firstStage 33 = .ok (.if_icmp .ge 7, 3) := by decide +kernel
theorem dX5_firstStage_36 : decode cX5_firstStage 36 = .ok (.iload_n 3, 1) := by decide +kernel
theorem dX5_firstStage_37 : decode cX5_firstStage 37 = .ok (.goto 5, 3) := by decide +kernel
theorem dX5_firstStage_40 : decode cX5_firstStage 40 = .ok (.iload 4, 2) := by decide +kernel
theorem dX5_firstStage_42 : decode cX5_firstStage 42 = .ok (.invokevirtual 108, 3) := by decide +kernel
theorem dX5_firstStage_45 : decode cX5_firstStage 45 = .ok (.aload_n 0, 1) := by decide +kernel
theorem dX5_firstStage_46 : decode cX5_firstStage 46 = .ok (.getfield 58, 3) := by decide +kernel
theorem dX5_firstStage_49 : decode cX5_firstStage 49 = .ok (.iload_n 2, 1) := by decide +kernel
theorem dX5_firstStage_50 : decode cX5_firstStage 50 = .ok (.iload 5, 2) := by decide +kernel
theorem dX5_firstStage_52 : decode cX5_firstStage 52 = .ok (.iconst 2, 1) := by decide +kernel
theorem dX5_firstStage_53 : decode cX5_firstStage 53 = .ok (.irem, 1) := by decide +kernel
theorem dX5_firstStage_54 : decode cX5_firstStage 54 = .ok (.ifCond .ne 7, 3) := by decide +kernel
theorem dX5_firstStage_57 : decode cX5_firstStage 57 = .ok (.iload_n 3, 1) := by decide +kernel
theorem dX5_firstStage_58 : decode cX5_firstStage 58 = .ok (.goto 5, 3) := by decide +kernel
theorem dX5_firstStage_61 : decode cX5_firstStage 61 = .ok (.iload 4, 2) := by decide +kernel
theorem dX5_firstStage_63 : decode cX5_firstStage 63 = .ok (.invokevirtual 108, 3) := by decide +kernel
theorem dX5_firstStage_66 : decode cX5_firstStage 66 = .ok (.aload_n 0, 1) := by decide +kernel
theorem dX5_firstStage_67 : decode cX5_firstStage 67 = .ok (.iload 5, 2) := by decide +kernel
theorem dX5_firstStage_69 : decode cX5_firstStage 69 = .ok (.iload_n 1, 1) := by decide +kernel
theorem dX5_firstStage_70 : decode cX5_firstStage 70 = .ok (.iload_n 2, 1) := by decide +kernel
theorem dX5_firstStage_71 : decode cX5_firstStage 71 = .ok (.invokevirtual 111, 3) := by decide +kernel
theorem dX5_firstStage_74 : decode cX5_firstStage 74 = .ok (.iinc 5 1, 3) := by decide +kernel
theorem dX5_firstStage_77 : decode cX5_firstStage 77 = .ok (.goto (-58), 3) := by decide +kernel
theorem dX5_firstStage_80 : decode cX5_firstStage 80 = .ok (.iconst 0, 1) := by decide +kernel
theorem dX5_firstStage_81 : decode cX5_firstStage 81 = .ok (.istore 5, 2) := by decide +kernel
theorem dX5_firstStage_83 : decode cX5_firstStage 83 = .ok (.iload 5, 2) := by decide +kernel
theorem dX5_firstStage_85 : decode cX5_firstStage 85 = .ok (.iconst 4, 1) := by decide +kernel
theorem dX5_firstStage_86 : decode cX5_firstStage 86 = .ok (.if_icmp .ge 28, 3) := by decide +kernel
theorem dX5_firstStage_89 : decode cX5_firstStage 89 = .ok (.aload_n 0, 1) := by decide +kernel
theorem dX5_firstStage_90 : decode cX5_firstStage 90 = .ok (.getfield 22, 3) := by decide +kernel
theorem dX5_firstStage_93 : decode cX5_firstStage 93 = .ok (.aload_n 0, 1) := by decide +kernel
theorem dX5_firstStage_94 : decode cX5_firstStage 94 = .ok (.getfield 25, 3) := by decide +kernel
theorem dX5_firstStage_97 : decode cX5_firstStage 97 = .ok (.iload 5, 2) := by decide +kernel
theorem dX5_firstStage_99 : decode cX5_firstStage 99 = .ok (.invokestatic 115, 3) := by decide +kernel
theorem dX5_firstStage_102 : decode cX5_firstStage 102 = .ok (.ifCond .eq 6, 3) := by decide +kernel
theorem dX5_firstStage_105 : decode cX5_firstStage 105 = .ok (.iload 5, 2) := by decide +kernel
theorem dX5_firstStage_107 : decode cX5_firstStage 107 = .ok (.ireturn, 1) := by decide +kernel
theorem dX5_firstStage_108 : decode cX5_firstStage 108 = .ok (.iinc 5 1, 3) := by decide +kernel
theorem dX5_firstStage_111 : decode cX5_firstStage 111 = .ok (.goto (-28), 3) := by decide +kernel
theorem dX5_firstStage_114 : decode cX5_firstStage 114 = .ok (.iconst (-1), 1) := by decide +kernel
theorem dX5_firstStage_115 : decode cX5_firstStage 115 = .ok (.ireturn, 1) := by decide +kernel
theorem dX5_weighStage_0 : decode cX5_weighStage 0 = .ok (.aload_n 0, 1) := by decide +kernel
theorem dX5_weighStage_1 : decode cX5_weighStage 1 = .ok (.getfield 22, 3) := by decide +kernel
theorem dX5_weighStage_4 : decode cX5_weighStage 4 = .ok (.iload_n 1, 1) := by decide +kernel
theorem dX5_weighStage_5 : decode cX5_weighStage 5 = .ok (.ldc2_w 119, 3) := by decide +kernel
theorem dX5_weighStage_8 : decode cX5_weighStage 8 = .ok (.lastore, 1) := by decide +kernel
theorem dX5_weighStage_9 : decode cX5_weighStage 9 = .ok (.aload_n 0, 1) := by decide +kernel
theorem dX5_weighStage_10 : decode cX5_weighStage 10 = .ok (.getfield 25, 3) := by decide +kernel
theorem dX5_weighStage_13 : decode cX5_weighStage 13 = .ok (.iload_n 1, 1) := by decide +kernel
theorem dX5_weighStage_14 : decode cX5_weighStage 14 = .ok (.ldc2_w 119, 3) := by decide +kernel
theorem dX5_weighStage_17 : decode cX5_weighStage 17 = .ok (.lastore, 1) := by decide +kernel
theorem dX5_weighStage_18 : decode cX5_weighStage 18 = .ok (.aload_n 0, 1) := by decide +kernel
theorem dX5_weighStage_19 : decode cX5_weighStage 19 = .ok (.getfield 28, 3) := by decide +kernel
theorem dX5_weighStage_22 : decode cX5_weighStage 22 = .ok (.iload_n 1, 1) := by decide +kernel
theorem dX5_weighStage_23 : decode cX5_weighStage 23 = .ok (.iconst 0, 1) := by decide +kernel
theorem dX5_weighStage_24 : decode cX5_weighStage 24 = .ok (.iastore, 1) := by decide +kernel
theorem dX5_weighStage_25 : decode cX5_weighStage 25 = .ok (.aload_n 0, 1) := by decide +kernel
theorem dX5_weighStage_26 : decode cX5_weighStage 26 = .ok (.getfield 58, 3) := by decide +kernel
theorem dX5_weighStage_29 : decode cX5_weighStage 29 = .ok (.iload_n 2, 1) := by decide +kernel
theorem dX5_weighStage_30 : decode cX5_weighStage 30 = .ok (.aload_n 0, 1) := by decide +kernel
theorem dX5_weighStage_31 : decode cX5_weighStage 31 = .ok (.getfield 58, 3) := by decide +kernel
theorem dX5_weighStage_34 : decode cX5_weighStage 34 = .ok (.getfield 121, 3) := by decide +kernel
theorem dX5_weighStage_37 : decode cX5_weighStage 37 = .ok (.iload_n 2, 1) := by decide +kernel
theorem dX5_weighStage_38 : decode cX5_weighStage 38 = .ok (.iaload, 1) := by decide +kernel
theorem dX5_weighStage_39 : decode cX5_weighStage 39 = .ok (.invokevirtual 124, 3) := by decide +kernel
theorem dX5_weighStage_42 : decode cX5_weighStage 42 = .ok (.ifCond .eq 23, 3) := by decide +kernel
theorem dX5_weighStage_45 : decode cX5_weighStage 45 = .ok (.aload_n 0, 1) := by decide +kernel
theorem dX5_weighStage_46 : decode cX5_weighStage 46 = .ok (.getfield 58, 3) := by decide +kernel
theorem dX5_weighStage_49 : decode cX5_weighStage 49 = .ok (.iload_n 3, 1) := by decide +kernel
theorem dX5_weighStage_50 : decode cX5_weighStage 50 = .ok (.aload_n 0, 1) := by decide +kernel
theorem dX5_weighStage_51 : decode cX5_weighStage 51 = .ok (.getfield 58, 3) := by decide +kernel
theorem dX5_weighStage_54 : decode cX5_weighStage 54 = .ok (.getfield 121, 3) := by decide +kernel
theorem dX5_weighStage_57 : decode cX5_weighStage 57 = .ok (.iload_n 3, 1) := by decide +kernel
theorem dX5_weighStage_58 : decode cX5_weighStage 58 = .ok (.iaload, 1) := by decide +kernel
theorem dX5_weighStage_59 : decode cX5_weighStage 59 = .ok (.invokevirtual 124, 3) := by decide +kernel
theorem dX5_weighStage_62 : decode cX5_weighStage 62 = .ok (.ifCond .ne 4, 3) := by decide +kernel
theorem dX5_weighStage_65 : decode cX5_weighStage 65 = .ok (.return_, 1) := by decide +kernel
theorem dX5_weighStage_66 : decode cX5_weighStage 66 = .ok (.aload_n 0, 1) := by decide +kernel
theorem dX5_weighStage_67 : decode cX5_weighStage 67 = .ok (.iload_n 2, 1) := by decide +kernel
theorem dX5_weighStage_68 : decode cX5_weighStage 68 = .ok (.iload_n 3, 1) := by decide +kernel
theorem dX5_weighStage_69 : decode cX5_weighStage 69 = .ok (.invokevirtual 68, 3) := by decide +kernel
theorem dX5_weighStage_72 : decode cX5_weighStage 72 = .ok (.aload_n 0, 1) := by decide +kernel
theorem dX5_weighStage_73 : decode cX5_weighStage 73 = .ok (.getfield 31, 3) := by decide +kernel
theorem dX5_weighStage_76 : decode cX5_weighStage 76 = .ok (.ifCond .le 48, 3) := by decide +kernel
theorem dX5_weighStage_79 : decode cX5_weighStage 79 = .ok (.aload_n 0, 1) := by decide +kernel
theorem dX5_weighStage_80 : decode cX5_weighStage 80 = .ok (.getfield 22, 3) := by decide +kernel
theorem dX5_weighStage_83 : decode cX5_weighStage 83 = .ok (.iload_n 1, 1) := by decide +kernel
theorem dX5_weighStage_84 : decode cX5_weighStage 84 = .ok (.aload_n 0, 1) := by decide +kernel
theorem dX5_weighStage_85 : decode cX5_weighStage 85 = .ok (.getfield 11, 3) := by decide +kernel
theorem dX5_weighStage_88 : decode cX5_weighStage 88 = .ok (.aload_n 0, 1) := by decide +kernel
theorem dX5_weighStage_89 : decode cX5_weighStage 89 = .ok (.getfield 18, 3) := by decide +kernel
theorem dX5_weighStage_92 : decode cX5_weighStage 92 = .ok (.iconst 0, 1) := by decide +kernel
theorem dX5_weighStage_93 : decode cX5_weighStage 93 = .ok (.iaload, 1) := by decide +kernel
theorem dX5_weighStage_94 : decode cX5_weighStage 94 = .ok (.laload, 1) := by decide +kernel
theorem dX5_weighStage_95 : decode cX5_weighStage 95 = .ok (.lastore, 1) := by decide +kernel
theorem dX5_weighStage_96 : decode cX5_weighStage 96 = .ok (.aload_n 0, 1) := by decide +kernel
theorem dX5_weighStage_97 : decode cX5_weighStage 97 = .ok (.getfield 25, 3) := by decide +kernel
theorem dX5_weighStage_100 : decode cX5_weighStage 100 = .ok (.iload_n 1, 1) := by decide +kernel
theorem dX5_weighStage_101 : decode cX5_weighStage 101 = .ok (.aload_n 0, 1) := by decide +kernel
theorem dX5_weighStage_102 : decode cX5_weighStage 102 = .ok (.getfield 15, 3) := by decide +kernel
theorem dX5_weighStage_105 : decode cX5_weighStage 105 = .ok (.aload_n 0, 1) := by decide +kernel
theorem dX5_weighStage_106 : decode cX5_weighStage 106 = .ok (.getfield 18, 3) := by decide +kernel
theorem dX5_weighStage_109 : decode cX5_weighStage 109 = .ok (.iconst 0, 1) := by decide +kernel
theorem dX5_weighStage_110 : decode cX5_weighStage 110 = .ok (.iaload, 1) := by decide +kernel
theorem dX5_weighStage_111 : decode cX5_weighStage 111 = .ok (.laload, 1) := by decide +kernel
theorem dX5_weighStage_112 : decode cX5_weighStage 112 = .ok (.lastore, 1) := by decide +kernel
theorem dX5_weighStage_113 : decode cX5_weighStage 113 = .ok (.aload_n 0, 1) := by decide +kernel
theorem dX5_weighStage_114 : decode cX5_weighStage 114 = .ok (.getfield 28, 3) := by decide +kernel
theorem dX5_weighStage_117 : decode cX5_weighStage 117 = .ok (.iload_n 1, 1) := by decide +kernel
theorem dX5_weighStage_118 : decode cX5_weighStage 118 = .ok (.aload_n 0, 1) := by decide +kernel
theorem dX5_weighStage_119 : decode cX5_weighStage 119 = .ok (.iconst 0, 1) := by decide +kernel
theorem dX5_weighStage_120 : decode cX5_weighStage 120 = .ok (.invokevirtual 127, 3) := by decide +kernel
theorem dX5_weighStage_123 : decode cX5_weighStage 123 = .ok (.iastore, 1) := by decide +kernel
theorem dX5_weighStage_124 : decode cX5_weighStage 124 = .ok (.return_, 1) := by decide +kernel
