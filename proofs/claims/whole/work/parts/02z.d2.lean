theorem dX8_init_0 : decode cX8_init 0 = .ok (.aload_n 0, 1) := by decide +kernel
theorem dX8_init_1 : decode cX8_init 1 = .ok (.invokespecial 3, 3) := by decide +kernel
theorem dX8_init_4 : decode cX8_init 4 = .ok (.aload_n 0, 1) := by decide +kernel
theorem dX8_init_5 : decode cX8_init 5 = .ok (.iconst 4, 1) := by decide +kernel
theorem dX8_init_6 : decode cX8_init 6 = .ok (.newarray .int, 2) := by decide +kernel
theorem dX8_init_8 : decode cX8_init 8 = .ok (.putfield 9, 3) := by decide +kernel
theorem dX8_init_11 : decode cX8_init 11 = .ok (.aload_n 0, 1) := by decide +kernel
theorem dX8_init_12 : decode cX8_init 12 = .ok (.iconst 4, 1) := by decide +kernel
theorem dX8_init_13 : decode cX8_init 13 = .ok (.newarray .int, 2) := by decide +kernel
theorem dX8_init_15 : decode cX8_init 15 = .ok (.putfield 15, 3) := by decide +kernel
theorem dX8_init_18 : decode cX8_init 18 = .ok (.aload_n 0, 1) := by decide +kernel
theorem dX8_init_19 : decode cX8_init 19 = .ok (.bipush 48, 2) := by decide +kernel
theorem dX8_init_21 : decode cX8_init 21 = .ok (.newarray .int, 2) := by decide +kernel
theorem dX8_init_23 : decode cX8_init 23 = .ok (.putfield 18, 3) := by decide +kernel
theorem dX8_init_26 : decode cX8_init 26 = .ok (.aload_n 0, 1) := by decide +kernel
theorem dX8_init_27 : decode cX8_init 27 = .ok (.bipush 12, 2) := by decide +kernel
theorem dX8_init_29 : decode cX8_init 29 = .ok (.newarray .int, 2) := by decide +kernel
theorem dX8_init_31 : decode cX8_init 31 = .ok (.putfield 21, 3) := by decide +kernel
theorem dX8_init_34 : decode cX8_init 34 = .ok (.aload_n 0, 1) := by decide +kernel
theorem dX8_init_35 : decode cX8_init 35 = .ok (.bipush 16, 2) := by decide +kernel
theorem dX8_init_37 : decode cX8_init 37 = .ok (.newarray .int, 2) := by decide +kernel
theorem dX8_init_39 : decode cX8_init 39 = .ok (.putfield 24, 3) := by decide +kernel
theorem dX8_init_42 : decode cX8_init 42 = .ok (.aload_n 0, 1) := by decide +kernel
theorem dX8_init_43 : decode cX8_init 43 = .ok (.iconst 0, 1) := by decide +kernel
theorem dX8_init_44 : decode cX8_init 44 = .ok (.putfield 27, 3) := by decide +kernel
theorem dX8_init_47 : decode cX8_init 47 = .ok (.aload_n 0, 1) := by decide +kernel
theorem dX8_init_48 : decode cX8_init 48 = .ok (.iconst 1, 1) := by decide +kernel
theorem dX8_init_49 : decode cX8_init 49 = .ok (.putfield 31, 3) := by decide +kernel
theorem dX8_init_52 : decode cX8_init 52 = .ok (.aload_n 0, 1) := by decide +kernel
theorem dX8_init_53 : decode cX8_init 53 = .ok (.aload_n 1, 1) := by decide +kernel
theorem dX8_init_54 : decode cX8_init 54 = .ok (.putfield 34, 3) := by decide +kernel
theorem dX8_init_57 : decode cX8_init 57 = .ok (.aload_n 0, 1) := by decide +kernel
theorem dX8_init_58 : decode cX8_init 58 = .ok (.aload_n 2, 1) := by decide +kernel
theorem dX8_init_59 : decode cX8_init 59 = .ok (.putfield 38, 3) := by decide +kernel
theorem dX8_init_62 : decode cX8_init 62 = .ok (.return_, 1) := by decide +kernel
theorem dX8_place_0 : decode cX8_place 0 = .ok (.aload_n 0, 1) := by decide +kernel
theorem dX8_place_1 : decode cX8_place 1 = .ok (.getfield 9, 3) := by decide +kernel
theorem dX8_place_4 : decode cX8_place 4 = .ok (.iload_n 1, 1) := by decide +kernel
theorem dX8_place_5 : decode cX8_place 5 = .ok (.iload_n 2, 1) := by decide +kernel
theorem dX8_place_6 : decode cX8_place 6 = .ok (.iastore, 1) := by decide +kernel
theorem dX8_place_7 : decode cX8_place 7 = .ok (.aload_n 0, 1) := by decide +kernel
theorem dX8_place_8 : decode cX8_place 8 = .ok (.getfield 38, 3) := by decide +kernel
theorem dX8_place_11 : decode cX8_place 11 = .ok (.iload_n 2, 1) := by decide +kernel
theorem dX8_place_12 : decode cX8_place 12 = .ok (.aload_n 0, 1) := by decide +kernel
theorem dX8_place_13 : decode cX8_place 13 = .ok (.getfield 18, 3) := by decide +kernel
theorem dX8_place_16 : decode cX8_place 16 = .ok (.bipush 12, 2) := by decide +kernel
theorem dX8_place_18 : decode cX8_place 18 = .ok (.iload_n 1, 1) := by decide +kernel
theorem dX8_place_19 : decode cX8_place 19 = .ok (.imul, 1) := by decide +kernel
theorem dX8_place_20 : decode cX8_place 20 = .ok (.invokevirtual 42, 3) := by decide +kernel
theorem dX8_place_23 : decode cX8_place 23 = .ok (.return_, 1) := by decide +kernel
theorem dX8_goRound_0 : decode cX8_goRound 0 = .ok (.aload_n 0, 1) := by decide +kernel
theorem dX8_goRound_1 : decode cX8_goRound 1 = .ok (.invokevirtual 47, 3) := by decide +kernel
theorem dX8_goRound_4 : decode cX8_goRound 4 = .ok (.aload_n 0, 1) := by decide +kernel
theorem dX8_goRound_5 : decode cX8_goRound 5 = .ok (.invokevirtual 50, 3) := by decide +kernel
theorem dX8_goRound_8 : decode cX8_goRound 8 = .ok (.iconst 0, 1) := by decide +kernel
theorem dX8_goRound_9 : decode cX8_goRound 9 = .ok (.istore_n 1, 1) := by decide +kernel
theorem dX8_goRound_10 : decode cX8_goRound 10 = .ok (.iload_n 1, 1) := by decide +kernel
theorem dX8_goRound_11 : decode cX8_goRound 11 = .ok (.aload_n 0, 1) := by decide +kernel
theorem dX8_goRound_12 : decode cX8_goRound 12 = .ok (.getfield 34, 3) := by decide +kernel
theorem dX8_goRound_15 : decode cX8_goRound 15 = .ok (.getfield 53, 3) := by decide +kernel
theorem dX8_goRound_18 : decode cX8_goRound 18 = .ok (.if_icmp .ge 25, 3) := by decide +kernel
theorem dX8_goRound_21 : decode cX8_goRound 21 = .ok (.aload_n 0, 1) := by decide +kernel
theorem dX8_goRound_22 : decode cX8_goRound 22 = .ok (.getfield 21, 3) := by decide +kernel
theorem dX8_goRound_25 : decode cX8_goRound 25 = .ok (.iload_n 1, 1) := by decide +kernel
theorem dX8_goRound_26 : decode cX8_goRound 26 = .ok (.aload_n 0, 1) := by decide +kernel
theorem dX8_goRound_27 : decode cX8_goRound 27 = .ok (.iload_n 1, 1) := by decide +kernel
theorem dX8_goRound_28 : decode cX8_goRound 28 = .ok (.invokevirtual 58, 3) := by decide +kernel
theorem dX8_goRound_31 : decode cX8_goRound 31 = .ok (.iastore, 1) := by decide +kernel
theorem dX8_goRound_32 : decode cX8_goRound 32 = .ok (.aload_n 0, 1) := by decide +kernel
theorem dX8_goRound_33 : decode cX8_goRound 33 = .ok (.iload_n 1, 1) := by decide +kernel
theorem dX8_goRound_34 : decode cX8_goRound 34 = .ok (.invokevirtual 62, 3) := by decide +kernel
theorem dX8_goRound_37 : decode cX8_goRound 37 = .ok (.iinc 1 1, 3) := by decide +kernel
theorem dX8_goRound_40 : decode cX8_goRound 40 = .ok (.goto (-30), 3) := by decide +kernel
theorem dX8_goRound_43 : decode cX8_goRound 43 = .ok (.iconst 0, 1) := by decide +kernel
theorem dX8_goRound_44 : decode cX8_goRound 44 = .ok (.istore_n 1, 1) := by decide +kernel
theorem dX8_goRound_45 : decode cX8_goRound 45 = .ok (.iload_n 1, 1) := by decide +kernel
theorem dX8_goRound_46 : decode cX8_goRound 46 = .ok (.aload_n 0, 1) := by decide +kernel
theorem dX8_goRound_47 : decode cX8_goRound 47 = .ok (.getfield 34, 3) := by decide +kernel
theorem dX8_goRound_50 : decode cX8_goRound 50 = .ok (.getfield 66, 3) := by decide +kernel
theorem dX8_goRound_53 : decode cX8_goRound 53 = .ok (.if_icmp .ge 38, 3) := by decide +kernel
theorem dX8_goRound_56 : decode cX8_goRound 56 = .ok (.aload_n 0, 1) := by decide +kernel
theorem dX8_goRound_57 : decode cX8_goRound 57 = .ok (.getfield 34, 3) := by decide +kernel
theorem dX8_goRound_60 : decode cX8_goRound 60 = .ok (.getfield 69, 3) := by decide +kernel
theorem dX8_goRound_63 : decode cX8_goRound 63 = .ok (.iload_n 1, 1) := by decide +kernel
theorem dX8_goRound_64 : decode cX8_goRound 64 = .ok (.iaload, 1) := by decide +kernel
theorem dX8_goRound_65 : decode cX8_goRound 65 = .ok (.ifCond .le 20, 3) := by decide +kernel
theorem dX8_goRound_68 : decode cX8_goRound 68 = .ok (.aload_n 0, 1) := by decide +kernel
theorem dX8_goRound_69 : decode cX8_goRound 69 = .ok (.getfield 38, 3) := by decide +kernel
theorem dX8_goRound_72 : decode cX8_goRound 72 = .ok (.getfield 72, 3) := by decide +kernel
theorem dX8_goRound_75 : decode cX8_goRound 75 = .ok (.iload_n 1, 1) := by decide +kernel
theorem dX8_goRound_76 : decode cX8_goRound 76 = .ok (.baload, 1) := by decide +kernel
theorem dX8_goRound_77 : decode cX8_goRound 77 = .ok (.ifCond .ne 8, 3) := by decide +kernel
theorem dX8_goRound_80 : decode cX8_goRound 80 = .ok (.aload_n 0, 1) := by decide +kernel
theorem dX8_goRound_81 : decode cX8_goRound 81 = .ok (.iload_n 1, 1) := by decide +kernel
theorem dX8_goRound_82 : decode cX8_goRound 82 = .ok (.invokevirtual 76, 3) := by decide +kernel
theorem dX8_goRound_85 : decode cX8_goRound 85 = .ok (.iinc 1 1, 3) := by decide +kernel
theorem dX8_goRound_88 : decode cX8_goRound 88 = .ok (.goto (-43), 3) := by decide +kernel
theorem dX8_goRound_91 : decode cX8_goRound 91 = .ok (.aload_n 0, 1) := by decide +kernel
theorem dX8_goRound_92 : decode cX8_goRound 92 = .ok (.invokevirtual 79, 3) := by decide +kernel
theorem dX8_goRound_95 : decode cX8_goRound 95 = .ok (.return_, 1) := by decide +kernel
theorem dX8_stepsTo_0 : decode cX8_stepsTo 0 = .ok (.bipush 12, 2) := by decide +kernel
theorem dX8_stepsTo_2 : decode cX8_stepsTo 2 = .ok (.iload_n 1, 1) := by decide +kernel
theorem dX8_stepsTo_3 : decode cX8_stepsTo 3 = .ok (.imul, 1) := by decide +kernel
theorem dX8_stepsTo_4 : decode cX8_stepsTo 4 = .ok (.istore_n 3, 1) := by decide +kernel
theorem dX8_stepsTo_5 : decode cX8_stepsTo 5 = .ok (.iload_n 2, 1) := by decide +kernel
theorem dX8_stepsTo_6 : decode cX8_stepsTo 6 = .ok (.bipush 100, 2) := by decide +kernel
theorem dX8_stepsTo_8 : decode cX8_stepsTo 8 = .ok (.if_icmp .ge 12, 3) := by decide +kernel
theorem dX8_stepsTo_11 : decode cX8_stepsTo 11 = .ok (.aload_n 0, 1) := by decide +kernel
theorem dX8_stepsTo_12 : decode cX8_stepsTo 12 = .ok (.getfield 18, 3) := by decide +kernel
theorem dX8_stepsTo_15 : decode cX8_stepsTo 15 = .ok (.iload_n 3, 1) := by decide +kernel
theorem dX8_stepsTo_16 : decode cX8_stepsTo 16 = .ok (.iload_n 2, 1) := by decide +kernel
theorem dX8_stepsTo_17 : decode cX8_stepsTo 17 = .ok (.iadd, 1) := by decide +kernel
theorem dX8_stepsTo_18 : decode cX8_stepsTo 18 = .ok (.iaload, 1) := by decide +kernel
theorem dX8_stepsTo_19 : decode cX8_stepsTo 19 = .ok (.ireturn, 1) := by decide +kernel
theorem dX8_stepsTo_20 : decode cX8_stepsTo 20 = .ok (.iload_n 2, 1) := by decide +kernel
theorem dX8_stepsTo_21 : decode cX8_stepsTo 21 = .ok (.invokestatic 82, 3) := by decide +kernel
theorem dX8_stepsTo_24 : decode cX8_stepsTo 24 = .ok (.istore 4, 2) := by decide +kernel
theorem dX8_stepsTo_26 : decode cX8_stepsTo 26 = .ok (.iload_n 2, 1) := by decide +kernel
theorem dX8_stepsTo_27 : decode cX8_stepsTo 27 = .ok (.invokestatic 85, 3) := by decide +kernel
theorem dX8_stepsTo_30 : decode cX8_stepsTo 30 = .ok (.istore 5, 2) := by decide +kernel
theorem dX8_stepsTo_32 : decode cX8_stepsTo 32 = .ok (.iload 5, 2) := by decide +kernel
theorem dX8_stepsTo_34 : decode cX8_stepsTo 34 = .ok (.aload_n 0, 1) := by decide +kernel
theorem dX8_stepsTo_35 : decode cX8_stepsTo 35 = .ok (.getfield 18, 3) := by decide +kernel
theorem dX8_stepsTo_38 : decode cX8_stepsTo 38 = .ok (.iload_n 3, 1) := by decide +kernel
theorem dX8_stepsTo_39 : decode cX8_stepsTo 39 = .ok (.aload_n 0, 1) := by decide +kernel
theorem dX8_stepsTo_40 : decode cX8_stepsTo 40 = .ok (.getfield 34, 3) := by decide +kernel
theorem dX8_stepsTo_43 : decode cX8_stepsTo 43 = .ok (.getfield 88, 3) := by decide +kernel
theorem dX8_stepsTo_46 : decode cX8_stepsTo 46 = .ok (.iload 4, 2) := by decide +kernel
theorem dX8_stepsTo_48 : decode cX8_stepsTo 48 = .ok (.iaload, 1) := by decide +kernel
theorem dX8_stepsTo_49 : decode cX8_stepsTo 49 = .ok (.iadd, 1) := by decide +kernel
theorem dX8_stepsTo_50 : decode cX8_stepsTo 50 = .ok (.iaload, 1) := by decide +kernel
theorem dX8_stepsTo_51 : decode cX8_stepsTo 51 = .ok (.iadd, 1) := by decide +kernel
theorem dX8_stepsTo_52 : decode cX8_stepsTo 52 = .ok (.aload_n 0, 1) := by decide +kernel
theorem dX8_stepsTo_53 : decode cX8_stepsTo 53 = .ok (.getfield 34, 3) := by decide +kernel
theorem dX8_stepsTo_56 : decode cX8_stepsTo 56 = .ok (.getfield 91, 3) := by decide +kernel
theorem dX8_stepsTo_59 : decode cX8_stepsTo 59 = .ok (.iload 4, 2) := by decide +kernel
theorem dX8_stepsTo_61 : decode cX8_stepsTo 61 = .ok (.iaload, 1) := by decide +kernel
theorem dX8_stepsTo_62 : decode cX8_stepsTo 62 = .ok (.iload 5, 2) := by decide +kernel
theorem dX8_stepsTo_64 : decode cX8_stepsTo 64 = .ok (.isub, 1) := by decide +kernel
theorem dX8_stepsTo_65 : decode cX8_stepsTo 65 = .ok (.aload_n 0, 1) := by decide +kernel
theorem dX8_stepsTo_66 : decode cX8_stepsTo 66 = .ok (.getfield 18, 3) := by decide +kernel
theorem dX8_stepsTo_69 : decode cX8_stepsTo 69 = .ok (.iload_n 3, 1) := by decide +kernel
theorem dX8_stepsTo_70 : decode cX8_stepsTo 70 = .ok (.aload_n 0, 1) := by decide +kernel
theorem dX8_stepsTo_71 : decode cX8_stepsTo 71 = .ok (.getfield 34, 3) := by decide +kernel
theorem dX8_stepsTo_74 : decode cX8_stepsTo 74 = .ok (.getfield 94, 3) := by decide +kernel
theorem dX8_stepsTo_77 : decode cX8_stepsTo 77 = .ok (.iload 4, 2) := by decide +kernel
theorem dX8_stepsTo_79 : decode cX8_stepsTo 79 = .ok (.iaload, 1) := by decide +kernel
theorem dX8_stepsTo_80 : decode cX8_stepsTo 80 = .ok (.iadd, 1) := by decide +kernel
theorem dX8_stepsTo_81 : decode cX8_stepsTo 81 = .ok (.iaload, 1) := by decide +kernel
theorem dX8_stepsTo_82 : decode cX8_stepsTo 82 = .ok (.iadd, 1) := by decide +kernel
theorem dX8_stepsTo_83 : decode cX8_stepsTo 83 = .ok (.invokestatic 97, 3) := by decide +kernel
theorem dX8_stepsTo_86 : decode cX8_stepsTo 86 = .ok (.istore 6, 2) := by decide +kernel
theorem dX8_stepsTo_88 : decode cX8_stepsTo 88 = .ok (.aload_n 0, 1) := by decide +kernel
theorem dX8_stepsTo_89 : decode cX8_stepsTo 89 = .ok (.getfield 9, 3) := by decide +kernel
theorem dX8_stepsTo_92 : decode cX8_stepsTo 92 = .ok (.iload_n 1, 1) := by decide +kernel
theorem dX8_stepsTo_93 : decode cX8_stepsTo 93 = .ok (.iaload, 1) := by decide +kernel
theorem dX8_stepsTo_94 : decode cX8_stepsTo 94 = .ok (.bipush 100, 2) := by decide +kernel
theorem dX8_stepsTo_96 : decode cX8_stepsTo 96 = .ok (.if_icmp .lt 21, 3) := by decide +kernel
theorem dX8_stepsTo_99 : decode cX8_stepsTo 99 = .ok (.aload_n 0, 1) := by decide +kernel
theorem dX8_stepsTo_100 : decode cX8_stepsTo 100 = .ok (.getfield 9, 3) := by decide +kernel
theorem dX8_stepsTo_103 : decode cX8_stepsTo 103 = .ok (.iload_n 1, 1) := by decide +kernel
theorem dX8_stepsTo_104 : decode cX8_stepsTo 104 = .ok (.iaload, 1) := by decide +kernel
theorem dX8_stepsTo_105 : decode cX8_stepsTo 105 = .ok (.invokestatic 82, 3) := by decide +kernel
theorem dX8_stepsTo_108 : decode cX8_stepsTo 108 = .ok (.iload 4, 2) := by decide +kernel
theorem dX8_stepsTo_110 : decode cX8_stepsTo 110 = .ok (.if_icmp .ne 7, 3) := by decide +kernel
theorem dX8_stepsTo_113 : decode cX8_stepsTo 113 = .ok (.iconst 1, 1) := by decide +kernel
theorem dX8_stepsTo_114 : decode cX8_stepsTo 114 = .ok (.goto 4, 3) := by decide +kernel
theorem dX8_stepsTo_117 : decode cX8_stepsTo 117 = .ok (.iconst 0, 1) := by decide +kernel
theorem dX8_stepsTo_118 : decode cX8_stepsTo 118 = .ok (.istore 7, 2) := by decide +kernel
theorem dX8_stepsTo_120 : decode cX8_stepsTo 120 = .ok (.iload 7, 2) := by decide +kernel
theorem dX8_stepsTo_122 : decode cX8_stepsTo 122 = .ok (.ifCond .eq 26, 3) := by decide +kernel
theorem dX8_stepsTo_125 : decode cX8_stepsTo 125 = .ok (.iload 6, 2) := by decide +kernel
theorem dX8_stepsTo_127 : decode cX8_stepsTo 127 = .ok (.iload 5, 2) := by decide +kernel
theorem dX8_stepsTo_129 : decode cX8_stepsTo 129 = .ok (.aload_n 0, 1) := by decide +kernel
theorem dX8_stepsTo_130 : decode cX8_stepsTo 130 = .ok (.getfield 9, 3) := by decide +kernel
theorem dX8_stepsTo_133 : decode cX8_stepsTo 133 = .ok (.iload_n 1, 1) := by decide +kernel
theorem dX8_stepsTo_134 : decode cX8_stepsTo 134 = .ok (.iaload, 1) := by decide +kernel
theorem dX8_stepsTo_135 : decode cX8_stepsTo 135 = .ok (.invokestatic 85, 3) := by decide +kernel
theorem dX8_stepsTo_138 : decode cX8_stepsTo 138 = .ok (.isub, 1) := by decide +kernel
theorem dX8_stepsTo_139 : decode cX8_stepsTo 139 = .ok (.invokestatic 103, 3) := by decide +kernel
theorem dX8_stepsTo_142 : decode cX8_stepsTo 142 = .ok (.invokestatic 97, 3) := by decide +kernel
theorem dX8_stepsTo_145 : decode cX8_stepsTo 145 = .ok (.goto 5, 3) := by decide +kernel
theorem dX8_stepsTo_148 : decode cX8_stepsTo 148 = .ok (.iload 6, 2) := by decide +kernel
theorem dX8_stepsTo_150 : decode cX8_stepsTo 150 = .ok (.ireturn, 1) := by decide +kernel
theorem dX8_markStreets_0 : decode cX8_markStreets 0 = .ok (.aload_n 0, 1) := by decide +kernel
theorem dX8_markStreets_1 : decode cX8_markStreets 1 = .ok (.getfield 24, 3) := by decide +kernel
theorem dX8_markStreets_4 : decode cX8_markStreets 4 = .ok (.iconst 0, 1) := by decide +kernel
theorem dX8_markStreets_5 : decode cX8_markStreets 5 = .ok (.invokestatic 106, 3) := by decide +kernel
theorem dX8_markStreets_8 : decode cX8_markStreets 8 = .ok (.iconst 0, 1) := by decide +kernel
theorem dX8_markStreets_9 : decode cX8_markStreets 9 = .ok (.istore_n 1, 1) := by decide +kernel
theorem dX8_markStreets_10 : decode cX8_markStreets 10 = .ok (.iload_n 1, 1) := by decide +kernel
theorem dX8_markStreets_11 : decode cX8_markStreets 11 = .ok (.aload_n 0, 1) := by decide +kernel
theorem dX8_markStreets_12 : decode cX8_markStreets 12 = .ok (.getfield 27, 3) := by decide +kernel
theorem dX8_markStreets_15 : decode cX8_markStreets 15 = .ok (.if_icmp .ge 48, 3) := by decide +kernel
theorem dX8_markStreets_18 : decode cX8_markStreets 18 = .ok (.aload_n 0, 1) := by decide +kernel
theorem dX8_markStreets_19 : decode cX8_markStreets 19 = .ok (.getfield 9, 3) := by decide +kernel
theorem dX8_markStreets_22 : decode cX8_markStreets 22 = .ok (.iload_n 1, 1) := by decide +kernel
theorem dX8_markStreets_23 : decode cX8_markStreets 23 = .ok (.iaload, 1) := by decide +kernel
theorem dX8_markStreets_24 : decode cX8_markStreets 24 = .ok (.bipush 100, 2) := by decide +kernel
theorem dX8_markStreets_26 : decode cX8_markStreets 26 = .ok (.if_icmp .lt 31, 3) := by decide +kernel
theorem dX8_markStreets_29 : decode cX8_markStreets 29 = .ok (.aload_n 0, 1) := by decide +kernel
theorem dX8_markStreets_30 : decode cX8_markStreets 30 = .ok (.getfield 24, 3) := by decide +kernel
theorem dX8_markStreets_33 : decode cX8_markStreets 33 = .ok (.aload_n 0, 1) := by decide +kernel
theorem dX8_markStreets_34 : decode cX8_markStreets 34 = .ok (.getfield 9, 3) := by decide +kernel
theorem dX8_markStreets_37 : decode cX8_markStreets 37 = .ok (.iload_n 1, 1) := by decide +kernel
theorem dX8_markStreets_38 : decode cX8_markStreets 38 = .ok (.iaload, 1) := by decide +kernel
theorem dX8_markStreets_39 : decode cX8_markStreets 39 = .ok (.invokestatic 82, 3) := by decide +kernel
theorem dX8_markStreets_42 : decode cX8_markStreets 42 = .ok (.dup2, 1) := by decide +kernel
theorem dX8_markStreets_43 : decode cX8_markStreets 43 = .ok (.iaload, 1) := by decide +kernel
theorem dX8_markStreets_44 : decode cX8_markStreets 44 = .ok (.iconst 1, 1) := by decide +kernel
theorem dX8_markStreets_45 : decode cX8_markStreets 45 = .ok (.aload_n 0, 1) := by decide +kernel
theorem dX8_markStreets_46 : decode cX8_markStreets 46 = .ok (.getfield 9, 3) := by decide +kernel
theorem dX8_markStreets_49 : decode cX8_markStreets 49 = .ok (.iload_n 1, 1) := by decide +kernel
theorem dX8_markStreets_50 : decode cX8_markStreets 50 = .ok (.iaload, 1) := by decide +kernel
theorem dX8_markStreets_51 : decode cX8_markStreets 51 = .ok (.invokestatic 85, 3) := by decide +kernel
theorem dX8_markStreets_54 : decode cX8_markStreets 54 = .ok (.ishl, 1) := by decide +kernel
theorem dX8_markStreets_55 : decode cX8_markStreets 55 = .ok (.ior, 1) := by decide +kernel
theorem dX8_markStreets_56 : decode cX8_markStreets 56 = .ok (.iastore, 1) := by decide +kernel
theorem dX8_markStreets_57 : decode cX8_markStreets 57 = .ok (.iinc 1 1, 3) := by decide +kernel
theorem dX8_markStreets_60 : decode cX8_markStreets 60 = .ok (.goto (-50), 3) := by decide +kernel
theorem dX8_markStreets_63 : decode cX8_markStreets 63 = .ok (.return_, 1) := by decide +kernel
theorem dX8_cheapest_0 : decode cX8_cheapest 0 = .ok (.ldc 112, 2) := by decide +kernel
theorem dX8_cheapest_2 : decode cX8_cheapest 2 = .ok (.istore_n 2, 1) := by decide +kernel
theorem dX8_cheapest_3 : decode cX8_cheapest 3 = .ok (.iconst 0, 1) := by decide +kernel
theorem dX8_cheapest_4 : decode cX8_cheapest 4 = .ok (.istore_n 3, 1) := by decide +kernel
theorem dX8_cheapest_5 : decode cX8_cheapest 5 = .ok (.iload_n 3, 1) := by decide +kernel
theorem dX8_cheapest_6 : decode cX8_cheapest 6 = .ok (.aload_n 0, 1) := by decide +kernel
theorem dX8_cheapest_7 : decode cX8_cheapest 7 = .ok (.getfield 27, 3) := by decide +kernel
theorem dX8_cheapest_10 : decode cX8_cheapest 10 = .ok (.if_icmp .ge 44, 3) := by decide +kernel
theorem dX8_cheapest_13 : decode cX8_cheapest 13 = .ok (.iload_n 2, 1) := by decide +kernel
theorem dX8_cheapest_14 : decode cX8_cheapest 14 = .ok (.bipush 16, 2) := by decide +kernel
theorem dX8_cheapest_16 : decode cX8_cheapest 16 = .ok (.aload_n 0, 1) := by decide +kernel
theorem dX8_cheapest_17 : decode cX8_cheapest 17 = .ok (.getfield 15, 3) := by decide +kernel
theorem dX8_cheapest_20 : decode cX8_cheapest 20 = .ok (.iload_n 3, 1) := by decide +kernel
theorem dX8_cheapest_21 : decode cX8_cheapest 21 = .ok (.iaload, 1) := by decide +kernel
theorem dX8_cheapest_22 : decode cX8_cheapest 22 = .ok (.aload_n 0, 1) := by decide +kernel
theorem dX8_cheapest_23 : decode cX8_cheapest 23 = .ok (.getfield 31, 3) := by decide +kernel
theorem dX8_cheapest_26 : decode cX8_cheapest 26 = .ok (.aload_n 0, 1) := by decide +kernel
theorem dX8_cheapest_27 : decode cX8_cheapest 27 = .ok (.getfield 18, 3) := by decide +kernel
theorem dX8_cheapest_30 : decode cX8_cheapest 30 = .ok (.bipush 12, 2) := by decide +kernel
theorem dX8_cheapest_32 : decode cX8_cheapest 32 = .ok (.iload_n 3, 1) := by decide +kernel
theorem dX8_cheapest_33 : decode cX8_cheapest 33 = .ok (.imul, 1) := by decide +kernel
theorem dX8_cheapest_34 : decode cX8_cheapest 34 = .ok (.iload_n 1, 1) := by decide +kernel
theorem dX8_cheapest_35 : decode cX8_cheapest 35 = .ok (.iadd, 1) := by decide +kernel
theorem dX8_cheapest_36 : decode cX8_cheapest 36 = .ok (.iaload, 1) := by decide +kernel
theorem dX8_cheapest_37 : decode cX8_cheapest 37 = .ok (.imul, 1) := by decide +kernel
theorem dX8_cheapest_38 : decode cX8_cheapest 38 = .ok (.iadd, 1) := by decide +kernel
theorem dX8_cheapest_39 : decode cX8_cheapest 39 = .ok (.imul, 1) := by decide +kernel
theorem dX8_cheapest_40 : decode cX8_cheapest 40 = .ok (.iconst 1, 1) := by decide +kernel
theorem dX8_cheapest_41 : decode cX8_cheapest 41 = .ok (.iload_n 3, 1) := by decide +kernel
theorem dX8_cheapest_42 : decode cX8_cheapest 42 = .ok (.ishl, 1) := by decide +kernel
theorem dX8_cheapest_43 : decode cX8_cheapest 43 = .ok (.iadd, 1) := by decide +kernel
theorem dX8_cheapest_44 : decode cX8_cheapest 44 = .ok (.invokestatic 113, 3) := by decide +kernel
theorem dX8_cheapest_47 : decode cX8_cheapest 47 = .ok (.istore_n 2, 1) := by decide +kernel
theorem dX8_cheapest_48 : decode cX8_cheapest 48 = .ok (.iinc 3 1, 3) := by decide +kernel
theorem dX8_cheapest_51 : decode cX8_cheapest 51 = .ok (.goto (-46), 3) := by decide +kernel
theorem dX8_cheapest_54 : decode cX8_cheapest 54 = .ok (.iload_n 2, 1) := by decide +kernel
theorem dX8_cheapest_55 : decode cX8_cheapest 55 = .ok (.ireturn, 1) := by decide +kernel
theorem dX8_meetStreet_0 : decode cX8_meetStreet 0 = .ok (.aload_n 0, 1) := by decide +kernel
theorem dX8_meetStreet_1 : decode cX8_meetStreet 1 = .ok (.getfield 34, 3) := by decide +kernel
theorem dX8_meetStreet_4 : decode cX8_meetStreet 4 = .ok (.getfield 91, 3) := by decide +kernel
theorem dX8_meetStreet_7 : decode cX8_meetStreet 7 = .ok (.iload_n 1, 1) := by decide +kernel
theorem dX8_meetStreet_8 : decode cX8_meetStreet 8 = .ok (.iaload, 1) := by decide +kernel
theorem dX8_meetStreet_9 : decode cX8_meetStreet 9 = .ok (.istore_n 2, 1) := by decide +kernel
theorem dX8_meetStreet_10 : decode cX8_meetStreet 10 = .ok (.aload_n 0, 1) := by decide +kernel
theorem dX8_meetStreet_11 : decode cX8_meetStreet 11 = .ok (.getfield 21, 3) := by decide +kernel
theorem dX8_meetStreet_14 : decode cX8_meetStreet 14 = .ok (.aload_n 0, 1) := by decide +kernel
theorem dX8_meetStreet_15 : decode cX8_meetStreet 15 = .ok (.getfield 34, 3) := by decide +kernel
theorem dX8_meetStreet_18 : decode cX8_meetStreet 18 = .ok (.getfield 88, 3) := by decide +kernel
theorem dX8_meetStreet_21 : decode cX8_meetStreet 21 = .ok (.iload_n 1, 1) := by decide +kernel
theorem dX8_meetStreet_22 : decode cX8_meetStreet 22 = .ok (.iaload, 1) := by decide +kernel
theorem dX8_meetStreet_23 : decode cX8_meetStreet 23 = .ok (.iaload, 1) := by decide +kernel
theorem dX8_meetStreet_24 : decode cX8_meetStreet 24 = .ok (.istore_n 3, 1) := by decide +kernel
theorem dX8_meetStreet_25 : decode cX8_meetStreet 25 = .ok (.aload_n 0, 1) := by decide +kernel
theorem dX8_meetStreet_26 : decode cX8_meetStreet 26 = .ok (.getfield 21, 3) := by decide +kernel
theorem dX8_meetStreet_29 : decode cX8_meetStreet 29 = .ok (.aload_n 0, 1) := by decide +kernel
theorem dX8_meetStreet_30 : decode cX8_meetStreet 30 = .ok (.getfield 34, 3) := by decide +kernel
theorem dX8_meetStreet_33 : decode cX8_meetStreet 33 = .ok (.getfield 94, 3) := by decide +kernel
theorem dX8_meetStreet_36 : decode cX8_meetStreet 36 = .ok (.iload_n 1, 1) := by decide +kernel
theorem dX8_meetStreet_37 : decode cX8_meetStreet 37 = .ok (.iaload, 1) := by decide +kernel
theorem dX8_meetStreet_38 : decode cX8_meetStreet 38 = .ok (.iaload, 1) := by decide +kernel
theorem dX8_meetStreet_39 : decode cX8_meetStreet 39 = .ok (.istore 4, 2) := by decide +kernel
theorem dX8_meetStreet_41 : decode cX8_meetStreet 41 = .ok (.iconst 0, 1) := by decide +kernel
theorem dX8_meetStreet_42 : decode cX8_meetStreet 42 = .ok (.istore 5, 2) := by decide +kernel
theorem dX8_meetStreet_44 : decode cX8_meetStreet 44 = .ok (.iconst 1, 1) := by decide +kernel
theorem dX8_meetStreet_45 : decode cX8_meetStreet 45 = .ok (.istore 6, 2) := by decide +kernel
theorem dX8_meetStreet_47 : decode cX8_meetStreet 47 = .ok (.iload 6, 2) := by decide +kernel
theorem dX8_meetStreet_49 : decode cX8_meetStreet 49 = .ok (.iload_n 2, 1) := by decide +kernel
theorem dX8_meetStreet_50 : decode cX8_meetStreet 50 = .ok (.if_icmp .ge 73, 3) := by decide +kernel
theorem dX8_meetStreet_53 : decode cX8_meetStreet 53 = .ok (.aload_n 0, 1) := by decide +kernel
theorem dX8_meetStreet_54 : decode cX8_meetStreet 54 = .ok (.getfield 24, 3) := by decide +kernel
theorem dX8_meetStreet_57 : decode cX8_meetStreet 57 = .ok (.iload_n 1, 1) := by decide +kernel
theorem dX8_meetStreet_58 : decode cX8_meetStreet 58 = .ok (.iaload, 1) := by decide +kernel
theorem dX8_meetStreet_59 : decode cX8_meetStreet 59 = .ok (.iload 6, 2) := by decide +kernel
theorem dX8_meetStreet_61 : decode cX8_meetStreet 61 = .ok (.ishr, 1) := by decide +kernel
theorem dX8_meetStreet_62 : decode cX8_meetStreet 62 = .ok (.ifCond .eq 61, 3) := by decide +kernel
theorem dX8_meetStreet_65 : decode cX8_meetStreet 65 = .ok (.aload_n 0, 1) := by decide +kernel
theorem dX8_meetStreet_66 : decode cX8_meetStreet 66 = .ok (.getfield 24, 3) := by decide +kernel
theorem dX8_meetStreet_69 : decode cX8_meetStreet 69 = .ok (.iload_n 1, 1) := by decide +kernel
theorem dX8_meetStreet_70 : decode cX8_meetStreet 70 = .ok (.iaload, 1) := by decide +kernel
theorem dX8_meetStreet_71 : decode cX8_meetStreet 71 = .ok (.iload 6, 2) := by decide +kernel
theorem dX8_meetStreet_73 : decode cX8_meetStreet 73 = .ok (.ishr, 1) := by decide +kernel
theorem dX8_meetStreet_74 : decode cX8_meetStreet 74 = .ok (.iconst 1, 1) := by decide +kernel
theorem dX8_meetStreet_75 : decode cX8_meetStreet 75 = .ok (.iand, 1) := by decide +kernel
theorem dX8_meetStreet_76 : decode cX8_meetStreet 76 = .ok (.iconst 1, 1) := by decide +kernel
theorem dX8_meetStreet_77 : decode cX8_meetStreet 77 = .ok (.if_icmp .ne 40, 3) := by decide +kernel
theorem dX8_meetStreet_80 : decode cX8_meetStreet 80 = .ok (.aload_n 0, 1) := by decide +kernel
theorem dX8_meetStreet_81 : decode cX8_meetStreet 81 = .ok (.iload_n 1, 1) := by decide +kernel
theorem dX8_meetStreet_82 : decode cX8_meetStreet 82 = .ok (.iload 6, 2) := by decide +kernel
theorem dX8_meetStreet_84 : decode cX8_meetStreet 84 = .ok (.invokevirtual 116, 3) := by decide +kernel
theorem dX8_meetStreet_87 : decode cX8_meetStreet 87 = .ok (.istore 7, 2) := by decide +kernel
theorem dX8_meetStreet_89 : decode cX8_meetStreet 89 = .ok (.aload_n 0, 1) := by decide +kernel
theorem dX8_meetStreet_90 : decode cX8_meetStreet 90 = .ok (.iload_n 3, 1) := by decide +kernel
theorem dX8_meetStreet_91 : decode cX8_meetStreet 91 = .ok (.iload 7, 2) := by decide +kernel
theorem dX8_meetStreet_93 : decode cX8_meetStreet 93 = .ok (.iload 6, 2) := by decide +kernel
theorem dX8_meetStreet_95 : decode cX8_meetStreet 95 = .ok (.iload 5, 2) := by decide +kernel
theorem dX8_meetStreet_97 : decode cX8_meetStreet 97 = .ok (.isub, 1) := by decide +kernel
theorem dX8_meetStreet_98 : decode cX8_meetStreet 98 = .ok (.aload_n 0, 1) := by decide +kernel
theorem dX8_meetStreet_99 : decode cX8_meetStreet 99 = .ok (.getfield 34, 3) := by decide +kernel
theorem dX8_meetStreet_102 : decode cX8_meetStreet 102 = .ok (.getfield 69, 3) := by decide +kernel
theorem dX8_meetStreet_105 : decode cX8_meetStreet 105 = .ok (.iload_n 1, 1) := by decide +kernel
theorem dX8_meetStreet_106 : decode cX8_meetStreet 106 = .ok (.iaload, 1) := by decide +kernel
theorem dX8_meetStreet_107 : decode cX8_meetStreet 107 = .ok (.invokevirtual 119, 3) := by decide +kernel
theorem dX8_meetStreet_110 : decode cX8_meetStreet 110 = .ok (.iload 7, 2) := by decide +kernel
theorem dX8_meetStreet_112 : decode cX8_meetStreet 112 = .ok (.istore_n 3, 1) := by decide +kernel
theorem dX8_meetStreet_113 : decode cX8_meetStreet 113 = .ok (.iload 6, 2) := by decide +kernel
theorem dX8_meetStreet_115 : decode cX8_meetStreet 115 = .ok (.istore 5, 2) := by decide +kernel
theorem dX8_meetStreet_117 : decode cX8_meetStreet 117 = .ok (.iinc 6 1, 3) := by decide +kernel
theorem dX8_meetStreet_120 : decode cX8_meetStreet 120 = .ok (.goto (-73), 3) := by decide +kernel
theorem dX8_meetStreet_123 : decode cX8_meetStreet 123 = .ok (.aload_n 0, 1) := by decide +kernel
theorem dX8_meetStreet_124 : decode cX8_meetStreet 124 = .ok (.iload_n 3, 1) := by decide +kernel
theorem dX8_meetStreet_125 : decode cX8_meetStreet 125 = .ok (.iload 4, 2) := by decide +kernel
theorem dX8_meetStreet_127 : decode cX8_meetStreet 127 = .ok (.iload_n 2, 1) := by decide +kernel
theorem dX8_meetStreet_128 : decode cX8_meetStreet 128 = .ok (.iload 5, 2) := by decide +kernel
theorem dX8_meetStreet_130 : decode cX8_meetStreet 130 = .ok (.isub, 1) := by decide +kernel
theorem dX8_meetStreet_131 : decode cX8_meetStreet 131 = .ok (.aload_n 0, 1) := by decide +kernel
theorem dX8_meetStreet_132 : decode cX8_meetStreet 132 = .ok (.getfield 34, 3) := by decide +kernel
theorem dX8_meetStreet_135 : decode cX8_meetStreet 135 = .ok (.getfield 69, 3) := by decide +kernel
theorem dX8_meetStreet_138 : decode cX8_meetStreet 138 = .ok (.iload_n 1, 1) := by decide +kernel
theorem dX8_meetStreet_139 : decode cX8_meetStreet 139 = .ok (.iaload, 1) := by decide +kernel
theorem dX8_meetStreet_140 : decode cX8_meetStreet 140 = .ok (.invokevirtual 119, 3) := by decide +kernel
theorem dX8_meetStreet_143 : decode cX8_meetStreet 143 = .ok (.return_, 1) := by decide +kernel
theorem dX8_cheapestOn_0 : decode cX8_cheapestOn 0 = .ok (.aload_n 0, 1) := by decide +kernel
theorem dX8_cheapestOn_1 : decode cX8_cheapestOn 1 = .ok (.getfield 21, 3) := by decide +kernel
theorem dX8_cheapestOn_4 : decode cX8_cheapestOn 4 = .ok (.aload_n 0, 1) := by decide +kernel
theorem dX8_cheapestOn_5 : decode cX8_cheapestOn 5 = .ok (.getfield 34, 3) := by decide +kernel
theorem dX8_cheapestOn_8 : decode cX8_cheapestOn 8 = .ok (.getfield 88, 3) := by decide +kernel
theorem dX8_cheapestOn_11 : decode cX8_cheapestOn 11 = .ok (.iload_n 1, 1) := by decide +kernel
theorem dX8_cheapestOn_12 : decode cX8_cheapestOn 12 = .ok (.iaload, 1) := by decide +kernel
theorem dX8_cheapestOn_13 : decode cX8_cheapestOn 13 = .ok (.iaload, 1) := by decide +kernel
theorem dX8_cheapestOn_14 : decode cX8_cheapestOn 14 = .ok (.bipush 16, 2) := by decide +kernel
theorem dX8_cheapestOn_16 : decode cX8_cheapestOn 16 = .ok (.aload_n 0, 1) := by decide +kernel
theorem dX8_cheapestOn_17 : decode cX8_cheapestOn 17 = .ok (.getfield 31, 3) := by decide +kernel
theorem dX8_cheapestOn_20 : decode cX8_cheapestOn 20 = .ok (.imul, 1) := by decide +kernel
theorem dX8_cheapestOn_21 : decode cX8_cheapestOn 21 = .ok (.iload_n 2, 1) := by decide +kernel
theorem dX8_cheapestOn_22 : decode cX8_cheapestOn 22 = .ok (.imul, 1) := by decide +kernel
theorem dX8_cheapestOn_23 : decode cX8_cheapestOn 23 = .ok (.iadd, 1) := by decide +kernel
theorem dX8_cheapestOn_24 : decode cX8_cheapestOn 24 = .ok (.istore_n 3, 1) := by decide +kernel
theorem dX8_cheapestOn_25 : decode cX8_cheapestOn 25 = .ok (.aload_n 0, 1) := by decide +kernel
theorem dX8_cheapestOn_26 : decode cX8_cheapestOn 26 = .ok (.getfield 21, 3) := by decide +kernel
theorem dX8_cheapestOn_29 : decode cX8_cheapestOn 29 = .ok (.aload_n 0, 1) := by decide +kernel
theorem dX8_cheapestOn_30 : decode cX8_cheapestOn 30 = .ok (.getfield 34, 3) := by decide +kernel
theorem dX8_cheapestOn_33 : decode cX8_cheapestOn 33 = .ok (.getfield 94, 3) := by decide +kernel
theorem dX8_cheapestOn_36 : decode cX8_cheapestOn 36 = .ok (.iload_n 1, 1) := by decide +kernel
theorem dX8_cheapestOn_37 : decode cX8_cheapestOn 37 = .ok (.iaload, 1) := by decide +kernel
theorem dX8_cheapestOn_38 : decode cX8_cheapestOn 38 = .ok (.iaload, 1) := by decide +kernel
theorem dX8_cheapestOn_39 : decode cX8_cheapestOn 39 = .ok (.bipush 16, 2) := by decide +kernel
theorem dX8_cheapestOn_41 : decode cX8_cheapestOn 41 = .ok (.aload_n 0, 1) := by decide +kernel
theorem dX8_cheapestOn_42 : decode cX8_cheapestOn 42 = .ok (.getfield 31, 3) := by decide +kernel
theorem dX8_cheapestOn_45 : decode cX8_cheapestOn 45 = .ok (.imul, 1) := by decide +kernel
theorem dX8_cheapestOn_46 : decode cX8_cheapestOn 46 = .ok (.aload_n 0, 1) := by decide +kernel
theorem dX8_cheapestOn_47 : decode cX8_cheapestOn 47 = .ok (.getfield 34, 3) := by decide +kernel
theorem dX8_cheapestOn_50 : decode cX8_cheapestOn 50 = .ok (.getfield 91, 3) := by decide +kernel
theorem dX8_cheapestOn_53 : decode cX8_cheapestOn 53 = .ok (.iload_n 1, 1) := by decide +kernel
theorem dX8_cheapestOn_54 : decode cX8_cheapestOn 54 = .ok (.iaload, 1) := by decide +kernel
theorem dX8_cheapestOn_55 : decode cX8_cheapestOn 55 = .ok (.iload_n 2, 1) := by decide +kernel
theorem dX8_cheapestOn_56 : decode cX8_cheapestOn 56 = .ok (.isub, 1) := by decide +kernel
theorem dX8_cheapestOn_57 : decode cX8_cheapestOn 57 = .ok (.imul, 1) := by decide +kernel
theorem dX8_cheapestOn_58 : decode cX8_cheapestOn 58 = .ok (.iadd, 1) := by decide +kernel
theorem dX8_cheapestOn_59 : decode cX8_cheapestOn 59 = .ok (.istore 4, 2) := by decide +kernel
theorem dX8_cheapestOn_61 : decode cX8_cheapestOn 61 = .ok (.iload_n 3, 1) := by decide +kernel
theorem dX8_cheapestOn_62 : decode cX8_cheapestOn 62 = .ok (.iload 4, 2) := by decide +kernel
theorem dX8_cheapestOn_64 : decode cX8_cheapestOn 64 = .ok (.invokestatic 113, 3) := by decide +kernel
theorem dX8_cheapestOn_67 : decode cX8_cheapestOn 67 = .ok (.istore 5, 2) := by decide +kernel
theorem dX8_cheapestOn_69 : decode cX8_cheapestOn 69 = .ok (.iconst 0, 1) := by decide +kernel
theorem dX8_cheapestOn_70 : decode cX8_cheapestOn 70 = .ok (.istore 6, 2) := by decide +kernel
theorem dX8_cheapestOn_72 : decode cX8_cheapestOn 72 = .ok (.iload 6, 2) := by decide +kernel
theorem dX8_cheapestOn_74 : decode cX8_cheapestOn 74 = .ok (.aload_n 0, 1) := by decide +kernel
theorem dX8_cheapestOn_75 : decode cX8_cheapestOn 75 = .ok (.getfield 27, 3) := by decide +kernel
theorem dX8_cheapestOn_78 : decode cX8_cheapestOn 78 = .ok (.if_icmp .ge 82, 3) := by decide +kernel
theorem dX8_cheapestOn_81 : decode cX8_cheapestOn 81 = .ok (.aload_n 0, 1) := by decide +kernel
theorem dX8_cheapestOn_82 : decode cX8_cheapestOn 82 = .ok (.getfield 9, 3) := by decide +kernel
theorem dX8_cheapestOn_85 : decode cX8_cheapestOn 85 = .ok (.iload 6, 2) := by decide +kernel
theorem dX8_cheapestOn_87 : decode cX8_cheapestOn 87 = .ok (.iaload, 1) := by decide +kernel
theorem dX8_cheapestOn_88 : decode cX8_cheapestOn 88 = .ok (.bipush 100, 2) := by decide +kernel
theorem dX8_cheapestOn_90 : decode cX8_cheapestOn 90 = .ok (.if_icmp .lt 64, 3) := by decide +kernel
theorem dX8_cheapestOn_93 : decode cX8_cheapestOn 93 = .ok (.aload_n 0, 1) := by decide +kernel
theorem dX8_cheapestOn_94 : decode cX8_cheapestOn 94 = .ok (.getfield 9, 3) := by decide +kernel
theorem dX8_cheapestOn_97 : decode cX8_cheapestOn 97 = .ok (.iload 6, 2) := by decide +kernel
theorem dX8_cheapestOn_99 : decode cX8_cheapestOn 99 = .ok (.iaload, 1) := by decide +kernel
theorem dX8_cheapestOn_100 : decode cX8_cheapestOn 100 = .ok (.invokestatic 82, 3) := by decide +kernel
theorem dX8_cheapestOn_103 : decode cX8_cheapestOn 103 = .ok (.iload_n 1, 1) := by decide +kernel
theorem dX8_cheapestOn_104 : decode cX8_cheapestOn 104 = .ok (.if_icmp .ne 50, 3) := by decide +kernel
theorem dX8_cheapestOn_107 : decode cX8_cheapestOn 107 = .ok (.iload_n 2, 1) := by decide +kernel
theorem dX8_cheapestOn_108 : decode cX8_cheapestOn 108 = .ok (.aload_n 0, 1) := by decide +kernel
theorem dX8_cheapestOn_109 : decode cX8_cheapestOn 109 = .ok (.getfield 9, 3) := by decide +kernel
theorem dX8_cheapestOn_112 : decode cX8_cheapestOn 112 = .ok (.iload 6, 2) := by decide +kernel
theorem dX8_cheapestOn_114 : decode cX8_cheapestOn 114 = .ok (.iaload, 1) := by decide +kernel
theorem dX8_cheapestOn_115 : decode cX8_cheapestOn 115 = .ok (.invokestatic 85, 3) := by decide +kernel
theorem dX8_cheapestOn_118 : decode cX8_cheapestOn 118 = .ok (.isub, 1) := by decide +kernel
theorem dX8_cheapestOn_119 : decode cX8_cheapestOn 119 = .ok (.invokestatic 103, 3) := by decide +kernel
theorem dX8_cheapestOn_122 : decode cX8_cheapestOn 122 = .ok (.istore 7, 2) := by decide +kernel
theorem dX8_cheapestOn_124 : decode cX8_cheapestOn 124 = .ok (.iload 5, 2) := by decide +kernel
theorem dX8_cheapestOn_126 : decode cX8_cheapestOn 126 = .ok (.bipush 16, 2) := by decide +kernel
theorem dX8_cheapestOn_128 : decode cX8_cheapestOn 128 = .ok (.aload_n 0, 1) := by decide +kernel
theorem dX8_cheapestOn_129 : decode cX8_cheapestOn 129 = .ok (.getfield 15, 3) := by decide +kernel
theorem dX8_cheapestOn_132 : decode cX8_cheapestOn 132 = .ok (.iload 6, 2) := by decide +kernel
theorem dX8_cheapestOn_134 : decode cX8_cheapestOn 134 = .ok (.iaload, 1) := by decide +kernel
theorem dX8_cheapestOn_135 : decode cX8_cheapestOn 135 = .ok (.aload_n 0, 1) := by decide +kernel
theorem dX8_cheapestOn_136 : decode cX8_cheapestOn 136 = .ok (.getfield 31, 3) := by decide +kernel
theorem dX8_cheapestOn_139 : decode cX8_cheapestOn 139 = .ok (.iload 7, 2) := by decide +kernel
theorem dX8_cheapestOn_141 : decode cX8_cheapestOn 141 = .ok (.imul, 1) := by decide +kernel
theorem dX8_cheapestOn_142 : decode cX8_cheapestOn 142 = .ok (.iadd, 1) := by decide +kernel
theorem dX8_cheapestOn_143 : decode cX8_cheapestOn 143 = .ok (.imul, 1) := by decide +kernel
theorem dX8_cheapestOn_144 : decode cX8_cheapestOn 144 = .ok (.iconst 1, 1) := by decide +kernel
theorem dX8_cheapestOn_145 : decode cX8_cheapestOn 145 = .ok (.iload 6, 2) := by decide +kernel
theorem dX8_cheapestOn_147 : decode cX8_cheapestOn 147 = .ok (.ishl, 1) := by decide +kernel
theorem dX8_cheapestOn_148 : decode cX8_cheapestOn 148 = .ok (.iadd, 1) := by decide +kernel
theorem dX8_cheapestOn_149 : decode cX8_cheapestOn 149 = .ok (.invokestatic 113, 3) := by decide +kernel
theorem dX8_cheapestOn_152 : decode cX8_cheapestOn 152 = .ok (.istore 5, 2) := by decide +kernel
theorem dX8_cheapestOn_154 : decode cX8_cheapestOn 154 = .ok (.iinc 6 1, 3) := by decide +kernel
theorem dX8_cheapestOn_157 : decode cX8_cheapestOn 157 = .ok (.goto (-85), 3) := by decide +kernel
theorem dX8_cheapestOn_160 : decode cX8_cheapestOn 160 = .ok (.iload 5, 2) := by decide +kernel
theorem dX8_cheapestOn_162 : decode cX8_cheapestOn 162 = .ok (.ireturn, 1) := by decide +kernel
theorem dX8_cheaper_0 : decode cX8_cheaper 0 = .ok (.iload_n 0, 1) := by decide +kernel
theorem dX8_cheaper_1 : decode cX8_cheaper 1 = .ok (.iconst 4, 1) := by decide +kernel
theorem dX8_cheaper_2 : decode cX8_cheaper 2 = .ok (.ishr, 1) := by decide +kernel
theorem dX8_cheaper_3 : decode cX8_cheaper 3 = .ok (.iload_n 1, 1) := by decide +kernel
theorem dX8_cheaper_4 : decode cX8_cheaper 4 = .ok (.iconst 4, 1) := by decide +kernel
theorem dX8_cheaper_5 : decode cX8_cheaper 5 = .ok (.ishr, 1) := by decide +kernel
theorem dX8_cheaper_6 : decode cX8_cheaper 6 = .ok (.if_icmp .ne 7, 3) := by decide +kernel
theorem dX8_cheaper_9 : decode cX8_cheaper 9 = .ok (.iload_n 0, 1) := by decide +kernel
theorem dX8_cheaper_10 : decode cX8_cheaper 10 = .ok (.iload_n 1, 1) := by decide +kernel
theorem dX8_cheaper_11 : decode cX8_cheaper 11 = .ok (.ior, 1) := by decide +kernel
theorem dX8_cheaper_12 : decode cX8_cheaper 12 = .ok (.ireturn, 1) := by decide +kernel
theorem dX8_cheaper_13 : decode cX8_cheaper 13 = .ok (.iload_n 0, 1) := by decide +kernel
theorem dX8_cheaper_14 : decode cX8_cheaper 14 = .ok (.iload_n 1, 1) := by decide +kernel
theorem dX8_cheaper_15 : decode cX8_cheaper 15 = .ok (.if_icmp .ge 7, 3) := by decide +kernel
theorem dX8_cheaper_18 : decode cX8_cheaper 18 = .ok (.iload_n 0, 1) := by decide +kernel
theorem dX8_cheaper_19 : decode cX8_cheaper 19 = .ok (.goto 4, 3) := by decide +kernel
theorem dX8_cheaper_22 : decode cX8_cheaper 22 = .ok (.iload_n 1, 1) := by decide +kernel
theorem dX8_cheaper_23 : decode cX8_cheaper 23 = .ok (.ireturn, 1) := by decide +kernel
theorem dX3_init_0 : decode cX3_init 0 = .ok (.aload_n 0, 1) := by decide +kernel
theorem dX3_init_1 : decode cX3_init 1 = .ok (.aload_n 1, 1) := by decide +kernel
theorem dX3_init_2 : decode cX3_init 2 = .ok (.aload_n 2, 1) := by decide +kernel
theorem dX3_init_3 : decode cX3_init 3 = .ok (.invokespecial 3, 3) := by decide +kernel
theorem dX3_init_6 : decode cX3_init 6 = .ok (.aload_n 0, 1) := by decide +kernel
theorem dX3_init_7 : decode cX3_init 7 = .ok (.iconst 4, 1) := by decide +kernel
theorem dX3_init_8 : decode cX3_init 8 = .ok (.newarray .int, 2) := by decide +kernel
theorem dX3_init_10 : decode cX3_init 10 = .ok (.putfield 9, 3) := by decide +kernel
theorem dX3_init_13 : decode cX3_init 13 = .ok (.aload_n 0, 1) := by decide +kernel
theorem dX3_init_14 : decode cX3_init 14 = .ok (.iconst 4, 1) := by decide +kernel
theorem dX3_init_15 : decode cX3_init 15 = .ok (.newarray .int, 2) := by decide +kernel
theorem dX3_init_17 : decode cX3_init 17 = .ok (.putfield 15, 3) := by decide +kernel
theorem dX3_init_20 : decode cX3_init 20 = .ok (.aload_n 0, 1) := by decide +kernel
theorem dX3_init_21 : decode cX3_init 21 = .ok (.bipush 16, 2) := by decide +kernel
theorem dX3_init_23 : decode cX3_init 23 = .ok (.newarray .int, 2) := by decide +kernel
theorem dX3_init_25 : decode cX3_init 25 = .ok (.putfield 18, 3) := by decide +kernel
theorem dX3_init_28 : decode cX3_init 28 = .ok (.aload_n 0, 1) := by decide +kernel
theorem dX3_init_29 : decode cX3_init 29 = .ok (.bipush 12, 2) := by decide +kernel
theorem dX3_init_31 : decode cX3_init 31 = .ok (.newarray .int, 2) := by decide +kernel
theorem dX3_init_33 : decode cX3_init 33 = .ok (.putfield 21, 3) := by decide +kernel
theorem dX3_init_36 : decode cX3_init 36 = .ok (.aload_n 0, 1) := by decide +kernel
theorem dX3_init_37 : decode cX3_init 37 = .ok (.iconst 4, 1) := by decide +kernel
theorem dX3_init_38 : decode cX3_init 38 = .ok (.newarray .int, 2) := by decide +kernel
theorem dX3_init_40 : decode cX3_init 40 = .ok (.putfield 24, 3) := by decide +kernel
theorem dX3_init_43 : decode cX3_init 43 = .ok (.return_, 1) := by decide +kernel
theorem dX3_load_0 : decode cX3_load 0 = .ok (.aload_n 0, 1) := by decide +kernel
theorem dX3_load_1 : decode cX3_load 1 = .ok (.aload_n 1, 1) := by decide +kernel
theorem dX3_load_2 : decode cX3_load 2 = .ok (.getfield 27, 3) := by decide +kernel
theorem dX3_load_5 : decode cX3_load 5 = .ok (.putfield 33, 3) := by decide +kernel
theorem dX3_load_8 : decode cX3_load 8 = .ok (.aload_n 0, 1) := by decide +kernel
theorem dX3_load_9 : decode cX3_load 9 = .ok (.aload_n 0, 1) := by decide +kernel
theorem dX3_load_10 : decode cX3_load 10 = .ok (.getfield 34, 3) := by decide +kernel
theorem dX3_load_13 : decode cX3_load 13 = .ok (.getfield 38, 3) := by decide +kernel
theorem dX3_load_16 : decode cX3_load 16 = .ok (.putfield 43, 3) := by decide +kernel
theorem dX3_load_19 : decode cX3_load 19 = .ok (.iconst 0, 1) := by decide +kernel
theorem dX3_load_20 : decode cX3_load 20 = .ok (.istore_n 2, 1) := by decide +kernel
theorem dX3_load_21 : decode cX3_load 21 = .ok (.iload_n 2, 1) := by decide +kernel
theorem dX3_load_22 : decode cX3_load 22 = .ok (.aload_n 0, 1) := by decide +kernel
theorem dX3_load_23 : decode cX3_load 23 = .ok (.getfield 33, 3) := by decide +kernel
theorem dX3_load_26 : decode cX3_load 26 = .ok (.if_icmp .ge 77, 3) := by decide +kernel
theorem dX3_load_29 : decode cX3_load 29 = .ok (.aload_n 0, 1) := by decide +kernel
theorem dX3_load_30 : decode cX3_load 30 = .ok (.iload_n 2, 1) := by decide +kernel
theorem dX3_load_31 : decode cX3_load 31 = .ok (.aload_n 1, 1) := by decide +kernel
theorem dX3_load_32 : decode cX3_load 32 = .ok (.getfield 46, 3) := by decide +kernel
theorem dX3_load_35 : decode cX3_load 35 = .ok (.iload_n 2, 1) := by decide +kernel
theorem dX3_load_36 : decode cX3_load 36 = .ok (.iaload, 1) := by decide +kernel
theorem dX3_load_37 : decode cX3_load 37 = .ok (.invokevirtual 49, 3) := by decide +kernel
theorem dX3_load_40 : decode cX3_load 40 = .ok (.aload_n 0, 1) := by decide +kernel
theorem dX3_load_41 : decode cX3_load 41 = .ok (.getfield 53, 3) := by decide +kernel
theorem dX3_load_44 : decode cX3_load 44 = .ok (.iload_n 2, 1) := by decide +kernel
theorem dX3_load_45 : decode cX3_load 45 = .ok (.aload_n 0, 1) := by decide +kernel
theorem dX3_load_46 : decode cX3_load 46 = .ok (.getfield 56, 3) := by decide +kernel
theorem dX3_load_49 : decode cX3_load 49 = .ok (.getfield 60, 3) := by decide +kernel
theorem dX3_load_52 : decode cX3_load 52 = .ok (.iconst (-1), 1) := by decide +kernel
theorem dX3_load_53 : decode cX3_load 53 = .ok (.if_icmp .eq 13, 3) := by decide +kernel
theorem dX3_load_56 : decode cX3_load 56 = .ok (.aload_n 0, 1) := by decide +kernel
theorem dX3_load_57 : decode cX3_load 57 = .ok (.getfield 56, 3) := by decide +kernel
theorem dX3_load_60 : decode cX3_load 60 = .ok (.getfield 60, 3) := by decide +kernel
theorem dX3_load_63 : decode cX3_load 63 = .ok (.goto 9, 3) := by decide +kernel
theorem dX3_load_66 : decode cX3_load 66 = .ok (.aload_n 1, 1) := by decide +kernel
theorem dX3_load_67 : decode cX3_load 67 = .ok (.getfield 64, 3) := by decide +kernel
theorem dX3_load_70 : decode cX3_load 70 = .ok (.iload_n 2, 1) := by decide +kernel
theorem dX3_load_71 : decode cX3_load 71 = .ok (.iaload, 1) := by decide +kernel
theorem dX3_load_72 : decode cX3_load 72 = .ok (.iastore, 1) := by decide +kernel
theorem dX3_load_73 : decode cX3_load 73 = .ok (.aload_n 0, 1) := by decide +kernel
theorem dX3_load_74 : decode cX3_load 74 = .ok (.getfield 9, 3) := by decide +kernel
theorem dX3_load_77 : decode cX3_load 77 = .ok (.iload_n 2, 1) := by decide +kernel
theorem dX3_load_78 : decode cX3_load 78 = .ok (.aload_n 1, 1) := by decide +kernel
theorem dX3_load_79 : decode cX3_load 79 = .ok (.getfield 65, 3) := by decide +kernel
theorem dX3_load_82 : decode cX3_load 82 = .ok (.iload_n 2, 1) := by decide +kernel
theorem dX3_load_83 : decode cX3_load 83 = .ok (.iaload, 1) := by decide +kernel
theorem dX3_load_84 : decode cX3_load 84 = .ok (.iastore, 1) := by decide +kernel
theorem dX3_load_85 : decode cX3_load 85 = .ok (.aload_n 0, 1) := by decide +kernel
theorem dX3_load_86 : decode cX3_load 86 = .ok (.getfield 15, 3) := by decide +kernel
theorem dX3_load_89 : decode cX3_load 89 = .ok (.iload_n 2, 1) := by decide +kernel
theorem dX3_load_90 : decode cX3_load 90 = .ok (.aload_n 1, 1) := by decide +kernel
theorem dX3_load_91 : decode cX3_load 91 = .ok (.getfield 66, 3) := by decide +kernel
theorem dX3_load_94 : decode cX3_load 94 = .ok (.iload_n 2, 1) := by decide +kernel
theorem dX3_load_95 : decode cX3_load 95 = .ok (.iaload, 1) := by decide +kernel
theorem dX3_load_96 : decode cX3_load 96 = .ok (.iastore, 1) := by decide +kernel
theorem dX3_load_97 : decode cX3_load 97 = .ok (.iinc 2 1, 3) := by decide +kernel
theorem dX3_load_100 : decode cX3_load 100 = .ok (.goto (-79), 3) := by decide +kernel
theorem dX3_load_103 : decode cX3_load 103 = .ok (.return_, 1) := by decide +kernel
theorem dX3_open_0 : decode cX3_open 0 = .ok (.aload_n 0, 1) := by decide +kernel
theorem dX3_open_1 : decode cX3_open 1 = .ok (.getfield 18, 3) := by decide +kernel
theorem dX3_open_4 : decode cX3_open 4 = .ok (.iconst 0, 1) := by decide +kernel
theorem dX3_open_5 : decode cX3_open 5 = .ok (.invokestatic 67, 3) := by decide +kernel
theorem dX3_open_8 : decode cX3_open 8 = .ok (.aload_n 0, 1) := by decide +kernel
theorem dX3_open_9 : decode cX3_open 9 = .ok (.getfield 24, 3) := by decide +kernel
theorem dX3_open_12 : decode cX3_open 12 = .ok (.iconst 0, 1) := by decide +kernel
theorem dX3_open_13 : decode cX3_open 13 = .ok (.invokestatic 67, 3) := by decide +kernel
theorem dX3_open_16 : decode cX3_open 16 = .ok (.return_, 1) := by decide +kernel
theorem dX3_meetCorner_0 : decode cX3_meetCorner 0 = .ok (.aload_n 0, 1) := by decide +kernel
theorem dX3_meetCorner_1 : decode cX3_meetCorner 1 = .ok (.getfield 34, 3) := by decide +kernel
theorem dX3_meetCorner_4 : decode cX3_meetCorner 4 = .ok (.getfield 73, 3) := by decide +kernel
theorem dX3_meetCorner_7 : decode cX3_meetCorner 7 = .ok (.istore_n 2, 1) := by decide +kernel
theorem dX3_meetCorner_8 : decode cX3_meetCorner 8 = .ok (.iconst 0, 1) := by decide +kernel
theorem dX3_meetCorner_9 : decode cX3_meetCorner 9 = .ok (.istore_n 3, 1) := by decide +kernel
theorem dX3_meetCorner_10 : decode cX3_meetCorner 10 = .ok (.iconst 0, 1) := by decide +kernel
theorem dX3_meetCorner_11 : decode cX3_meetCorner 11 = .ok (.istore 4, 2) := by decide +kernel
theorem dX3_meetCorner_13 : decode cX3_meetCorner 13 = .ok (.iload 4, 2) := by decide +kernel
theorem dX3_meetCorner_15 : decode cX3_meetCorner 15 = .ok (.aload_n 0, 1) := by decide +kernel
theorem dX3_meetCorner_16 : decode cX3_meetCorner 16 = .ok (.getfield 33, 3) := by decide +kernel
theorem dX3_meetCorner_19 : decode cX3_meetCorner 19 = .ok (.if_icmp .ge 86, 3) := by decide +kernel
theorem dX3_meetCorner_22 : decode cX3_meetCorner 22 = .ok (.aload_n 0, 1) := by decide +kernel
theorem dX3_meetCorner_23 : decode cX3_meetCorner 23 = .ok (.getfield 53, 3) := by decide +kernel
theorem dX3_meetCorner_26 : decode cX3_meetCorner 26 = .ok (.iload 4, 2) := by decide +kernel
theorem dX3_meetCorner_28 : decode cX3_meetCorner 28 = .ok (.iaload, 1) := by decide +kernel
theorem dX3_meetCorner_29 : decode cX3_meetCorner 29 = .ok (.aload_n 0, 1) := by decide +kernel
theorem dX3_meetCorner_30 : decode cX3_meetCorner 30 = .ok (.getfield 43, 3) := by decide +kernel
theorem dX3_meetCorner_33 : decode cX3_meetCorner 33 = .ok (.aload_n 0, 1) := by decide +kernel
theorem dX3_meetCorner_34 : decode cX3_meetCorner 34 = .ok (.getfield 76, 3) := by decide +kernel
theorem dX3_meetCorner_37 : decode cX3_meetCorner 37 = .ok (.bipush 12, 2) := by decide +kernel
theorem dX3_meetCorner_39 : decode cX3_meetCorner 39 = .ok (.iload 4, 2) := by decide +kernel
theorem dX3_meetCorner_41 : decode cX3_meetCorner 41 = .ok (.imul, 1) := by decide +kernel
theorem dX3_meetCorner_42 : decode cX3_meetCorner 42 = .ok (.iload_n 1, 1) := by decide +kernel
theorem dX3_meetCorner_43 : decode cX3_meetCorner 43 = .ok (.iadd, 1) := by decide +kernel
theorem dX3_meetCorner_44 : decode cX3_meetCorner 44 = .ok (.iaload, 1) := by decide +kernel
theorem dX3_meetCorner_45 : decode cX3_meetCorner 45 = .ok (.imul, 1) := by decide +kernel
theorem dX3_meetCorner_46 : decode cX3_meetCorner 46 = .ok (.iadd, 1) := by decide +kernel
theorem dX3_meetCorner_47 : decode cX3_meetCorner 47 = .ok (.aload_n 0, 1) := by decide +kernel
theorem dX3_meetCorner_48 : decode cX3_meetCorner 48 = .ok (.getfield 34, 3) := by decide +kernel
theorem dX3_meetCorner_51 : decode cX3_meetCorner 51 = .ok (.getfield 79, 3) := by decide +kernel
theorem dX3_meetCorner_54 : decode cX3_meetCorner 54 = .ok (.iconst 3, 1) := by decide +kernel
theorem dX3_meetCorner_55 : decode cX3_meetCorner 55 = .ok (.iload_n 1, 1) := by decide +kernel
theorem dX3_meetCorner_56 : decode cX3_meetCorner 56 = .ok (.imul, 1) := by decide +kernel
theorem dX3_meetCorner_57 : decode cX3_meetCorner 57 = .ok (.aload_n 0, 1) := by decide +kernel
theorem dX3_meetCorner_58 : decode cX3_meetCorner 58 = .ok (.getfield 9, 3) := by decide +kernel
theorem dX3_meetCorner_61 : decode cX3_meetCorner 61 = .ok (.iload 4, 2) := by decide +kernel
theorem dX3_meetCorner_63 : decode cX3_meetCorner 63 = .ok (.iaload, 1) := by decide +kernel
theorem dX3_meetCorner_64 : decode cX3_meetCorner 64 = .ok (.iadd, 1) := by decide +kernel
theorem dX3_meetCorner_65 : decode cX3_meetCorner 65 = .ok (.iaload, 1) := by decide +kernel
theorem dX3_meetCorner_66 : decode cX3_meetCorner 66 = .ok (.isub, 1) := by decide +kernel
theorem dX3_meetCorner_67 : decode cX3_meetCorner 67 = .ok (.istore 5, 2) := by decide +kernel
theorem dX3_meetCorner_69 : decode cX3_meetCorner 69 = .ok (.iload 5, 2) := by decide +kernel
theorem dX3_meetCorner_71 : decode cX3_meetCorner 71 = .ok (.iload_n 2, 1) := by decide +kernel
theorem dX3_meetCorner_72 : decode cX3_meetCorner 72 = .ok (.if_icmp .ge 14, 3) := by decide +kernel
theorem dX3_meetCorner_75 : decode cX3_meetCorner 75 = .ok (.iload 5, 2) := by decide +kernel
theorem dX3_meetCorner_77 : decode cX3_meetCorner 77 = .ok (.istore_n 2, 1) := by decide +kernel
theorem dX3_meetCorner_78 : decode cX3_meetCorner 78 = .ok (.iconst 1, 1) := by decide +kernel
theorem dX3_meetCorner_79 : decode cX3_meetCorner 79 = .ok (.iload 4, 2) := by decide +kernel
theorem dX3_meetCorner_81 : decode cX3_meetCorner 81 = .ok (.ishl, 1) := by decide +kernel
theorem dX3_meetCorner_82 : decode cX3_meetCorner 82 = .ok (.istore_n 3, 1) := by decide +kernel
theorem dX3_meetCorner_83 : decode cX3_meetCorner 83 = .ok (.goto 16, 3) := by decide +kernel
theorem dX3_meetCorner_86 : decode cX3_meetCorner 86 = .ok (.iload 5, 2) := by decide +kernel
theorem dX3_meetCorner_88 : decode cX3_meetCorner 88 = .ok (.iload_n 2, 1) := by decide +kernel
theorem dX3_meetCorner_89 : decode cX3_meetCorner 89 = .ok (.if_icmp .ne 10, 3) := by decide +kernel
theorem dX3_meetCorner_92 : decode cX3_meetCorner 92 = .ok (.iload_n 3, 1) := by decide +kernel
theorem dX3_meetCorner_93 : decode cX3_meetCorner 93 = .ok (.iconst 1, 1) := by decide +kernel
theorem dX3_meetCorner_94 : decode cX3_meetCorner 94 = .ok (.iload 4, 2) := by decide +kernel
theorem dX3_meetCorner_96 : decode cX3_meetCorner 96 = .ok (.ishl, 1) := by decide +kernel
theorem dX3_meetCorner_97 : decode cX3_meetCorner 97 = .ok (.ior, 1) := by decide +kernel
theorem dX3_meetCorner_98 : decode cX3_meetCorner 98 = .ok (.istore_n 3, 1) := by decide +kernel
theorem dX3_meetCorner_99 : decode cX3_meetCorner 99 = .ok (.iinc 4 1, 3) := by decide +kernel
theorem dX3_meetCorner_102 : decode cX3_meetCorner 102 = .ok (.goto (-89), 3) := by decide +kernel
theorem dX3_meetCorner_105 : decode cX3_meetCorner 105 = .ok (.aload_n 0, 1) := by decide +kernel
theorem dX3_meetCorner_106 : decode cX3_meetCorner 106 = .ok (.getfield 21, 3) := by decide +kernel
theorem dX3_meetCorner_109 : decode cX3_meetCorner 109 = .ok (.iload_n 1, 1) := by decide +kernel
theorem dX3_meetCorner_110 : decode cX3_meetCorner 110 = .ok (.iload_n 3, 1) := by decide +kernel
theorem dX3_meetCorner_111 : decode cX3_meetCorner 111 = .ok (.iastore, 1) := by decide +kernel
theorem dX3_meetCorner_112 : decode cX3_meetCorner 112 = .ok (.aload_n 0, 1) := by decide +kernel
theorem dX3_meetCorner_113 : decode cX3_meetCorner 113 = .ok (.getfield 18, 3) := by decide +kernel
theorem dX3_meetCorner_116 : decode cX3_meetCorner 116 = .ok (.iload_n 3, 1) := by decide +kernel
theorem dX3_meetCorner_117 : decode cX3_meetCorner 117 = .ok (.dup2, 1) := by decide +kernel
theorem dX3_meetCorner_118 : decode cX3_meetCorner 118 = .ok (.iaload, 1) := by decide +kernel
theorem dX3_meetCorner_119 : decode cX3_meetCorner 119 = .ok (.bipush 24, 2) := by decide +kernel
theorem dX3_meetCorner_121 : decode cX3_meetCorner 121 = .ok (.aload_n 0, 1) := by decide +kernel
theorem dX3_meetCorner_122 : decode cX3_meetCorner 122 = .ok (.getfield 43, 3) := by decide +kernel
theorem dX3_meetCorner_125 : decode cX3_meetCorner 125 = .ok (.imul, 1) := by decide +kernel
theorem dX3_meetCorner_126 : decode cX3_meetCorner 126 = .ok (.aload_n 0, 1) := by decide +kernel
theorem dX3_meetCorner_127 : decode cX3_meetCorner 127 = .ok (.getfield 34, 3) := by decide +kernel
theorem dX3_meetCorner_130 : decode cX3_meetCorner 130 = .ok (.getfield 82, 3) := by decide +kernel
theorem dX3_meetCorner_133 : decode cX3_meetCorner 133 = .ok (.iload_n 1, 1) := by decide +kernel
theorem dX3_meetCorner_134 : decode cX3_meetCorner 134 = .ok (.iaload, 1) := by decide +kernel
theorem dX3_meetCorner_135 : decode cX3_meetCorner 135 = .ok (.imul, 1) := by decide +kernel
theorem dX3_meetCorner_136 : decode cX3_meetCorner 136 = .ok (.iadd, 1) := by decide +kernel
theorem dX3_meetCorner_137 : decode cX3_meetCorner 137 = .ok (.iastore, 1) := by decide +kernel
theorem dX3_meetCorner_138 : decode cX3_meetCorner 138 = .ok (.return_, 1) := by decide +kernel
theorem dX3_meetStretch_0 : decode cX3_meetStretch 0 = .ok (.iconst 2, 1) := by decide +kernel
theorem dX3_meetStretch_1 : decode cX3_meetStretch 1 = .ok (.aload_n 0, 1) := by decide +kernel
theorem dX3_meetStretch_2 : decode cX3_meetStretch 2 = .ok (.getfield 43, 3) := by decide +kernel
theorem dX3_meetStretch_5 : decode cX3_meetStretch 5 = .ok (.imul, 1) := by decide +kernel
theorem dX3_meetStretch_6 : decode cX3_meetStretch 6 = .ok (.iload_n 3, 1) := by decide +kernel
theorem dX3_meetStretch_7 : decode cX3_meetStretch 7 = .ok (.imul, 1) := by decide +kernel
theorem dX3_meetStretch_8 : decode cX3_meetStretch 8 = .ok (.istore 5, 2) := by decide +kernel
theorem dX3_meetStretch_10 : decode cX3_meetStretch 10 = .ok (.iload_n 2, 1) := by decide +kernel
theorem dX3_meetStretch_11 : decode cX3_meetStretch 11 = .ok (.iconst 4, 1) := by decide +kernel
theorem dX3_meetStretch_12 : decode cX3_meetStretch 12 = .ok (.ishr, 1) := by decide +kernel
theorem dX3_meetStretch_13 : decode cX3_meetStretch 13 = .ok (.iload_n 1, 1) := by decide +kernel
theorem dX3_meetStretch_14 : decode cX3_meetStretch 14 = .ok (.iconst 4, 1) := by decide +kernel
theorem dX3_meetStretch_15 : decode cX3_meetStretch 15 = .ok (.ishr, 1) := by decide +kernel
theorem dX3_meetStretch_16 : decode cX3_meetStretch 16 = .ok (.isub, 1) := by decide +kernel
theorem dX3_meetStretch_17 : decode cX3_meetStretch 17 = .ok (.aload_n 0, 1) := by decide +kernel
theorem dX3_meetStretch_18 : decode cX3_meetStretch 18 = .ok (.getfield 43, 3) := by decide +kernel
theorem dX3_meetStretch_21 : decode cX3_meetStretch 21 = .ok (.iload_n 3, 1) := by decide +kernel
theorem dX3_meetStretch_22 : decode cX3_meetStretch 22 = .ok (.imul, 1) := by decide +kernel
theorem dX3_meetStretch_23 : decode cX3_meetStretch 23 = .ok (.iadd, 1) := by decide +kernel
theorem dX3_meetStretch_24 : decode cX3_meetStretch 24 = .ok (.istore 6, 2) := by decide +kernel
theorem dX3_meetStretch_26 : decode cX3_meetStretch 26 = .ok (.iconst 0, 1) := by decide +kernel
theorem dX3_meetStretch_27 : decode cX3_meetStretch 27 = .ok (.iload 6, 2) := by decide +kernel
theorem dX3_meetStretch_29 : decode cX3_meetStretch 29 = .ok (.iconst 2, 1) := by decide +kernel
theorem dX3_meetStretch_30 : decode cX3_meetStretch 30 = .ok (.aload_n 0, 1) := by decide +kernel
theorem dX3_meetStretch_31 : decode cX3_meetStretch 31 = .ok (.getfield 34, 3) := by decide +kernel
theorem dX3_meetStretch_34 : decode cX3_meetStretch 34 = .ok (.getfield 73, 3) := by decide +kernel
theorem dX3_meetStretch_37 : decode cX3_meetStretch 37 = .ok (.iload_n 1, 1) := by decide +kernel
theorem dX3_meetStretch_38 : decode cX3_meetStretch 38 = .ok (.iconst 4, 1) := by decide +kernel
theorem dX3_meetStretch_39 : decode cX3_meetStretch 39 = .ok (.ishr, 1) := by decide +kernel
theorem dX3_meetStretch_40 : decode cX3_meetStretch 40 = .ok (.isub, 1) := by decide +kernel
theorem dX3_meetStretch_41 : decode cX3_meetStretch 41 = .ok (.imul, 1) := by decide +kernel
theorem dX3_meetStretch_42 : decode cX3_meetStretch 42 = .ok (.invokestatic 85, 3) := by decide +kernel
theorem dX3_meetStretch_45 : decode cX3_meetStretch 45 = .ok (.invokestatic 91, 3) := by decide +kernel
theorem dX3_meetStretch_48 : decode cX3_meetStretch 48 = .ok (.istore 7, 2) := by decide +kernel
theorem dX3_meetStretch_50 : decode cX3_meetStretch 50 = .ok (.iconst 0, 1) := by decide +kernel
theorem dX3_meetStretch_51 : decode cX3_meetStretch 51 = .ok (.iload 5, 2) := by decide +kernel
theorem dX3_meetStretch_53 : decode cX3_meetStretch 53 = .ok (.iload 6, 2) := by decide +kernel
theorem dX3_meetStretch_55 : decode cX3_meetStretch 55 = .ok (.isub, 1) := by decide +kernel
theorem dX3_meetStretch_56 : decode cX3_meetStretch 56 = .ok (.iconst 2, 1) := by decide +kernel
theorem dX3_meetStretch_57 : decode cX3_meetStretch 57 = .ok (.aload_n 0, 1) := by decide +kernel
theorem dX3_meetStretch_58 : decode cX3_meetStretch 58 = .ok (.getfield 34, 3) := by decide +kernel
theorem dX3_meetStretch_61 : decode cX3_meetStretch 61 = .ok (.getfield 73, 3) := by decide +kernel
theorem dX3_meetStretch_64 : decode cX3_meetStretch 64 = .ok (.iload_n 2, 1) := by decide +kernel
theorem dX3_meetStretch_65 : decode cX3_meetStretch 65 = .ok (.iconst 4, 1) := by decide +kernel
theorem dX3_meetStretch_66 : decode cX3_meetStretch 66 = .ok (.ishr, 1) := by decide +kernel
theorem dX3_meetStretch_67 : decode cX3_meetStretch 67 = .ok (.isub, 1) := by decide +kernel
theorem dX3_meetStretch_68 : decode cX3_meetStretch 68 = .ok (.imul, 1) := by decide +kernel
theorem dX3_meetStretch_69 : decode cX3_meetStretch 69 = .ok (.invokestatic 85, 3) := by decide +kernel
theorem dX3_meetStretch_72 : decode cX3_meetStretch 72 = .ok (.invokestatic 91, 3) := by decide +kernel
theorem dX3_meetStretch_75 : decode cX3_meetStretch 75 = .ok (.istore 8, 2) := by decide +kernel
theorem dX3_meetStretch_77 : decode cX3_meetStretch 77 = .ok (.bipush 12, 2) := by decide +kernel
theorem dX3_meetStretch_79 : decode cX3_meetStretch 79 = .ok (.iload 4, 2) := by decide +kernel
theorem dX3_meetStretch_81 : decode cX3_meetStretch 81 = .ok (.imul, 1) := by decide +kernel
theorem dX3_meetStretch_82 : decode cX3_meetStretch 82 = .ok (.istore 9, 2) := by decide +kernel
theorem dX3_meetStretch_84 : decode cX3_meetStretch 84 = .ok (.aload_n 0, 1) := by decide +kernel
theorem dX3_meetStretch_85 : decode cX3_meetStretch 85 = .ok (.getfield 18, 3) := by decide +kernel
theorem dX3_meetStretch_88 : decode cX3_meetStretch 88 = .ok (.iload_n 1, 1) := by decide +kernel
theorem dX3_meetStretch_89 : decode cX3_meetStretch 89 = .ok (.bipush 15, 2) := by decide +kernel
theorem dX3_meetStretch_91 : decode cX3_meetStretch 91 = .ok (.iand, 1) := by decide +kernel
theorem dX3_meetStretch_92 : decode cX3_meetStretch 92 = .ok (.dup2, 1) := by decide +kernel
theorem dX3_meetStretch_93 : decode cX3_meetStretch 93 = .ok (.iaload, 1) := by decide +kernel
theorem dX3_meetStretch_94 : decode cX3_meetStretch 94 = .ok (.iload 9, 2) := by decide +kernel
theorem dX3_meetStretch_96 : decode cX3_meetStretch 96 = .ok (.iload 7, 2) := by decide +kernel
theorem dX3_meetStretch_98 : decode cX3_meetStretch 98 = .ok (.imul, 1) := by decide +kernel
theorem dX3_meetStretch_99 : decode cX3_meetStretch 99 = .ok (.iadd, 1) := by decide +kernel
theorem dX3_meetStretch_100 : decode cX3_meetStretch 100 = .ok (.iastore, 1) := by decide +kernel
theorem dX3_meetStretch_101 : decode cX3_meetStretch 101 = .ok (.aload_n 0, 1) := by decide +kernel
theorem dX3_meetStretch_102 : decode cX3_meetStretch 102 = .ok (.getfield 18, 3) := by decide +kernel
theorem dX3_meetStretch_105 : decode cX3_meetStretch 105 = .ok (.iload_n 2, 1) := by decide +kernel
theorem dX3_meetStretch_106 : decode cX3_meetStretch 106 = .ok (.bipush 15, 2) := by decide +kernel
theorem dX3_meetStretch_108 : decode cX3_meetStretch 108 = .ok (.iand, 1) := by decide +kernel
theorem dX3_meetStretch_109 : decode cX3_meetStretch 109 = .ok (.dup2, 1) := by decide +kernel
theorem dX3_meetStretch_110 : decode cX3_meetStretch 110 = .ok (.iaload, 1) := by decide +kernel
theorem dX3_meetStretch_111 : decode cX3_meetStretch 111 = .ok (.iload 9, 2) := by decide +kernel
theorem dX3_meetStretch_113 : decode cX3_meetStretch 113 = .ok (.iload 8, 2) := by decide +kernel
theorem dX3_meetStretch_115 : decode cX3_meetStretch 115 = .ok (.imul, 1) := by decide +kernel
theorem dX3_meetStretch_116 : decode cX3_meetStretch 116 = .ok (.iadd, 1) := by decide +kernel
theorem dX3_meetStretch_117 : decode cX3_meetStretch 117 = .ok (.iastore, 1) := by decide +kernel
theorem dX3_meetStretch_118 : decode cX3_meetStretch 118 = .ok (.aload_n 0, 1) := by decide +kernel
theorem dX3_meetStretch_119 : decode cX3_meetStretch 119 = .ok (.getfield 18, 3) := by decide +kernel
theorem dX3_meetStretch_122 : decode cX3_meetStretch 122 = .ok (.iconst 0, 1) := by decide +kernel
theorem dX3_meetStretch_123 : decode cX3_meetStretch 123 = .ok (.dup2, 1) := by decide +kernel
theorem dX3_meetStretch_124 : decode cX3_meetStretch 124 = .ok (.iaload, 1) := by decide +kernel
theorem dX3_meetStretch_125 : decode cX3_meetStretch 125 = .ok (.iload 9, 2) := by decide +kernel
theorem dX3_meetStretch_127 : decode cX3_meetStretch 127 = .ok (.iload 5, 2) := by decide +kernel
theorem dX3_meetStretch_129 : decode cX3_meetStretch 129 = .ok (.iload 7, 2) := by decide +kernel
theorem dX3_meetStretch_131 : decode cX3_meetStretch 131 = .ok (.isub, 1) := by decide +kernel
theorem dX3_meetStretch_132 : decode cX3_meetStretch 132 = .ok (.iload 8, 2) := by decide +kernel
theorem dX3_meetStretch_134 : decode cX3_meetStretch 134 = .ok (.isub, 1) := by decide +kernel
theorem dX3_meetStretch_135 : decode cX3_meetStretch 135 = .ok (.imul, 1) := by decide +kernel
theorem dX3_meetStretch_136 : decode cX3_meetStretch 136 = .ok (.iadd, 1) := by decide +kernel
theorem dX3_meetStretch_137 : decode cX3_meetStretch 137 = .ok (.iastore, 1) := by decide +kernel
theorem dX3_meetStretch_138 : decode cX3_meetStretch 138 = .ok (.return_, 1) := by decide +kernel
theorem dX3_close_0 : decode cX3_close 0 = .ok (.iconst 1, 1) := by decide +kernel
theorem dX3_close_1 : decode cX3_close 1 = .ok (.istore_n 1, 1) := by decide +kernel
theorem dX3_close_2 : decode cX3_close 2 = .ok (.iload_n 1, 1) := by decide +kernel
theorem dX3_close_3 : decode cX3_close 3 = .ok (.aload_n 0, 1) := by decide +kernel
theorem dX3_close_4 : decode cX3_close 4 = .ok (.getfield 18, 3) := by decide +kernel
theorem dX3_close_7 : decode cX3_close 7 = .ok (.arraylength, 1) := by decide +kernel
theorem dX3_close_8 : decode cX3_close 8 = .ok (.if_icmp .ge 62, 3) := by decide +kernel
theorem dX3_close_11 : decode cX3_close 11 = .ok (.aload_n 0, 1) := by decide +kernel
theorem dX3_close_12 : decode cX3_close 12 = .ok (.getfield 18, 3) := by decide +kernel
theorem dX3_close_15 : decode cX3_close 15 = .ok (.iload_n 1, 1) := by decide +kernel
theorem dX3_close_16 : decode cX3_close 16 = .ok (.iaload, 1) := by decide +kernel
theorem dX3_close_17 : decode cX3_close 17 = .ok (.ifCond .eq 47, 3) := by decide +kernel
theorem dX3_close_20 : decode cX3_close 20 = .ok (.aload_n 0, 1) := by decide +kernel
theorem dX3_close_21 : decode cX3_close 21 = .ok (.getfield 18, 3) := by decide +kernel
theorem dX3_close_24 : decode cX3_close 24 = .ok (.iload_n 1, 1) := by decide +kernel
theorem dX3_close_25 : decode cX3_close 25 = .ok (.iaload, 1) := by decide +kernel
theorem dX3_close_26 : decode cX3_close 26 = .ok (.iload_n 1, 1) := by decide +kernel
theorem dX3_close_27 : decode cX3_close 27 = .ok (.invokestatic 94, 3) := by decide +kernel
theorem dX3_close_30 : decode cX3_close 30 = .ok (.idiv, 1) := by decide +kernel
theorem dX3_close_31 : decode cX3_close 31 = .ok (.istore_n 2, 1) := by decide +kernel
theorem dX3_close_32 : decode cX3_close 32 = .ok (.iconst 0, 1) := by decide +kernel
theorem dX3_close_33 : decode cX3_close 33 = .ok (.istore_n 3, 1) := by decide +kernel
theorem dX3_close_34 : decode cX3_close 34 = .ok (.iload_n 3, 1) := by decide +kernel
theorem dX3_close_35 : decode cX3_close 35 = .ok (.aload_n 0, 1) := by decide +kernel
theorem dX3_close_36 : decode cX3_close 36 = .ok (.getfield 33, 3) := by decide +kernel
theorem dX3_close_39 : decode cX3_close 39 = .ok (.if_icmp .ge 25, 3) := by decide +kernel
theorem dX3_close_42 : decode cX3_close 42 = .ok (.aload_n 0, 1) := by decide +kernel
theorem dX3_close_43 : decode cX3_close 43 = .ok (.getfield 24, 3) := by decide +kernel
theorem dX3_close_46 : decode cX3_close 46 = .ok (.iload_n 3, 1) := by decide +kernel
theorem dX3_close_47 : decode cX3_close 47 = .ok (.dup2, 1) := by decide +kernel
theorem dX3_close_48 : decode cX3_close 48 = .ok (.iaload, 1) := by decide +kernel
theorem dX3_close_49 : decode cX3_close 49 = .ok (.iload_n 1, 1) := by decide +kernel
theorem dX3_close_50 : decode cX3_close 50 = .ok (.iload_n 3, 1) := by decide +kernel
theorem dX3_close_51 : decode cX3_close 51 = .ok (.ishr, 1) := by decide +kernel
theorem dX3_close_52 : decode cX3_close 52 = .ok (.iconst 1, 1) := by decide +kernel
theorem dX3_close_53 : decode cX3_close 53 = .ok (.iand, 1) := by decide +kernel
theorem dX3_close_54 : decode cX3_close 54 = .ok (.iload_n 2, 1) := by decide +kernel
theorem dX3_close_55 : decode cX3_close 55 = .ok (.imul, 1) := by decide +kernel
theorem dX3_close_56 : decode cX3_close 56 = .ok (.iadd, 1) := by decide +kernel
theorem dX3_close_57 : decode cX3_close 57 = .ok (.iastore, 1) := by decide +kernel
theorem dX3_close_58 : decode cX3_close 58 = .ok (.iinc 3 1, 3) := by decide +kernel
theorem dX3_close_61 : decode cX3_close 61 = .ok (.goto (-27), 3) := by decide +kernel
theorem dX3_close_64 : decode cX3_close 64 = .ok (.iinc 1 1, 3) := by decide +kernel
theorem dX3_close_67 : decode cX3_close 67 = .ok (.goto (-65), 3) := by decide +kernel
theorem dX3_close_70 : decode cX3_close 70 = .ok (.return_, 1) := by decide +kernel
theorem dX3_worth_0 : decode cX3_worth 0 = .ok (.aload_n 0, 1) := by decide +kernel
theorem dX3_worth_1 : decode cX3_worth 1 = .ok (.getfield 24, 3) := by decide +kernel
theorem dX3_worth_4 : decode cX3_worth 4 = .ok (.iload_n 1, 1) := by decide +kernel
theorem dX3_worth_5 : decode cX3_worth 5 = .ok (.iaload, 1) := by decide +kernel
theorem dX3_worth_6 : decode cX3_worth 6 = .ok (.i2l, 1) := by decide +kernel
theorem dX3_worth_7 : decode cX3_worth 7 = .ok (.aload_n 0, 1) := by decide +kernel
theorem dX3_worth_8 : decode cX3_worth 8 = .ok (.getfield 53, 3) := by decide +kernel
theorem dX3_worth_11 : decode cX3_worth 11 = .ok (.iload_n 1, 1) := by decide +kernel
theorem dX3_worth_12 : decode cX3_worth 12 = .ok (.iaload, 1) := by decide +kernel
theorem dX3_worth_13 : decode cX3_worth 13 = .ok (.i2l, 1) := by decide +kernel
theorem dX3_worth_14 : decode cX3_worth 14 = .ok (.lmul, 1) := by decide +kernel
theorem dX3_worth_15 : decode cX3_worth 15 = .ok (.lreturn, 1) := by decide +kernel
theorem dX3_takings_0 : decode cX3_takings 0 = .ok (.lconst 0, 1) := by decide +kernel
theorem dX3_takings_1 : decode cX3_takings 1 = .ok (.lstore_n 2, 1) := by decide +kernel
theorem dX3_takings_2 : decode cX3_takings 2 = .ok (.iconst 0, 1) := by decide +kernel
theorem dX3_takings_3 : decode cX3_takings 3 = .ok (.istore 4, 2) := by decide +kernel
theorem dX3_takings_5 : decode cX3_takings 5 = .ok (.iload 4, 2) := by decide +kernel
theorem dX3_takings_7 : decode cX3_takings 7 = .ok (.aload_n 0, 1) := by decide +kernel
theorem dX3_takings_8 : decode cX3_takings 8 = .ok (.getfield 33, 3) := by decide +kernel
theorem dX3_takings_11 : decode cX3_takings 11 = .ok (.if_icmp .ge 33, 3) := by decide +kernel
theorem dX3_takings_14 : decode cX3_takings 14 = .ok (.lload_n 2, 1) := by decide +kernel
theorem dX3_takings_15 : decode cX3_takings 15 = .ok (.aload_n 0, 1) := by decide +kernel
theorem dX3_takings_16 : decode cX3_takings 16 = .ok (.getfield 15, 3) := by decide +kernel
theorem dX3_takings_19 : decode cX3_takings 19 = .ok (.iload 4, 2) := by decide +kernel
theorem dX3_takings_21 : decode cX3_takings 21 = .ok (.iaload, 1) := by decide +kernel
theorem dX3_takings_22 : decode cX3_takings 22 = .ok (.iload_n 1, 1) := by decide +kernel
theorem dX3_takings_23 : decode cX3_takings 23 = .ok (.if_icmp .ne 12, 3) := by decide +kernel
theorem dX3_takings_26 : decode cX3_takings 26 = .ok (.aload_n 0, 1) := by decide +kernel
theorem dX3_takings_27 : decode cX3_takings 27 = .ok (.iload 4, 2) := by decide +kernel
theorem dX3_takings_29 : decode cX3_takings 29 = .ok (.invokevirtual 100, 3) := by decide +kernel
theorem dX3_takings_32 : decode cX3_takings 32 = .ok (.goto 4, 3) := by decide +kernel
theorem dX3_takings_35 : decode cX3_takings 35 = .ok (.lconst 0, 1) := by decide +kernel
theorem dX3_takings_36 : decode cX3_takings 36 = .ok (.ladd, 1) := by decide +kernel
theorem dX3_takings_37 : decode cX3_takings 37 = .ok (.lstore_n 2, 1) := by decide +kernel
theorem dX3_takings_38 : decode cX3_takings 38 = .ok (.iinc 4 1, 3) := by decide +kernel
theorem dX3_takings_41 : decode cX3_takings 41 = .ok (.goto (-36), 3) := by decide +kernel
theorem dX3_takings_44 : decode cX3_takings 44 = .ok (.lload_n 2, 1) := by decide +kernel
theorem dX3_takings_45 : decode cX3_takings 45 = .ok (.lreturn, 1) := by decide +kernel
theorem dX3_takingsOfOne_0 : decode cX3_takingsOfOne 0 = .ok (.aload_n 0, 1) := by decide +kernel
theorem dX3_takingsOfOne_1 : decode cX3_takingsOfOne 1 = .ok (.getfield 21, 3) := by decide +kernel
theorem dX3_takingsOfOne_4 : decode cX3_takingsOfOne 4 = .ok (.iload_n 2, 1) := by decide +kernel
theorem dX3_takingsOfOne_5 : decode cX3_takingsOfOne 5 = .ok (.iaload, 1) := by decide +kernel
theorem dX3_takingsOfOne_6 : decode cX3_takingsOfOne 6 = .ok (.istore_n 3, 1) := by decide +kernel
theorem dX3_takingsOfOne_7 : decode cX3_takingsOfOne 7 = .ok (.iload_n 3, 1) := by decide +kernel
theorem dX3_takingsOfOne_8 : decode cX3_takingsOfOne 8 = .ok (.invokestatic 94, 3) := by decide +kernel
theorem dX3_takingsOfOne_11 : decode cX3_takingsOfOne 11 = .ok (.istore 4, 2) := by decide +kernel
theorem dX3_takingsOfOne_13 : decode cX3_takingsOfOne 13 = .ok (.iload 4, 2) := by decide +kernel
theorem dX3_takingsOfOne_15 : decode cX3_takingsOfOne 15 = .ok (.ifCond .ne 5, 3) := by decide +kernel
theorem dX3_takingsOfOne_18 : decode cX3_takingsOfOne 18 = .ok (.iconst 0, 1) := by decide +kernel
theorem dX3_takingsOfOne_19 : decode cX3_takingsOfOne 19 = .ok (.ireturn, 1) := by decide +kernel
theorem dX3_takingsOfOne_20 : decode cX3_takingsOfOne 20 = .ok (.iconst 0, 1) := by decide +kernel
theorem dX3_takingsOfOne_21 : decode cX3_takingsOfOne 21 = .ok (.istore 5, 2) := by decide +kernel
theorem dX3_takingsOfOne_23 : decode cX3_takingsOfOne 23 = .ok (.iconst 0, 1) := by decide +kernel
theorem dX3_takingsOfOne_24 : decode cX3_takingsOfOne 24 = .ok (.istore 6, 2) := by decide +kernel
theorem dX3_takingsOfOne_26 : decode cX3_takingsOfOne 26 = .ok (.iload 6, 2) := by decide +kernel
theorem dX3_takingsOfOne_28 : decode cX3_takingsOfOne 28 = .ok (.aload_n 0, 1) := by decide +kernel
theorem dX3_takingsOfOne_29 : decode cX3_takingsOfOne 29 = .ok (.getfield 33, 3) := by decide +kernel
theorem dX3_takingsOfOne_32 : decode cX3_takingsOfOne 32 = .ok (.if_icmp .ge 46, 3) := by decide +kernel
theorem dX3_takingsOfOne_35 : decode cX3_takingsOfOne 35 = .ok (.iload 5, 2) := by decide +kernel
theorem dX3_takingsOfOne_37 : decode cX3_takingsOfOne 37 = .ok (.aload_n 0, 1) := by decide +kernel
theorem dX3_takingsOfOne_38 : decode cX3_takingsOfOne 38 = .ok (.getfield 15, 3) := by decide +kernel
theorem dX3_takingsOfOne_41 : decode cX3_takingsOfOne 41 = .ok (.iload 6, 2) := by decide +kernel
theorem dX3_takingsOfOne_43 : decode cX3_takingsOfOne 43 = .ok (.iaload, 1) := by decide +kernel
theorem dX3_takingsOfOne_44 : decode cX3_takingsOfOne 44 = .ok (.iload_n 1, 1) := by decide +kernel
theorem dX3_takingsOfOne_45 : decode cX3_takingsOfOne 45 = .ok (.if_icmp .ne 23, 3) := by decide +kernel
theorem dX3_takingsOfOne_48 : decode cX3_takingsOfOne 48 = .ok (.iload_n 3, 1) := by decide +kernel
theorem dX3_takingsOfOne_49 : decode cX3_takingsOfOne 49 = .ok (.iload 6, 2) := by decide +kernel
theorem dX3_takingsOfOne_51 : decode cX3_takingsOfOne 51 = .ok (.ishr, 1) := by decide +kernel
theorem dX3_takingsOfOne_52 : decode cX3_takingsOfOne 52 = .ok (.iconst 1, 1) := by decide +kernel
theorem dX3_takingsOfOne_53 : decode cX3_takingsOfOne 53 = .ok (.iand, 1) := by decide +kernel
theorem dX3_takingsOfOne_54 : decode cX3_takingsOfOne 54 = .ok (.iconst 1, 1) := by decide +kernel
theorem dX3_takingsOfOne_55 : decode cX3_takingsOfOne 55 = .ok (.if_icmp .ne 13, 3) := by decide +kernel
theorem dX3_takingsOfOne_58 : decode cX3_takingsOfOne 58 = .ok (.aload_n 0, 1) := by decide +kernel
theorem dX3_takingsOfOne_59 : decode cX3_takingsOfOne 59 = .ok (.getfield 53, 3) := by decide +kernel
theorem dX3_takingsOfOne_62 : decode cX3_takingsOfOne 62 = .ok (.iload 6, 2) := by decide +kernel
theorem dX3_takingsOfOne_64 : decode cX3_takingsOfOne 64 = .ok (.iaload, 1) := by decide +kernel
theorem dX3_takingsOfOne_65 : decode cX3_takingsOfOne 65 = .ok (.goto 4, 3) := by decide +kernel
theorem dX3_takingsOfOne_68 : decode cX3_takingsOfOne 68 = .ok (.iconst 0, 1) := by decide +kernel
theorem dX3_takingsOfOne_69 : decode cX3_takingsOfOne 69 = .ok (.iadd, 1) := by decide +kernel
theorem dX3_takingsOfOne_70 : decode cX3_takingsOfOne 70 = .ok (.istore 5, 2) := by decide +kernel
theorem dX3_takingsOfOne_72 : decode cX3_takingsOfOne 72 = .ok (.iinc 6 1, 3) := by decide +kernel
theorem dX3_takingsOfOne_75 : decode cX3_takingsOfOne 75 = .ok (.goto (-49), 3) := by decide +kernel
theorem dX3_takingsOfOne_78 : decode cX3_takingsOfOne 78 = .ok (.iload 5, 2) := by decide +kernel
theorem dX3_takingsOfOne_80 : decode cX3_takingsOfOne 80 = .ok (.bipush 24, 2) := by decide +kernel
theorem dX3_takingsOfOne_82 : decode cX3_takingsOfOne 82 = .ok (.aload_n 0, 1) := by decide +kernel
theorem dX3_takingsOfOne_83 : decode cX3_takingsOfOne 83 = .ok (.getfield 43, 3) := by decide +kernel
theorem dX3_takingsOfOne_86 : decode cX3_takingsOfOne 86 = .ok (.imul, 1) := by decide +kernel
theorem dX3_takingsOfOne_87 : decode cX3_takingsOfOne 87 = .ok (.iload 4, 2) := by decide +kernel
theorem dX3_takingsOfOne_89 : decode cX3_takingsOfOne 89 = .ok (.idiv, 1) := by decide +kernel
theorem dX3_takingsOfOne_90 : decode cX3_takingsOfOne 90 = .ok (.imul, 1) := by decide +kernel
theorem dX3_takingsOfOne_91 : decode cX3_takingsOfOne 91 = .ok (.ireturn, 1) := by decide +kernel
theorem dX3_isFarEnough_0 : decode cX3_isFarEnough 0 = .ok (.aload_n 0, 1) := by decide +kernel
theorem dX3_isFarEnough_1 : decode cX3_isFarEnough 1 = .ok (.getfield 56, 3) := by decide +kernel
theorem dX3_isFarEnough_4 : decode cX3_isFarEnough 4 = .ok (.getfield 104, 3) := by decide +kernel
theorem dX3_isFarEnough_7 : decode cX3_isFarEnough 7 = .ok (.ifCond .ne 5, 3) := by decide +kernel
theorem dX3_isFarEnough_10 : decode cX3_isFarEnough 10 = .ok (.iconst 1, 1) := by decide +kernel
theorem dX3_isFarEnough_11 : decode cX3_isFarEnough 11 = .ok (.ireturn, 1) := by decide +kernel
theorem dX3_isFarEnough_12 : decode cX3_isFarEnough 12 = .ok (.iconst 0, 1) := by decide +kernel
theorem dX3_isFarEnough_13 : decode cX3_isFarEnough 13 = .ok (.istore_n 3, 1) := by decide +kernel
theorem dX3_isFarEnough_14 : decode cX3_isFarEnough 14 = .ok (.iload_n 3, 1) := by decide +kernel
theorem dX3_isFarEnough_15 : decode cX3_isFarEnough 15 = .ok (.aload_n 0, 1) := by decide +kernel
theorem dX3_isFarEnough_16 : decode cX3_isFarEnough 16 = .ok (.getfield 33, 3) := by decide +kernel
theorem dX3_isFarEnough_19 : decode cX3_isFarEnough 19 = .ok (.if_icmp .ge 32, 3) := by decide +kernel
theorem dX3_isFarEnough_22 : decode cX3_isFarEnough 22 = .ok (.iload_n 3, 1) := by decide +kernel
theorem dX3_isFarEnough_23 : decode cX3_isFarEnough 23 = .ok (.iload_n 1, 1) := by decide +kernel
theorem dX3_isFarEnough_24 : decode cX3_isFarEnough 24 = .ok (.if_icmp .eq 21, 3) := by decide +kernel
theorem dX3_isFarEnough_27 : decode cX3_isFarEnough 27 = .ok (.aload_n 0, 1) := by decide +kernel
theorem dX3_isFarEnough_28 : decode cX3_isFarEnough 28 = .ok (.iload_n 3, 1) := by decide +kernel
theorem dX3_isFarEnough_29 : decode cX3_isFarEnough 29 = .ok (.iload_n 2, 1) := by decide +kernel
theorem dX3_isFarEnough_30 : decode cX3_isFarEnough 30 = .ok (.invokevirtual 107, 3) := by decide +kernel
theorem dX3_isFarEnough_33 : decode cX3_isFarEnough 33 = .ok (.aload_n 0, 1) := by decide +kernel
theorem dX3_isFarEnough_34 : decode cX3_isFarEnough 34 = .ok (.getfield 56, 3) := by decide +kernel
theorem dX3_isFarEnough_37 : decode cX3_isFarEnough 37 = .ok (.getfield 104, 3) := by decide +kernel
theorem dX3_isFarEnough_40 : decode cX3_isFarEnough 40 = .ok (.if_icmp .ge 5, 3) := by decide +kernel
theorem dX3_isFarEnough_43 : decode cX3_isFarEnough 43 = .ok (.iconst 0, 1) := by decide +kernel
theorem dX3_isFarEnough_44 : decode cX3_isFarEnough 44 = .ok (.ireturn, 1) := by decide +kernel
theorem dX3_isFarEnough_45 : decode cX3_isFarEnough 45 = .ok (.iinc 3 1, 3) := by decide +kernel
theorem dX3_isFarEnough_48 : decode cX3_isFarEnough 48 = .ok (.goto (-34), 3) := by decide +kernel
theorem dX3_isFarEnough_51 : decode cX3_isFarEnough 51 = .ok (.iconst 1, 1) := by decide +kernel
theorem dX3_isFarEnough_52 : decode cX3_isFarEnough 52 = .ok (.ireturn, 1) := by decide +kernel
theorem dX10_init_0 : decode cX10_init 0 = .ok (.aload_n 0, 1) := by decide +kernel
theorem dX10_init_1 : decode cX10_init 1 = .ok (.aload_n 1, 1) := by decide +kernel
theorem dX10_init_2 : decode cX10_init 2 = .ok (.aload_n 2, 1) := by decide +kernel
theorem dX10_init_3 : decode cX10_init 3 = .ok (.invokespecial 3, 3) := by decide +kernel
theorem dX10_init_6 : decode cX10_init 6 = .ok (.aload_n 0, 1) := by decide +kernel
theorem dX10_init_7 : decode cX10_init 7 = .ok (.lconst 0, 1) := by decide +kernel
theorem dX10_init_8 : decode cX10_init 8 = .ok (.putfield 9, 3) := by decide +kernel
theorem dX10_init_11 : decode cX10_init 11 = .ok (.aload_n 0, 1) := by decide +kernel
theorem dX10_init_12 : decode cX10_init 12 = .ok (.iconst 0, 1) := by decide +kernel
theorem dX10_init_13 : decode cX10_init 13 = .ok (.putfield 15, 3) := by decide +kernel
theorem dX10_init_16 : decode cX10_init 16 = .ok (.aload_n 0, 1) := by decide +kernel
theorem dX10_init_17 : decode cX10_init 17 = .ok (.ldc2_w 19, 3) := by decide +kernel
theorem dX10_init_20 : decode cX10_init 20 = .ok (.putfield 21, 3) := by decide +kernel
theorem dX10_init_23 : decode cX10_init 23 = .ok (.aload_n 0, 1) := by decide +kernel
theorem dX10_init_24 : decode cX10_init 24 = .ok (.iconst (-1), 1) := by decide +kernel
theorem dX10_init_25 : decode cX10_init 25 = .ok (.putfield 24, 3) := by decide +kernel
theorem dX10_init_28 : decode cX10_init 28 = .ok (.aload_n 0, 1) := by decide +kernel
theorem dX10_init_29 : decode cX10_init 29 = .ok (.iconst (-1), 1) := by decide +kernel
theorem dX10_init_30 : decode cX10_init 30 = .ok (.putfield 28, 3) := by decide +kernel
theorem dX10_init_33 : decode cX10_init 33 = .ok (.return_, 1) := by decide +kernel
theorem dX10_open_0 : decode cX10_open 0 = .ok (.aload_n 0, 1) := by decide +kernel
theorem dX10_open_1 : decode cX10_open 1 = .ok (.lconst 0, 1) := by decide +kernel
theorem dX10_open_2 : decode cX10_open 2 = .ok (.putfield 9, 3) := by decide +kernel
theorem dX10_open_5 : decode cX10_open 5 = .ok (.aload_n 0, 1) := by decide +kernel
theorem dX10_open_6 : decode cX10_open 6 = .ok (.iconst 0, 1) := by decide +kernel
theorem dX10_open_7 : decode cX10_open 7 = .ok (.putfield 15, 3) := by decide +kernel
theorem dX10_open_10 : decode cX10_open 10 = .ok (.return_, 1) := by decide +kernel
theorem dX10_meetCorner_0 : decode cX10_meetCorner 0 = .ok (.aload_n 0, 1) := by decide +kernel
theorem dX10_meetCorner_1 : decode cX10_meetCorner 1 = .ok (.getfield 31, 3) := by decide +kernel
theorem dX10_meetCorner_4 : decode cX10_meetCorner 4 = .ok (.getfield 35, 3) := by decide +kernel
theorem dX10_meetCorner_7 : decode cX10_meetCorner 7 = .ok (.iload_n 1, 1) := by decide +kernel
theorem dX10_meetCorner_8 : decode cX10_meetCorner 8 = .ok (.iaload, 1) := by decide +kernel
theorem dX10_meetCorner_9 : decode cX10_meetCorner 9 = .ok (.ifCond .le 58, 3) := by decide +kernel
theorem dX10_meetCorner_12 : decode cX10_meetCorner 12 = .ok (.aload_n 0, 1) := by decide +kernel
theorem dX10_meetCorner_13 : decode cX10_meetCorner 13 = .ok (.getfield 41, 3) := by decide +kernel
theorem dX10_meetCorner_16 : decode cX10_meetCorner 16 = .ok (.iload_n 1, 1) := by decide +kernel
theorem dX10_meetCorner_17 : decode cX10_meetCorner 17 = .ok (.iaload, 1) := by decide +kernel
theorem dX10_meetCorner_18 : decode cX10_meetCorner 18 = .ok (.iconst 4, 1) := by decide +kernel
theorem dX10_meetCorner_19 : decode cX10_meetCorner 19 = .ok (.ishr, 1) := by decide +kernel
theorem dX10_meetCorner_20 : decode cX10_meetCorner 20 = .ok (.istore_n 2, 1) := by decide +kernel
theorem dX10_meetCorner_21 : decode cX10_meetCorner 21 = .ok (.aload_n 0, 1) := by decide +kernel
theorem dX10_meetCorner_22 : decode cX10_meetCorner 22 = .ok (.dup, 1) := by decide +kernel
theorem dX10_meetCorner_23 : decode cX10_meetCorner 23 = .ok (.getfield 15, 3) := by decide +kernel
theorem dX10_meetCorner_26 : decode cX10_meetCorner 26 = .ok (.iload_n 2, 1) := by decide +kernel
theorem dX10_meetCorner_27 : decode cX10_meetCorner 27 = .ok (.ldc 44, 2) := by decide +kernel
theorem dX10_meetCorner_29 : decode cX10_meetCorner 29 = .ok (.if_icmp .lt 7, 3) := by decide +kernel
theorem dX10_meetCorner_32 : decode cX10_meetCorner 32 = .ok (.iconst 1, 1) := by decide +kernel
theorem dX10_meetCorner_33 : decode cX10_meetCorner 33 = .ok (.goto 4, 3) := by decide +kernel
theorem dX10_meetCorner_36 : decode cX10_meetCorner 36 = .ok (.iconst 0, 1) := by decide +kernel
theorem dX10_meetCorner_37 : decode cX10_meetCorner 37 = .ok (.ior, 1) := by decide +kernel
theorem dX10_meetCorner_38 : decode cX10_meetCorner 38 = .ok (.putfield 15, 3) := by decide +kernel
theorem dX10_meetCorner_41 : decode cX10_meetCorner 41 = .ok (.aload_n 0, 1) := by decide +kernel
theorem dX10_meetCorner_42 : decode cX10_meetCorner 42 = .ok (.dup, 1) := by decide +kernel
theorem dX10_meetCorner_43 : decode cX10_meetCorner 43 = .ok (.getfield 9, 3) := by decide +kernel
theorem dX10_meetCorner_46 : decode cX10_meetCorner 46 = .ok (.ldc2_w 45, 3) := by decide +kernel
theorem dX10_meetCorner_49 : decode cX10_meetCorner 49 = .ok (.aload_n 0, 1) := by decide +kernel
theorem dX10_meetCorner_50 : decode cX10_meetCorner 50 = .ok (.getfield 31, 3) := by decide +kernel
theorem dX10_meetCorner_53 : decode cX10_meetCorner 53 = .ok (.getfield 35, 3) := by decide +kernel
theorem dX10_meetCorner_56 : decode cX10_meetCorner 56 = .ok (.iload_n 1, 1) := by decide +kernel
theorem dX10_meetCorner_57 : decode cX10_meetCorner 57 = .ok (.iaload, 1) := by decide +kernel
theorem dX10_meetCorner_58 : decode cX10_meetCorner 58 = .ok (.i2l, 1) := by decide +kernel
theorem dX10_meetCorner_59 : decode cX10_meetCorner 59 = .ok (.lmul, 1) := by decide +kernel
theorem dX10_meetCorner_60 : decode cX10_meetCorner 60 = .ok (.iload_n 2, 1) := by decide +kernel
theorem dX10_meetCorner_61 : decode cX10_meetCorner 61 = .ok (.i2l, 1) := by decide +kernel
theorem dX10_meetCorner_62 : decode cX10_meetCorner 62 = .ok (.lmul, 1) := by decide +kernel
theorem dX10_meetCorner_63 : decode cX10_meetCorner 63 = .ok (.ladd, 1) := by decide +kernel
theorem dX10_meetCorner_64 : decode cX10_meetCorner 64 = .ok (.putfield 9, 3) := by decide +kernel
theorem dX10_meetCorner_67 : decode cX10_meetCorner 67 = .ok (.return_, 1) := by decide +kernel
theorem dX10_meetStretch_0 : decode cX10_meetStretch 0 = .ok (.iload_n 1, 1) := by decide +kernel
theorem dX10_meetStretch_1 : decode cX10_meetStretch 1 = .ok (.iconst 4, 1) := by decide +kernel
theorem dX10_meetStretch_2 : decode cX10_meetStretch 2 = .ok (.ishr, 1) := by decide +kernel
theorem dX10_meetStretch_3 : decode cX10_meetStretch 3 = .ok (.i2l, 1) := by decide +kernel
theorem dX10_meetStretch_4 : decode cX10_meetStretch 4 = .ok (.lstore 5, 2) := by decide +kernel
theorem dX10_meetStretch_6 : decode cX10_meetStretch 6 = .ok (.iload_n 2, 1) := by decide +kernel
theorem dX10_meetStretch_7 : decode cX10_meetStretch 7 = .ok (.iconst 4, 1) := by decide +kernel
theorem dX10_meetStretch_8 : decode cX10_meetStretch 8 = .ok (.ishr, 1) := by decide +kernel
theorem dX10_meetStretch_9 : decode cX10_meetStretch 9 = .ok (.i2l, 1) := by decide +kernel
theorem dX10_meetStretch_10 : decode cX10_meetStretch 10 = .ok (.lstore 7, 2) := by decide +kernel
theorem dX10_meetStretch_12 : decode cX10_meetStretch 12 = .ok (.aload_n 0, 1) := by decide +kernel
theorem dX10_meetStretch_13 : decode cX10_meetStretch 13 = .ok (.dup, 1) := by decide +kernel
theorem dX10_meetStretch_14 : decode cX10_meetStretch 14 = .ok (.getfield 15, 3) := by decide +kernel
theorem dX10_meetStretch_17 : decode cX10_meetStretch 17 = .ok (.lload 5, 2) := by decide +kernel
theorem dX10_meetStretch_19 : decode cX10_meetStretch 19 = .ok (.ldc2_w 47, 3) := by decide +kernel
theorem dX10_meetStretch_22 : decode cX10_meetStretch 22 = .ok (.lcmp, 1) := by decide +kernel
theorem dX10_meetStretch_23 : decode cX10_meetStretch 23 = .ok (.ifCond .ge 12, 3) := by decide +kernel
theorem dX10_meetStretch_26 : decode cX10_meetStretch 26 = .ok (.lload 7, 2) := by decide +kernel
theorem dX10_meetStretch_28 : decode cX10_meetStretch 28 = .ok (.ldc2_w 47, 3) := by decide +kernel
theorem dX10_meetStretch_31 : decode cX10_meetStretch 31 = .ok (.lcmp, 1) := by decide +kernel
theorem dX10_meetStretch_32 : decode cX10_meetStretch 32 = .ok (.ifCond .lt 7, 3) := by decide +kernel
theorem dX10_meetStretch_35 : decode cX10_meetStretch 35 = .ok (.iconst 1, 1) := by decide +kernel
theorem dX10_meetStretch_36 : decode cX10_meetStretch 36 = .ok (.goto 4, 3) := by decide +kernel
theorem dX10_meetStretch_39 : decode cX10_meetStretch 39 = .ok (.iconst 0, 1) := by decide +kernel
theorem dX10_meetStretch_40 : decode cX10_meetStretch 40 = .ok (.ior, 1) := by decide +kernel
theorem dX10_meetStretch_41 : decode cX10_meetStretch 41 = .ok (.putfield 15, 3) := by decide +kernel
theorem dX10_meetStretch_44 : decode cX10_meetStretch 44 = .ok (.lload 7, 2) := by decide +kernel
theorem dX10_meetStretch_46 : decode cX10_meetStretch 46 = .ok (.lload 5, 2) := by decide +kernel
theorem dX10_meetStretch_48 : decode cX10_meetStretch 48 = .ok (.lsub, 1) := by decide +kernel
theorem dX10_meetStretch_49 : decode cX10_meetStretch 49 = .ok (.iload_n 3, 1) := by decide +kernel
theorem dX10_meetStretch_50 : decode cX10_meetStretch 50 = .ok (.i2l, 1) := by decide +kernel
theorem dX10_meetStretch_51 : decode cX10_meetStretch 51 = .ok (.ladd, 1) := by decide +kernel
theorem dX10_meetStretch_52 : decode cX10_meetStretch 52 = .ok (.lstore 9, 2) := by decide +kernel
theorem dX10_meetStretch_54 : decode cX10_meetStretch 54 = .ok (.ldc2_w 49, 3) := by decide +kernel
theorem dX10_meetStretch_57 : decode cX10_meetStretch 57 = .ok (.iload_n 3, 1) := by decide +kernel
theorem dX10_meetStretch_58 : decode cX10_meetStretch 58 = .ok (.i2l, 1) := by decide +kernel
theorem dX10_meetStretch_59 : decode cX10_meetStretch 59 = .ok (.lmul, 1) := by decide +kernel
theorem dX10_meetStretch_60 : decode cX10_meetStretch 60 = .ok (.lload 9, 2) := by decide +kernel
theorem dX10_meetStretch_62 : decode cX10_meetStretch 62 = .ok (.lsub, 1) := by decide +kernel
theorem dX10_meetStretch_63 : decode cX10_meetStretch 63 = .ok (.lstore 11, 2) := by decide +kernel
theorem dX10_meetStretch_65 : decode cX10_meetStretch 65 = .ok (.aload_n 0, 1) := by decide +kernel
theorem dX10_meetStretch_66 : decode cX10_meetStretch 66 = .ok (.dup, 1) := by decide +kernel
theorem dX10_meetStretch_67 : decode cX10_meetStretch 67 = .ok (.getfield 9, 3) := by decide +kernel
theorem dX10_meetStretch_70 : decode cX10_meetStretch 70 = .ok (.iload 4, 2) := by decide +kernel
theorem dX10_meetStretch_72 : decode cX10_meetStretch 72 = .ok (.i2l, 1) := by decide +kernel
theorem dX10_meetStretch_73 : decode cX10_meetStretch 73 = .ok (.ldc2_w 51, 3) := by decide +kernel
theorem dX10_meetStretch_76 : decode cX10_meetStretch 76 = .ok (.lload 5, 2) := by decide +kernel
theorem dX10_meetStretch_78 : decode cX10_meetStretch 78 = .ok (.lmul, 1) := by decide +kernel
theorem dX10_meetStretch_79 : decode cX10_meetStretch 79 = .ok (.lload 9, 2) := by decide +kernel
theorem dX10_meetStretch_81 : decode cX10_meetStretch 81 = .ok (.lmul, 1) := by decide +kernel
theorem dX10_meetStretch_82 : decode cX10_meetStretch 82 = .ok (.lload 9, 2) := by decide +kernel
theorem dX10_meetStretch_84 : decode cX10_meetStretch 84 = .ok (.lload 9, 2) := by decide +kernel
theorem dX10_meetStretch_86 : decode cX10_meetStretch 86 = .ok (.lmul, 1) := by decide +kernel
theorem dX10_meetStretch_87 : decode cX10_meetStretch 87 = .ok (.ladd, 1) := by decide +kernel
theorem dX10_meetStretch_88 : decode cX10_meetStretch 88 = .ok (.ldc2_w 51, 3) := by decide +kernel
theorem dX10_meetStretch_91 : decode cX10_meetStretch 91 = .ok (.lload 7, 2) := by decide +kernel
theorem dX10_meetStretch_93 : decode cX10_meetStretch 93 = .ok (.lmul, 1) := by decide +kernel
theorem dX10_meetStretch_94 : decode cX10_meetStretch 94 = .ok (.lload 11, 2) := by decide +kernel
theorem dX10_meetStretch_96 : decode cX10_meetStretch 96 = .ok (.lmul, 1) := by decide +kernel
theorem dX10_meetStretch_97 : decode cX10_meetStretch 97 = .ok (.ladd, 1) := by decide +kernel
theorem dX10_meetStretch_98 : decode cX10_meetStretch 98 = .ok (.lload 11, 2) := by decide +kernel
theorem dX10_meetStretch_100 : decode cX10_meetStretch 100 = .ok (.lload 11, 2) := by decide +kernel
theorem dX10_meetStretch_102 : decode cX10_meetStretch 102 = .ok (.lmul, 1) := by decide +kernel
theorem dX10_meetStretch_103 : decode cX10_meetStretch 103 = .ok (.ladd, 1) := by decide +kernel
theorem dX10_meetStretch_104 : decode cX10_meetStretch 104 = .ok (.lmul, 1) := by decide +kernel
theorem dX10_meetStretch_105 : decode cX10_meetStretch 105 = .ok (.ladd, 1) := by decide +kernel
theorem dX10_meetStretch_106 : decode cX10_meetStretch 106 = .ok (.putfield 9, 3) := by decide +kernel
theorem dX10_meetStretch_109 : decode cX10_meetStretch 109 = .ok (.return_, 1) := by decide +kernel
theorem dX10_close_0 : decode cX10_close 0 = .ok (.aload_n 0, 1) := by decide +kernel
theorem dX10_close_1 : decode cX10_close 1 = .ok (.getfield 15, 3) := by decide +kernel
theorem dX10_close_4 : decode cX10_close 4 = .ok (.ifCond .eq 10, 3) := by decide +kernel
theorem dX10_close_7 : decode cX10_close 7 = .ok (.aload_n 0, 1) := by decide +kernel
theorem dX10_close_8 : decode cX10_close 8 = .ok (.ldc2_w 19, 3) := by decide +kernel
theorem dX10_close_11 : decode cX10_close 11 = .ok (.putfield 9, 3) := by decide +kernel
theorem dX10_close_14 : decode cX10_close 14 = .ok (.return_, 1) := by decide +kernel
theorem dX10_toSpots_0 : decode cX10_toSpots 0 = .ok (.aload_n 0, 1) := by decide +kernel
theorem dX10_toSpots_1 : decode cX10_toSpots 1 = .ok (.iload_n 2, 1) := by decide +kernel
theorem dX10_toSpots_2 : decode cX10_toSpots 2 = .ok (.iconst (-1), 1) := by decide +kernel
theorem dX10_toSpots_3 : decode cX10_toSpots 3 = .ok (.if_icmp .ne 7, 3) := by decide +kernel
theorem dX10_toSpots_6 : decode cX10_toSpots 6 = .ok (.iconst 1, 1) := by decide +kernel
theorem dX10_toSpots_7 : decode cX10_toSpots 7 = .ok (.goto 4, 3) := by decide +kernel
theorem dX10_toSpots_10 : decode cX10_toSpots 10 = .ok (.iconst 2, 1) := by decide +kernel
theorem dX10_toSpots_11 : decode cX10_toSpots 11 = .ok (.putfield 53, 3) := by decide +kernel
theorem dX10_toSpots_14 : decode cX10_toSpots 14 = .ok (.aload_n 0, 1) := by decide +kernel
theorem dX10_toSpots_15 : decode cX10_toSpots 15 = .ok (.iconst 0, 1) := by decide +kernel
theorem dX10_toSpots_16 : decode cX10_toSpots 16 = .ok (.iload_n 1, 1) := by decide +kernel
theorem dX10_toSpots_17 : decode cX10_toSpots 17 = .ok (.invokevirtual 56, 3) := by decide +kernel
theorem dX10_toSpots_20 : decode cX10_toSpots 20 = .ok (.iload_n 2, 1) := by decide +kernel
theorem dX10_toSpots_21 : decode cX10_toSpots 21 = .ok (.iconst (-1), 1) := by decide +kernel
theorem dX10_toSpots_22 : decode cX10_toSpots 22 = .ok (.if_icmp .eq 9, 3) := by decide +kernel
theorem dX10_toSpots_25 : decode cX10_toSpots 25 = .ok (.aload_n 0, 1) := by decide +kernel
theorem dX10_toSpots_26 : decode cX10_toSpots 26 = .ok (.iconst 1, 1) := by decide +kernel
theorem dX10_toSpots_27 : decode cX10_toSpots 27 = .ok (.iload_n 2, 1) := by decide +kernel
theorem dX10_toSpots_28 : decode cX10_toSpots 28 = .ok (.invokevirtual 56, 3) := by decide +kernel
theorem dX10_toSpots_31 : decode cX10_toSpots 31 = .ok (.aload_n 0, 1) := by decide +kernel
theorem dX10_toSpots_32 : decode cX10_toSpots 32 = .ok (.invokevirtual 60, 3) := by decide +kernel
theorem dX10_toSpots_35 : decode cX10_toSpots 35 = .ok (.aload_n 0, 1) := by decide +kernel
theorem dX10_toSpots_36 : decode cX10_toSpots 36 = .ok (.getfield 9, 3) := by decide +kernel
theorem dX10_toSpots_39 : decode cX10_toSpots 39 = .ok (.lreturn, 1) := by decide +kernel
theorem dX10_toBakers_0 : decode cX10_toBakers 0 = .ok (.aload_n 0, 1) := by decide +kernel
theorem dX10_toBakers_1 : decode cX10_toBakers 1 = .ok (.aload_n 1, 1) := by decide +kernel
theorem dX10_toBakers_2 : decode cX10_toBakers 2 = .ok (.getfield 64, 3) := by decide +kernel
theorem dX10_toBakers_5 : decode cX10_toBakers 5 = .ok (.putfield 53, 3) := by decide +kernel
theorem dX10_toBakers_8 : decode cX10_toBakers 8 = .ok (.iconst 0, 1) := by decide +kernel
theorem dX10_toBakers_9 : decode cX10_toBakers 9 = .ok (.istore_n 2, 1) := by decide +kernel
theorem dX10_toBakers_10 : decode cX10_toBakers 10 = .ok (.iload_n 2, 1) := by decide +kernel
theorem dX10_toBakers_11 : decode cX10_toBakers 11 = .ok (.aload_n 0, 1) := by decide +kernel
theorem dX10_toBakers_12 : decode cX10_toBakers 12 = .ok (.getfield 53, 3) := by decide +kernel
theorem dX10_toBakers_15 : decode cX10_toBakers 15 = .ok (.if_icmp .ge 20, 3) := by decide +kernel
theorem dX10_toBakers_18 : decode cX10_toBakers 18 = .ok (.aload_n 0, 1) := by decide +kernel
theorem dX10_toBakers_19 : decode cX10_toBakers 19 = .ok (.iload_n 2, 1) := by decide +kernel
theorem dX10_toBakers_20 : decode cX10_toBakers 20 = .ok (.aload_n 1, 1) := by decide +kernel
theorem dX10_toBakers_21 : decode cX10_toBakers 21 = .ok (.getfield 67, 3) := by decide +kernel
theorem dX10_toBakers_24 : decode cX10_toBakers 24 = .ok (.iload_n 2, 1) := by decide +kernel
theorem dX10_toBakers_25 : decode cX10_toBakers 25 = .ok (.iaload, 1) := by decide +kernel
theorem dX10_toBakers_26 : decode cX10_toBakers 26 = .ok (.invokevirtual 56, 3) := by decide +kernel
theorem dX10_toBakers_29 : decode cX10_toBakers 29 = .ok (.iinc 2 1, 3) := by decide +kernel
theorem dX10_toBakers_32 : decode cX10_toBakers 32 = .ok (.goto (-22), 3) := by decide +kernel
theorem dX10_toBakers_35 : decode cX10_toBakers 35 = .ok (.aload_n 0, 1) := by decide +kernel
theorem dX10_toBakers_36 : decode cX10_toBakers 36 = .ok (.invokevirtual 60, 3) := by decide +kernel
theorem dX10_toBakers_39 : decode cX10_toBakers 39 = .ok (.aload_n 0, 1) := by decide +kernel
theorem dX10_toBakers_40 : decode cX10_toBakers 40 = .ok (.getfield 9, 3) := by decide +kernel
theorem dX10_toBakers_43 : decode cX10_toBakers 43 = .ok (.lreturn, 1) := by decide +kernel
theorem dX10_findOwn_0 : decode cX10_findOwn 0 = .ok (.aload_n 0, 1) := by decide +kernel
theorem dX10_findOwn_1 : decode cX10_findOwn 1 = .ok (.ldc2_w 19, 3) := by decide +kernel
theorem dX10_findOwn_4 : decode cX10_findOwn 4 = .ok (.putfield 21, 3) := by decide +kernel
theorem dX10_findOwn_7 : decode cX10_findOwn 7 = .ok (.aload_n 0, 1) := by decide +kernel
theorem dX10_findOwn_8 : decode cX10_findOwn 8 = .ok (.iconst (-1), 1) := by decide +kernel
theorem dX10_findOwn_9 : decode cX10_findOwn 9 = .ok (.putfield 24, 3) := by decide +kernel
theorem dX10_findOwn_12 : decode cX10_findOwn 12 = .ok (.aload_n 0, 1) := by decide +kernel
theorem dX10_findOwn_13 : decode cX10_findOwn 13 = .ok (.iconst (-1), 1) := by decide +kernel
theorem dX10_findOwn_14 : decode cX10_findOwn 14 = .ok (.putfield 28, 3) := by decide +kernel
theorem dX10_findOwn_17 : decode cX10_findOwn 17 = .ok (.iconst 0, 1) := by decide +kernel
theorem dX10_findOwn_18 : decode cX10_findOwn 18 = .ok (.istore_n 2, 1) := by decide +kernel
theorem dX10_findOwn_19 : decode cX10_findOwn 19 = .ok (.iload_n 2, 1) := by decide +kernel
theorem dX10_findOwn_20 : decode cX10_findOwn 20 = .ok (.aload_n 0, 1) := by decide +kernel
theorem dX10_findOwn_21 : decode cX10_findOwn 21 = .ok (.getfield 31, 3) := by decide +kernel
theorem dX10_findOwn_24 : decode cX10_findOwn 24 = .ok (.getfield 70, 3) := by decide +kernel
theorem dX10_findOwn_27 : decode cX10_findOwn 27 = .ok (.if_icmp .ge 52, 3) := by decide +kernel
theorem dX10_findOwn_30 : decode cX10_findOwn 30 = .ok (.iload_n 1, 1) := by decide +kernel
theorem dX10_findOwn_31 : decode cX10_findOwn 31 = .ok (.iconst 1, 1) := by decide +kernel
theorem dX10_findOwn_32 : decode cX10_findOwn 32 = .ok (.if_icmp .ne 9, 3) := by decide +kernel
theorem dX10_findOwn_35 : decode cX10_findOwn 35 = .ok (.aload_n 0, 1) := by decide +kernel
theorem dX10_findOwn_36 : decode cX10_findOwn 36 = .ok (.iload_n 2, 1) := by decide +kernel
theorem dX10_findOwn_37 : decode cX10_findOwn 37 = .ok (.iconst (-1), 1) := by decide +kernel
theorem dX10_findOwn_38 : decode cX10_findOwn 38 = .ok (.invokevirtual 73, 3) := by decide +kernel
theorem dX10_findOwn_41 : decode cX10_findOwn 41 = .ok (.iload_n 2, 1) := by decide +kernel
theorem dX10_findOwn_42 : decode cX10_findOwn 42 = .ok (.iconst 1, 1) := by decide +kernel
theorem dX10_findOwn_43 : decode cX10_findOwn 43 = .ok (.iadd, 1) := by decide +kernel
theorem dX10_findOwn_44 : decode cX10_findOwn 44 = .ok (.istore_n 3, 1) := by decide +kernel
theorem dX10_findOwn_45 : decode cX10_findOwn 45 = .ok (.iload_n 1, 1) := by decide +kernel
theorem dX10_findOwn_46 : decode cX10_findOwn 46 = .ok (.iconst 2, 1) := by decide +kernel
theorem dX10_findOwn_47 : decode cX10_findOwn 47 = .ok (.if_icmp .ne 26, 3) := by decide +kernel
theorem dX10_findOwn_50 : decode cX10_findOwn 50 = .ok (.iload_n 3, 1) := by decide +kernel
theorem dX10_findOwn_51 : decode cX10_findOwn 51 = .ok (.aload_n 0, 1) := by decide +kernel
theorem dX10_findOwn_52 : decode cX10_findOwn 52 = .ok (.getfield 31, 3) := by decide +kernel
theorem dX10_findOwn_55 : decode cX10_findOwn 55 = .ok (.getfield 70, 3) := by decide +kernel
theorem dX10_findOwn_58 : decode cX10_findOwn 58 = .ok (.if_icmp .ge 15, 3) := by decide +kernel
theorem dX10_findOwn_61 : decode cX10_findOwn 61 = .ok (.aload_n 0, 1) := by decide +kernel
theorem dX10_findOwn_62 : decode cX10_findOwn 62 = .ok (.iload_n 2, 1) := by decide +kernel
theorem dX10_findOwn_63 : decode cX10_findOwn 63 = .ok (.iload_n 3, 1) := by decide +kernel
theorem dX10_findOwn_64 : decode cX10_findOwn 64 = .ok (.invokevirtual 73, 3) := by decide +kernel
theorem dX10_findOwn_67 : decode cX10_findOwn 67 = .ok (.iinc 3 1, 3) := by decide +kernel
theorem dX10_findOwn_70 : decode cX10_findOwn 70 = .ok (.goto (-25), 3) := by decide +kernel
theorem dX10_findOwn_73 : decode cX10_findOwn 73 = .ok (.iinc 2 1, 3) := by decide +kernel
theorem dX10_findOwn_76 : decode cX10_findOwn 76 = .ok (.goto (-57), 3) := by decide +kernel
theorem dX10_findOwn_79 : decode cX10_findOwn 79 = .ok (.return_, 1) := by decide +kernel
theorem dX10_noteOwn_0 : decode cX10_noteOwn 0 = .ok (.aload_n 0, 1) := by decide +kernel
theorem dX10_noteOwn_1 : decode cX10_noteOwn 1 = .ok (.iload_n 1, 1) := by decide +kernel
theorem dX10_noteOwn_2 : decode cX10_noteOwn 2 = .ok (.iload_n 2, 1) := by decide +kernel
theorem dX10_noteOwn_3 : decode cX10_noteOwn 3 = .ok (.invokevirtual 76, 3) := by decide +kernel
theorem dX10_noteOwn_6 : decode cX10_noteOwn 6 = .ok (.lstore_n 3, 1) := by decide +kernel
theorem dX10_noteOwn_7 : decode cX10_noteOwn 7 = .ok (.lload_n 3, 1) := by decide +kernel
theorem dX10_noteOwn_8 : decode cX10_noteOwn 8 = .ok (.ldc2_w 19, 3) := by decide +kernel
theorem dX10_noteOwn_11 : decode cX10_noteOwn 11 = .ok (.lcmp, 1) := by decide +kernel
theorem dX10_noteOwn_12 : decode cX10_noteOwn 12 = .ok (.ifCond .eq 38, 3) := by decide +kernel
theorem dX10_noteOwn_15 : decode cX10_noteOwn 15 = .ok (.aload_n 0, 1) := by decide +kernel
theorem dX10_noteOwn_16 : decode cX10_noteOwn 16 = .ok (.getfield 21, 3) := by decide +kernel
theorem dX10_noteOwn_19 : decode cX10_noteOwn 19 = .ok (.ldc2_w 19, 3) := by decide +kernel
theorem dX10_noteOwn_22 : decode cX10_noteOwn 22 = .ok (.lcmp, 1) := by decide +kernel
theorem dX10_noteOwn_23 : decode cX10_noteOwn 23 = .ok (.ifCond .eq 12, 3) := by decide +kernel
theorem dX10_noteOwn_26 : decode cX10_noteOwn 26 = .ok (.lload_n 3, 1) := by decide +kernel
theorem dX10_noteOwn_27 : decode cX10_noteOwn 27 = .ok (.aload_n 0, 1) := by decide +kernel
theorem dX10_noteOwn_28 : decode cX10_noteOwn 28 = .ok (.getfield 21, 3) := by decide +kernel
theorem dX10_noteOwn_31 : decode cX10_noteOwn 31 = .ok (.lcmp, 1) := by decide +kernel
theorem dX10_noteOwn_32 : decode cX10_noteOwn 32 = .ok (.ifCond .ge 18, 3) := by decide +kernel
theorem dX10_noteOwn_35 : decode cX10_noteOwn 35 = .ok (.aload_n 0, 1) := by decide +kernel
theorem dX10_noteOwn_36 : decode cX10_noteOwn 36 = .ok (.lload_n 3, 1) := by decide +kernel
theorem dX10_noteOwn_37 : decode cX10_noteOwn 37 = .ok (.putfield 21, 3) := by decide +kernel
theorem dX10_noteOwn_40 : decode cX10_noteOwn 40 = .ok (.aload_n 0, 1) := by decide +kernel
theorem dX10_noteOwn_41 : decode cX10_noteOwn 41 = .ok (.iload_n 1, 1) := by decide +kernel
theorem dX10_noteOwn_42 : decode cX10_noteOwn 42 = .ok (.putfield 24, 3) := by decide +kernel
theorem dX10_noteOwn_45 : decode cX10_noteOwn 45 = .ok (.aload_n 0, 1) := by decide +kernel
theorem dX10_noteOwn_46 : decode cX10_noteOwn 46 = .ok (.iload_n 2, 1) := by decide +kernel
theorem dX10_noteOwn_47 : decode cX10_noteOwn 47 = .ok (.putfield 28, 3) := by decide +kernel
theorem dX10_noteOwn_50 : decode cX10_noteOwn 50 = .ok (.return_, 1) := by decide +kernel
theorem dX6_init_0 : decode cX6_init 0 = .ok (.aload_n 0, 1) := by decide +kernel
theorem dX6_init_1 : decode cX6_init 1 = .ok (.invokespecial 3, 3) := by decide +kernel
theorem dX6_init_4 : decode cX6_init 4 = .ok (.aload_n 0, 1) := by decide +kernel
theorem dX6_init_5 : decode cX6_init 5 = .ok (.sipush 900, 3) := by decide +kernel
theorem dX6_init_8 : decode cX6_init 8 = .ok (.newarray .int, 2) := by decide +kernel
theorem dX6_init_10 : decode cX6_init 10 = .ok (.putfield 9, 3) := by decide +kernel
theorem dX6_init_13 : decode cX6_init 13 = .ok (.aload_n 0, 1) := by decide +kernel
theorem dX6_init_14 : decode cX6_init 14 = .ok (.iconst 0, 1) := by decide +kernel
theorem dX6_init_15 : decode cX6_init 15 = .ok (.putfield 15, 3) := by decide +kernel
theorem dX6_init_18 : decode cX6_init 18 = .ok (.aload_n 0, 1) := by decide +kernel
theorem dX6_init_19 : decode cX6_init 19 = .ok (.iconst 0, 1) := by decide +kernel
theorem dX6_init_20 : decode cX6_init 20 = .ok (.putfield 19, 3) := by decide +kernel
theorem dX6_init_23 : decode cX6_init 23 = .ok (.aload_n 0, 1) := by decide +kernel
theorem dX6_init_24 : decode cX6_init 24 = .ok (.iconst 0, 1) := by decide +kernel
theorem dX6_init_25 : decode cX6_init 25 = .ok (.putfield 22, 3) := by decide +kernel
theorem dX6_init_28 : decode cX6_init 28 = .ok (.aload_n 0, 1) := by decide +kernel
theorem dX6_init_29 : decode cX6_init 29 = .ok (.iconst 0, 1) := by decide +kernel
theorem dX6_init_30 : decode cX6_init 30 = .ok (.putfield 25, 3) := by decide +kernel
theorem dX6_init_33 : decode cX6_init 33 = .ok (.aload_n 0, 1) := by decide +kernel
theorem dX6_init_34 : decode cX6_init 34 = .ok (.iconst 0, 1) := by decide +kernel
theorem dX6_init_35 : decode cX6_init 35 = .ok (.putfield 28, 3) := by decide +kernel
theorem dX6_init_38 : decode cX6_init 38 = .ok (.aload_n 0, 1) := by decide +kernel
theorem dX6_init_39 : decode cX6_init 39 = .ok (.iconst 0, 1) := by decide +kernel
theorem dX6_init_40 : decode cX6_init 40 = .ok (.putfield 31, 3) := by decide +kernel
theorem dX6_init_43 : decode cX6_init 43 = .ok (.return_, 1) := by decide +kernel
theorem dX6_append_0 : decode cX6_append 0 = .ok (.bipush 24, 2) := by decide +kernel
theorem dX6_append_2 : decode cX6_append 2 = .ok (.istore_n 2, 1) := by decide +kernel
theorem dX6_append_3 : decode cX6_append 3 = .ok (.iload_n 2, 1) := by decide +kernel
theorem dX6_append_4 : decode cX6_append 4 = .ok (.ifCond .lt 45, 3) := by decide +kernel
theorem dX6_append_7 : decode cX6_append 7 = .ok (.aload_n 0, 1) := by decide +kernel
theorem dX6_append_8 : decode cX6_append 8 = .ok (.getfield 15, 3) := by decide +kernel
theorem dX6_append_11 : decode cX6_append 11 = .ok (.sipush 900, 3) := by decide +kernel
theorem dX6_append_14 : decode cX6_append 14 = .ok (.if_icmp .ge 35, 3) := by decide +kernel
theorem dX6_append_17 : decode cX6_append 17 = .ok (.aload_n 0, 1) := by decide +kernel
theorem dX6_append_18 : decode cX6_append 18 = .ok (.getfield 9, 3) := by decide +kernel
theorem dX6_append_21 : decode cX6_append 21 = .ok (.aload_n 0, 1) := by decide +kernel
theorem dX6_append_22 : decode cX6_append 22 = .ok (.getfield 15, 3) := by decide +kernel
theorem dX6_append_25 : decode cX6_append 25 = .ok (.iload_n 1, 1) := by decide +kernel
theorem dX6_append_26 : decode cX6_append 26 = .ok (.iload_n 2, 1) := by decide +kernel
theorem dX6_append_27 : decode cX6_append 27 = .ok (.iushr, 1) := by decide +kernel
theorem dX6_append_28 : decode cX6_append 28 = .ok (.sipush 255, 3) := by decide +kernel
theorem dX6_append_31 : decode cX6_append 31 = .ok (.iand, 1) := by decide +kernel
theorem dX6_append_32 : decode cX6_append 32 = .ok (.iastore, 1) := by decide +kernel
theorem dX6_append_33 : decode cX6_append 33 = .ok (.aload_n 0, 1) := by decide +kernel
theorem dX6_append_34 : decode cX6_append 34 = .ok (.dup, 1) := by decide +kernel
theorem dX6_append_35 : decode cX6_append 35 = .ok (.getfield 15, 3) := by decide +kernel
theorem dX6_append_38 : decode cX6_append 38 = .ok (.iconst 1, 1) := by decide +kernel
theorem dX6_append_39 : decode cX6_append 39 = .ok (.iadd, 1) := by decide +kernel
theorem dX6_append_40 : decode cX6_append 40 = .ok (.putfield 15, 3) := by decide +kernel
theorem dX6_append_43 : decode cX6_append 43 = .ok (.iinc 2 (-8), 3) := by decide +kernel
theorem dX6_append_46 : decode cX6_append 46 = .ok (.goto (-43), 3) := by decide +kernel
theorem dX6_append_49 : decode cX6_append 49 = .ok (.return_, 1) := by decide +kernel
theorem dX6_readTown_0 : decode cX6_readTown 0 = .ok (.aload_n 0, 1) := by decide +kernel
theorem dX6_readTown_1 : decode cX6_readTown 1 = .ok (.iload_n 1, 1) := by decide +kernel
theorem dX6_readTown_2 : decode cX6_readTown 2 = .ok (.invokevirtual 34, 3) := by decide +kernel
theorem dX6_readTown_5 : decode cX6_readTown 5 = .ok (.aload_n 2, 1) := by decide +kernel
theorem dX6_readTown_6 : decode cX6_readTown 6 = .ok (.invokevirtual 38, 3) := by decide +kernel
theorem dX6_readTown_9 : decode cX6_readTown 9 = .ok (.iconst 0, 1) := by decide +kernel
theorem dX6_readTown_10 : decode cX6_readTown 10 = .ok (.istore_n 3, 1) := by decide +kernel
theorem dX6_readTown_11 : decode cX6_readTown 11 = .ok (.iload_n 3, 1) := by decide +kernel
theorem dX6_readTown_12 : decode cX6_readTown 12 = .ok (.bipush 40, 2) := by decide +kernel
theorem dX6_readTown_14 : decode cX6_readTown 14 = .ok (.if_icmp .gt 55, 3) := by decide +kernel
theorem dX6_readTown_17 : decode cX6_readTown 17 = .ok (.aload_n 0, 1) := by decide +kernel
theorem dX6_readTown_18 : decode cX6_readTown 18 = .ok (.getfield 25, 3) := by decide +kernel
theorem dX6_readTown_21 : decode cX6_readTown 21 = .ok (.ifCond .ne 16, 3) := by decide +kernel
theorem dX6_readTown_24 : decode cX6_readTown 24 = .ok (.aload_n 2, 1) := by decide +kernel
theorem dX6_readTown_25 : decode cX6_readTown 25 = .ok (.getfield 43, 3) := by decide +kernel
theorem dX6_readTown_28 : decode cX6_readTown 28 = .ok (.ifCond .le 7, 3) := by decide +kernel
theorem dX6_readTown_31 : decode cX6_readTown 31 = .ok (.iconst 1, 1) := by decide +kernel
theorem dX6_readTown_32 : decode cX6_readTown 32 = .ok (.goto 4, 3) := by decide +kernel
theorem dX6_readTown_35 : decode cX6_readTown 35 = .ok (.iconst 0, 1) := by decide +kernel
theorem dX6_readTown_36 : decode cX6_readTown 36 = .ok (.ireturn, 1) := by decide +kernel
theorem dX6_readTown_37 : decode cX6_readTown 37 = .ok (.iload_n 3, 1) := by decide +kernel
theorem dX6_readTown_38 : decode cX6_readTown 38 = .ok (.bipush 40, 2) := by decide +kernel
theorem dX6_readTown_40 : decode cX6_readTown 40 = .ok (.if_icmp .eq 11, 3) := by decide +kernel
theorem dX6_readTown_43 : decode cX6_readTown 43 = .ok (.aload_n 0, 1) := by decide +kernel
theorem dX6_readTown_44 : decode cX6_readTown 44 = .ok (.aload_n 2, 1) := by decide +kernel
theorem dX6_readTown_45 : decode cX6_readTown 45 = .ok (.invokevirtual 46, 3) := by decide +kernel
theorem dX6_readTown_48 : decode cX6_readTown 48 = .ok (.ifCond .ne 5, 3) := by decide +kernel
theorem dX6_readTown_51 : decode cX6_readTown 51 = .ok (.iconst 0, 1) := by decide +kernel
theorem dX6_readTown_52 : decode cX6_readTown 52 = .ok (.ireturn, 1) := by decide +kernel
theorem dX6_readTown_53 : decode cX6_readTown 53 = .ok (.aload_n 2, 1) := by decide +kernel
theorem dX6_readTown_54 : decode cX6_readTown 54 = .ok (.dup, 1) := by decide +kernel
theorem dX6_readTown_55 : decode cX6_readTown 55 = .ok (.getfield 50, 3) := by decide +kernel
theorem dX6_readTown_58 : decode cX6_readTown 58 = .ok (.iconst 1, 1) := by decide +kernel
theorem dX6_readTown_59 : decode cX6_readTown 59 = .ok (.iadd, 1) := by decide +kernel
theorem dX6_readTown_60 : decode cX6_readTown 60 = .ok (.putfield 50, 3) := by decide +kernel
theorem dX6_readTown_63 : decode cX6_readTown 63 = .ok (.iinc 3 1, 3) := by decide +kernel
theorem dX6_readTown_66 : decode cX6_readTown 66 = .ok (.goto (-55), 3) := by decide +kernel
theorem dX6_readTown_69 : decode cX6_readTown 69 = .ok (.iconst 0, 1) := by decide +kernel
theorem dX6_readTown_70 : decode cX6_readTown 70 = .ok (.ireturn, 1) := by decide +kernel
theorem dX6_readLaw_0 : decode cX6_readLaw 0 = .ok (.aload_n 0, 1) := by decide +kernel
theorem dX6_readLaw_1 : decode cX6_readLaw 1 = .ok (.iload_n 1, 1) := by decide +kernel
theorem dX6_readLaw_2 : decode cX6_readLaw 2 = .ok (.invokevirtual 34, 3) := by decide +kernel
theorem dX6_readLaw_5 : decode cX6_readLaw 5 = .ok (.aload_n 3, 1) := by decide +kernel
theorem dX6_readLaw_6 : decode cX6_readLaw 6 = .ok (.invokevirtual 53, 3) := by decide +kernel
theorem dX6_readLaw_9 : decode cX6_readLaw 9 = .ok (.iconst 0, 1) := by decide +kernel
theorem dX6_readLaw_10 : decode cX6_readLaw 10 = .ok (.istore 4, 2) := by decide +kernel
theorem dX6_readLaw_12 : decode cX6_readLaw 12 = .ok (.iconst 0, 1) := by decide +kernel
theorem dX6_readLaw_13 : decode cX6_readLaw 13 = .ok (.istore 5, 2) := by decide +kernel
theorem dX6_readLaw_15 : decode cX6_readLaw 15 = .ok (.iload 5, 2) := by decide +kernel
theorem dX6_readLaw_17 : decode cX6_readLaw 17 = .ok (.bipush 12, 2) := by decide +kernel
theorem dX6_readLaw_19 : decode cX6_readLaw 19 = .ok (.if_icmp .gt 73, 3) := by decide +kernel
theorem dX6_readLaw_22 : decode cX6_readLaw 22 = .ok (.aload_n 0, 1) := by decide +kernel
theorem dX6_readLaw_23 : decode cX6_readLaw 23 = .ok (.getfield 25, 3) := by decide +kernel
theorem dX6_readLaw_26 : decode cX6_readLaw 26 = .ok (.ifCond .ne 5, 3) := by decide +kernel
theorem dX6_readLaw_29 : decode cX6_readLaw 29 = .ok (.iconst 1, 1) := by decide +kernel
theorem dX6_readLaw_30 : decode cX6_readLaw 30 = .ok (.ireturn, 1) := by decide +kernel
theorem dX6_readLaw_31 : decode cX6_readLaw 31 = .ok (.iload 5, 2) := by decide +kernel
theorem dX6_readLaw_33 : decode cX6_readLaw 33 = .ok (.bipush 12, 2) := by decide +kernel
theorem dX6_readLaw_35 : decode cX6_readLaw 35 = .ok (.if_icmp .ne 5, 3) := by decide +kernel
theorem dX6_readLaw_38 : decode cX6_readLaw 38 = .ok (.iconst 0, 1) := by decide +kernel
theorem dX6_readLaw_39 : decode cX6_readLaw 39 = .ok (.ireturn, 1) := by decide +kernel
theorem dX6_readLaw_40 : decode cX6_readLaw 40 = .ok (.aload_n 0, 1) := by decide +kernel
theorem dX6_readLaw_41 : decode cX6_readLaw 41 = .ok (.ldc 58, 2) := by decide +kernel
theorem dX6_readLaw_43 : decode cX6_readLaw 43 = .ok (.invokevirtual 60, 3) := by decide +kernel
theorem dX6_readLaw_46 : decode cX6_readLaw 46 = .ok (.istore 6, 2) := by decide +kernel
theorem dX6_readLaw_48 : decode cX6_readLaw 48 = .ok (.aload_n 0, 1) := by decide +kernel
theorem dX6_readLaw_49 : decode cX6_readLaw 49 = .ok (.aload_n 2, 1) := by decide +kernel
theorem dX6_readLaw_50 : decode cX6_readLaw 50 = .ok (.aload_n 3, 1) := by decide +kernel
theorem dX6_readLaw_51 : decode cX6_readLaw 51 = .ok (.iload 4, 2) := by decide +kernel
theorem dX6_readLaw_53 : decode cX6_readLaw 53 = .ok (.bipush 8, 2) := by decide +kernel
theorem dX6_readLaw_55 : decode cX6_readLaw 55 = .ok (.if_icmp .ge 7, 3) := by decide +kernel
theorem dX6_readLaw_58 : decode cX6_readLaw 58 = .ok (.iconst 1, 1) := by decide +kernel
theorem dX6_readLaw_59 : decode cX6_readLaw 59 = .ok (.goto 4, 3) := by decide +kernel
theorem dX6_readLaw_62 : decode cX6_readLaw 62 = .ok (.iconst 0, 1) := by decide +kernel
theorem dX6_readLaw_63 : decode cX6_readLaw 63 = .ok (.invokevirtual 64, 3) := by decide +kernel
theorem dX6_readLaw_66 : decode cX6_readLaw 66 = .ok (.ifCond .ne 5, 3) := by decide +kernel
theorem dX6_readLaw_69 : decode cX6_readLaw 69 = .ok (.iconst 0, 1) := by decide +kernel
theorem dX6_readLaw_70 : decode cX6_readLaw 70 = .ok (.ireturn, 1) := by decide +kernel
theorem dX6_readLaw_71 : decode cX6_readLaw 71 = .ok (.iload 4, 2) := by decide +kernel
theorem dX6_readLaw_73 : decode cX6_readLaw 73 = .ok (.iload 6, 2) := by decide +kernel
theorem dX6_readLaw_75 : decode cX6_readLaw 75 = .ok (.ifCond .eq 7, 3) := by decide +kernel
theorem dX6_readLaw_78 : decode cX6_readLaw 78 = .ok (.iconst 1, 1) := by decide +kernel
theorem dX6_readLaw_79 : decode cX6_readLaw 79 = .ok (.goto 4, 3) := by decide +kernel
theorem dX6_readLaw_82 : decode cX6_readLaw 82 = .ok (.iconst 0, 1) := by decide +kernel
theorem dX6_readLaw_83 : decode cX6_readLaw 83 = .ok (.iadd, 1) := by decide +kernel
theorem dX6_readLaw_84 : decode cX6_readLaw 84 = .ok (.istore 4, 2) := by decide +kernel
theorem dX6_readLaw_86 : decode cX6_readLaw 86 = .ok (.iinc 5 1, 3) := by decide +kernel
theorem dX6_readLaw_89 : decode cX6_readLaw 89 = .ok (.goto (-74), 3) := by decide +kernel
theorem dX6_readLaw_92 : decode cX6_readLaw 92 = .ok (.iconst 0, 1) := by decide +kernel
theorem dX6_readLaw_93 : decode cX6_readLaw 93 = .ok (.ireturn, 1) := by decide +kernel
theorem dX6_begin_0 : decode cX6_begin 0 = .ok (.aload_n 0, 1) := by decide +kernel
theorem dX6_begin_1 : decode cX6_begin 1 = .ok (.iload_n 1, 1) := by decide +kernel
theorem dX6_begin_2 : decode cX6_begin 2 = .ok (.aload_n 0, 1) := by decide +kernel
theorem dX6_begin_3 : decode cX6_begin 3 = .ok (.getfield 15, 3) := by decide +kernel
theorem dX6_begin_6 : decode cX6_begin 6 = .ok (.invokestatic 68, 3) := by decide +kernel
theorem dX6_begin_9 : decode cX6_begin 9 = .ok (.putfield 19, 3) := by decide +kernel
theorem dX6_begin_12 : decode cX6_begin 12 = .ok (.aload_n 0, 1) := by decide +kernel
theorem dX6_begin_13 : decode cX6_begin 13 = .ok (.iconst 0, 1) := by decide +kernel
theorem dX6_begin_14 : decode cX6_begin 14 = .ok (.putfield 22, 3) := by decide +kernel
theorem dX6_begin_17 : decode cX6_begin 17 = .ok (.aload_n 0, 1) := by decide +kernel
theorem dX6_begin_18 : decode cX6_begin 18 = .ok (.invokevirtual 74, 3) := by decide +kernel
theorem dX6_begin_21 : decode cX6_begin 21 = .ok (.return_, 1) := by decide +kernel
theorem dX6_advance_0 : decode cX6_advance 0 = .ok (.aload_n 0, 1) := by decide +kernel
theorem dX6_advance_1 : decode cX6_advance 1 = .ok (.getfield 22, 3) := by decide +kernel
theorem dX6_advance_4 : decode cX6_advance 4 = .ok (.aload_n 0, 1) := by decide +kernel
theorem dX6_advance_5 : decode cX6_advance 5 = .ok (.getfield 19, 3) := by decide +kernel
theorem dX6_advance_8 : decode cX6_advance 8 = .ok (.if_icmp .ge 44, 3) := by decide +kernel
theorem dX6_advance_11 : decode cX6_advance 11 = .ok (.aload_n 0, 1) := by decide +kernel
theorem dX6_advance_12 : decode cX6_advance 12 = .ok (.getfield 9, 3) := by decide +kernel
theorem dX6_advance_15 : decode cX6_advance 15 = .ok (.aload_n 0, 1) := by decide +kernel
theorem dX6_advance_16 : decode cX6_advance 16 = .ok (.getfield 22, 3) := by decide +kernel
theorem dX6_advance_19 : decode cX6_advance 19 = .ok (.iaload, 1) := by decide +kernel
theorem dX6_advance_20 : decode cX6_advance 20 = .ok (.bipush 32, 2) := by decide +kernel
theorem dX6_advance_22 : decode cX6_advance 22 = .ok (.if_icmp .eq 17, 3) := by decide +kernel
theorem dX6_advance_25 : decode cX6_advance 25 = .ok (.aload_n 0, 1) := by decide +kernel
theorem dX6_advance_26 : decode cX6_advance 26 = .ok (.getfield 9, 3) := by decide +kernel
theorem dX6_advance_29 : decode cX6_advance 29 = .ok (.aload_n 0, 1) := by decide +kernel
theorem dX6_advance_30 : decode cX6_advance 30 = .ok (.getfield 22, 3) := by decide +kernel
theorem dX6_advance_33 : decode cX6_advance 33 = .ok (.iaload, 1) := by decide +kernel
theorem dX6_advance_34 : decode cX6_advance 34 = .ok (.bipush 10, 2) := by decide +kernel
theorem dX6_advance_36 : decode cX6_advance 36 = .ok (.if_icmp .ne 16, 3) := by decide +kernel
theorem dX6_advance_39 : decode cX6_advance 39 = .ok (.aload_n 0, 1) := by decide +kernel
theorem dX6_advance_40 : decode cX6_advance 40 = .ok (.dup, 1) := by decide +kernel
theorem dX6_advance_41 : decode cX6_advance 41 = .ok (.getfield 22, 3) := by decide +kernel
theorem dX6_advance_44 : decode cX6_advance 44 = .ok (.iconst 1, 1) := by decide +kernel
theorem dX6_advance_45 : decode cX6_advance 45 = .ok (.iadd, 1) := by decide +kernel
theorem dX6_advance_46 : decode cX6_advance 46 = .ok (.putfield 22, 3) := by decide +kernel
theorem dX6_advance_49 : decode cX6_advance 49 = .ok (.goto (-49), 3) := by decide +kernel
theorem dX6_advance_52 : decode cX6_advance 52 = .ok (.aload_n 0, 1) := by decide +kernel
theorem dX6_advance_53 : decode cX6_advance 53 = .ok (.aload_n 0, 1) := by decide +kernel
theorem dX6_advance_54 : decode cX6_advance 54 = .ok (.getfield 22, 3) := by decide +kernel
theorem dX6_advance_57 : decode cX6_advance 57 = .ok (.putfield 28, 3) := by decide +kernel
theorem dX6_advance_60 : decode cX6_advance 60 = .ok (.aload_n 0, 1) := by decide +kernel
theorem dX6_advance_61 : decode cX6_advance 61 = .ok (.getfield 22, 3) := by decide +kernel
theorem dX6_advance_64 : decode cX6_advance 64 = .ok (.aload_n 0, 1) := by decide +kernel
theorem dX6_advance_65 : decode cX6_advance 65 = .ok (.getfield 19, 3) := by decide +kernel
theorem dX6_advance_68 : decode cX6_advance 68 = .ok (.if_icmp .lt 9, 3) := by decide +kernel
theorem dX6_advance_71 : decode cX6_advance 71 = .ok (.aload_n 0, 1) := by decide +kernel
theorem dX6_advance_72 : decode cX6_advance 72 = .ok (.iconst 0, 1) := by decide +kernel
theorem dX6_advance_73 : decode cX6_advance 73 = .ok (.putfield 25, 3) := by decide +kernel
theorem dX6_advance_76 : decode cX6_advance 76 = .ok (.return_, 1) := by decide +kernel
theorem dX6_advance_77 : decode cX6_advance 77 = .ok (.aload_n 0, 1) := by decide +kernel
theorem dX6_advance_78 : decode cX6_advance 78 = .ok (.getfield 9, 3) := by decide +kernel
theorem dX6_advance_81 : decode cX6_advance 81 = .ok (.aload_n 0, 1) := by decide +kernel
theorem dX6_advance_82 : decode cX6_advance 82 = .ok (.getfield 22, 3) := by decide +kernel
theorem dX6_advance_85 : decode cX6_advance 85 = .ok (.iaload, 1) := by decide +kernel
theorem dX6_advance_86 : decode cX6_advance 86 = .ok (.istore_n 1, 1) := by decide +kernel
theorem dX6_advance_87 : decode cX6_advance 87 = .ok (.aload_n 0, 1) := by decide +kernel
theorem dX6_advance_88 : decode cX6_advance 88 = .ok (.dup, 1) := by decide +kernel
theorem dX6_advance_89 : decode cX6_advance 89 = .ok (.getfield 22, 3) := by decide +kernel
theorem dX6_advance_92 : decode cX6_advance 92 = .ok (.iconst 1, 1) := by decide +kernel
theorem dX6_advance_93 : decode cX6_advance 93 = .ok (.iadd, 1) := by decide +kernel
theorem dX6_advance_94 : decode cX6_advance 94 = .ok (.putfield 22, 3) := by decide +kernel
theorem dX6_advance_97 : decode cX6_advance 97 = .ok (.iload_n 1, 1) := by decide +kernel
theorem dX6_advance_98 : decode cX6_advance 98 = .ok (.invokestatic 77, 3) := by decide +kernel
theorem dX6_advance_101 : decode cX6_advance 101 = .ok (.ifCond .eq 47, 3) := by decide +kernel
theorem dX6_advance_104 : decode cX6_advance 104 = .ok (.aload_n 0, 1) := by decide +kernel
theorem dX6_advance_105 : decode cX6_advance 105 = .ok (.iconst 1, 1) := by decide +kernel
theorem dX6_advance_106 : decode cX6_advance 106 = .ok (.putfield 25, 3) := by decide +kernel
theorem dX6_advance_109 : decode cX6_advance 109 = .ok (.aload_n 0, 1) := by decide +kernel
theorem dX6_advance_110 : decode cX6_advance 110 = .ok (.getfield 22, 3) := by decide +kernel
theorem dX6_advance_113 : decode cX6_advance 113 = .ok (.aload_n 0, 1) := by decide +kernel
theorem dX6_advance_114 : decode cX6_advance 114 = .ok (.getfield 19, 3) := by decide +kernel
theorem dX6_advance_117 : decode cX6_advance 117 = .ok (.if_icmp .ge 97, 3) := by decide +kernel
theorem dX6_advance_120 : decode cX6_advance 120 = .ok (.aload_n 0, 1) := by decide +kernel
theorem dX6_advance_121 : decode cX6_advance 121 = .ok (.getfield 9, 3) := by decide +kernel
theorem dX6_advance_124 : decode cX6_advance 124 = .ok (.aload_n 0, 1) := by decide +kernel
theorem dX6_advance_125 : decode cX6_advance 125 = .ok (.getfield 22, 3) := by decide +kernel
theorem dX6_advance_128 : decode cX6_advance 128 = .ok (.iaload, 1) := by decide +kernel
theorem dX6_advance_129 : decode cX6_advance 129 = .ok (.invokestatic 77, 3) := by decide +kernel
theorem dX6_advance_132 : decode cX6_advance 132 = .ok (.ifCond .eq 82, 3) := by decide +kernel
theorem dX6_advance_135 : decode cX6_advance 135 = .ok (.aload_n 0, 1) := by decide +kernel
theorem dX6_advance_136 : decode cX6_advance 136 = .ok (.dup, 1) := by decide +kernel
theorem dX6_advance_137 : decode cX6_advance 137 = .ok (.getfield 22, 3) := by decide +kernel
theorem dX6_advance_140 : decode cX6_advance 140 = .ok (.iconst 1, 1) := by decide +kernel
theorem dX6_advance_141 : decode cX6_advance 141 = .ok (.iadd, 1) := by decide +kernel
theorem dX6_advance_142 : decode cX6_advance 142 = .ok (.putfield 22, 3) := by decide +kernel
theorem dX6_advance_145 : decode cX6_advance 145 = .ok (.goto (-36), 3) := by decide +kernel
theorem dX6_advance_148 : decode cX6_advance 148 = .ok (.iload_n 1, 1) := by decide +kernel
theorem dX6_advance_149 : decode cX6_advance 149 = .ok (.invokestatic 81, 3) := by decide +kernel
theorem dX6_advance_152 : decode cX6_advance 152 = .ok (.ifCond .eq 47, 3) := by decide +kernel
theorem dX6_advance_155 : decode cX6_advance 155 = .ok (.aload_n 0, 1) := by decide +kernel
theorem dX6_advance_156 : decode cX6_advance 156 = .ok (.iconst 2, 1) := by decide +kernel
theorem dX6_advance_157 : decode cX6_advance 157 = .ok (.putfield 25, 3) := by decide +kernel
theorem dX6_advance_160 : decode cX6_advance 160 = .ok (.aload_n 0, 1) := by decide +kernel
theorem dX6_advance_161 : decode cX6_advance 161 = .ok (.getfield 22, 3) := by decide +kernel
theorem dX6_advance_164 : decode cX6_advance 164 = .ok (.aload_n 0, 1) := by decide +kernel
theorem dX6_advance_165 : decode cX6_advance 165 = .ok (.getfield 19, 3) := by decide +kernel
theorem dX6_advance_168 : decode cX6_advance 168 = .ok (.if_icmp .ge 46, 3) := by decide +kernel
theorem dX6_advance_171 : decode cX6_advance 171 = .ok (.aload_n 0, 1) := by decide +kernel
theorem dX6_advance_172 : decode cX6_advance 172 = .ok (.getfield 9, 3) := by decide +kernel
theorem dX6_advance_175 : decode cX6_advance 175 = .ok (.aload_n 0, 1) := by decide +kernel
theorem dX6_advance_176 : decode cX6_advance 176 = .ok (.getfield 22, 3) := by decide +kernel
theorem dX6_advance_179 : decode cX6_advance 179 = .ok (.iaload, 1) := by decide +kernel
theorem dX6_advance_180 : decode cX6_advance 180 = .ok (.invokestatic 81, 3) := by decide +kernel
theorem dX6_advance_183 : decode cX6_advance 183 = .ok (.ifCond .eq 31, 3) := by decide +kernel
theorem dX6_advance_186 : decode cX6_advance 186 = .ok (.aload_n 0, 1) := by decide +kernel
theorem dX6_advance_187 : decode cX6_advance 187 = .ok (.dup, 1) := by decide +kernel
theorem dX6_advance_188 : decode cX6_advance 188 = .ok (.getfield 22, 3) := by decide +kernel
theorem dX6_advance_191 : decode cX6_advance 191 = .ok (.iconst 1, 1) := by decide +kernel
theorem dX6_advance_192 : decode cX6_advance 192 = .ok (.iadd, 1) := by decide +kernel
theorem dX6_advance_193 : decode cX6_advance 193 = .ok (.putfield 22, 3) := by decide +kernel
theorem dX6_advance_196 : decode cX6_advance 196 = .ok (.goto (-36), 3) := by decide +kernel
theorem dX6_advance_199 : decode cX6_advance 199 = .ok (.aload_n 0, 1) := by decide +kernel
theorem dX6_advance_200 : decode cX6_advance 200 = .ok (.iload_n 1, 1) := by decide +kernel
theorem dX6_advance_201 : decode cX6_advance 201 = .ok (.bipush 59, 2) := by decide +kernel
theorem dX6_advance_203 : decode cX6_advance 203 = .ok (.if_icmp .ne 7, 3) := by decide +kernel
theorem dX6_advance_206 : decode cX6_advance 206 = .ok (.iconst 3, 1) := by decide +kernel
theorem dX6_advance_207 : decode cX6_advance 207 = .ok (.goto 4, 3) := by decide +kernel
theorem dX6_advance_210 : decode cX6_advance 210 = .ok (.iconst 4, 1) := by decide +kernel
theorem dX6_advance_211 : decode cX6_advance 211 = .ok (.putfield 25, 3) := by decide +kernel
theorem dX6_advance_214 : decode cX6_advance 214 = .ok (.return_, 1) := by decide +kernel
theorem dX6_isLetter_0 : decode cX6_isLetter 0 = .ok (.iload_n 0, 1) := by decide +kernel
theorem dX6_isLetter_1 : decode cX6_isLetter 1 = .ok (.bipush 97, 2) := by decide +kernel
theorem dX6_isLetter_3 : decode cX6_isLetter 3 = .ok (.if_icmp .lt 13, 3) := by decide +kernel
theorem dX6_isLetter_6 : decode cX6_isLetter 6 = .ok (.iload_n 0, 1) := by decide +kernel
theorem dX6_isLetter_7 : decode cX6_isLetter 7 = .ok (.bipush 122, 2) := by decide +kernel
theorem dX6_isLetter_9 : decode cX6_isLetter 9 = .ok (.if_icmp .gt 7, 3) := by decide +kernel
theorem dX6_isLetter_12 : decode cX6_isLetter 12 = .ok (.iconst 1, 1) := by decide +kernel
theorem dX6_isLetter_13 : decode cX6_isLetter 13 = .ok (.goto 4, 3) := by decide +kernel
theorem dX6_isLetter_16 : decode cX6_isLetter 16 = .ok (.iconst 0, 1) := by decide +kernel
theorem dX6_isLetter_17 : decode cX6_isLetter 17 = .ok (.ireturn, 1) := by decide +kernel
theorem dX6_isDigit_0 : decode cX6_isDigit 0 = .ok (.iload_n 0, 1) := by decide +kernel
theorem dX6_isDigit_1 : decode cX6_isDigit 1 = .ok (.bipush 48, 2) := by decide +kernel
theorem dX6_isDigit_3 : decode cX6_isDigit 3 = .ok (.if_icmp .lt 13, 3) := by decide +kernel
theorem dX6_isDigit_6 : decode cX6_isDigit 6 = .ok (.iload_n 0, 1) := by decide +kernel
theorem dX6_isDigit_7 : decode cX6_isDigit 7 = .ok (.bipush 57, 2) := by decide +kernel
theorem dX6_isDigit_9 : decode cX6_isDigit 9 = .ok (.if_icmp .gt 7, 3) := by decide +kernel
theorem dX6_isDigit_12 : decode cX6_isDigit 12 = .ok (.iconst 1, 1) := by decide +kernel
theorem dX6_isDigit_13 : decode cX6_isDigit 13 = .ok (.goto 4, 3) := by decide +kernel
theorem dX6_isDigit_16 : decode cX6_isDigit 16 = .ok (.iconst 0, 1) := by decide +kernel
theorem dX6_isDigit_17 : decode cX6_isDigit 17 = .ok (.ireturn, 1) := by decide +kernel
theorem dX6_isWord_0 : decode cX6_isWord 0 = .ok (.aload_n 0, 1) := by decide +kernel
theorem dX6_isWord_1 : decode cX6_isWord 1 = .ok (.getfield 25, 3) := by decide +kernel
theorem dX6_isWord_4 : decode cX6_isWord 4 = .ok (.iconst 1, 1) := by decide +kernel
theorem dX6_isWord_5 : decode cX6_isWord 5 = .ok (.if_icmp .ne 19, 3) := by decide +kernel
theorem dX6_isWord_8 : decode cX6_isWord 8 = .ok (.aload_n 0, 1) := by decide +kernel
theorem dX6_isWord_9 : decode cX6_isWord 9 = .ok (.getfield 22, 3) := by decide +kernel
theorem dX6_isWord_12 : decode cX6_isWord 12 = .ok (.aload_n 0, 1) := by decide +kernel
theorem dX6_isWord_13 : decode cX6_isWord 13 = .ok (.getfield 28, 3) := by decide +kernel
theorem dX6_isWord_16 : decode cX6_isWord 16 = .ok (.isub, 1) := by decide +kernel
theorem dX6_isWord_17 : decode cX6_isWord 17 = .ok (.aload_n 1, 1) := by decide +kernel
theorem dX6_isWord_18 : decode cX6_isWord 18 = .ok (.invokevirtual 84, 3) := by decide +kernel
theorem dX6_isWord_21 : decode cX6_isWord 21 = .ok (.if_icmp .eq 5, 3) := by decide +kernel
theorem dX6_isWord_24 : decode cX6_isWord 24 = .ok (.iconst 0, 1) := by decide +kernel
theorem dX6_isWord_25 : decode cX6_isWord 25 = .ok (.ireturn, 1) := by decide +kernel
theorem dX6_isWord_26 : decode cX6_isWord 26 = .ok (.iconst 0, 1) := by decide +kernel
theorem dX6_isWord_27 : decode cX6_isWord 27 = .ok (.istore_n 2, 1) := by decide +kernel
theorem dX6_isWord_28 : decode cX6_isWord 28 = .ok (.iload_n 2, 1) := by decide +kernel
theorem dX6_isWord_29 : decode cX6_isWord 29 = .ok (.aload_n 1, 1) := by decide +kernel
theorem dX6_isWord_30 : decode cX6_isWord 30 = .ok (.invokevirtual 84, 3) := by decide +kernel
theorem dX6_isWord_33 : decode cX6_isWord 33 = .ok (.if_icmp .ge 30, 3) := by decide +kernel
theorem dX6_isWord_36 : decode cX6_isWord 36 = .ok (.aload_n 0, 1) := by decide +kernel
theorem dX6_isWord_37 : decode cX6_isWord 37 = .ok (.getfield 9, 3) := by decide +kernel
theorem dX6_isWord_40 : decode cX6_isWord 40 = .ok (.aload_n 0, 1) := by decide +kernel
theorem dX6_isWord_41 : decode cX6_isWord 41 = .ok (.getfield 28, 3) := by decide +kernel
theorem dX6_isWord_44 : decode cX6_isWord 44 = .ok (.iload_n 2, 1) := by decide +kernel
theorem dX6_isWord_45 : decode cX6_isWord 45 = .ok (.iadd, 1) := by decide +kernel
theorem dX6_isWord_46 : decode cX6_isWord 46 = .ok (.iaload, 1) := by decide +kernel
theorem dX6_isWord_47 : decode cX6_isWord 47 = .ok (.aload_n 1, 1) := by decide +kernel
theorem dX6_isWord_48 : decode cX6_isWord 48 = .ok (.iload_n 2, 1) := by decide +kernel
theorem dX6_isWord_49 : decode cX6_isWord 49 = .ok (.invokevirtual 89, 3) := by decide +kernel
theorem dX6_isWord_52 : decode cX6_isWord 52 = .ok (.if_icmp .eq 5, 3) := by decide +kernel
theorem dX6_isWord_55 : decode cX6_isWord 55 = .ok (.iconst 0, 1) := by decide +kernel
theorem dX6_isWord_56 : decode cX6_isWord 56 = .ok (.ireturn, 1) := by decide +kernel
theorem dX6_isWord_57 : decode cX6_isWord 57 = .ok (.iinc 2 1, 3) := by decide +kernel
theorem dX6_isWord_60 : decode cX6_isWord 60 = .ok (.goto (-32), 3) := by decide +kernel
theorem dX6_isWord_63 : decode cX6_isWord 63 = .ok (.iconst 1, 1) := by decide +kernel
theorem dX6_isWord_64 : decode cX6_isWord 64 = .ok (.ireturn, 1) := by decide +kernel
theorem dX6_takeWord_0 : decode cX6_takeWord 0 = .ok (.aload_n 0, 1) := by decide +kernel
theorem dX6_takeWord_1 : decode cX6_takeWord 1 = .ok (.aload_n 1, 1) := by decide +kernel
theorem dX6_takeWord_2 : decode cX6_takeWord 2 = .ok (.invokevirtual 60, 3) := by decide +kernel
theorem dX6_takeWord_5 : decode cX6_takeWord 5 = .ok (.ifCond .ne 5, 3) := by decide +kernel
theorem dX6_takeWord_8 : decode cX6_takeWord 8 = .ok (.iconst 0, 1) := by decide +kernel
theorem dX6_takeWord_9 : decode cX6_takeWord 9 = .ok (.ireturn, 1) := by decide +kernel
theorem dX6_takeWord_10 : decode cX6_takeWord 10 = .ok (.aload_n 0, 1) := by decide +kernel
theorem dX6_takeWord_11 : decode cX6_takeWord 11 = .ok (.invokevirtual 74, 3) := by decide +kernel
theorem dX6_takeWord_14 : decode cX6_takeWord 14 = .ok (.iconst 1, 1) := by decide +kernel
theorem dX6_takeWord_15 : decode cX6_takeWord 15 = .ok (.ireturn, 1) := by decide +kernel
theorem dX6_takeEnd_0 : decode cX6_takeEnd 0 = .ok (.aload_n 0, 1) := by decide +kernel
theorem dX6_takeEnd_1 : decode cX6_takeEnd 1 = .ok (.getfield 25, 3) := by decide +kernel
theorem dX6_takeEnd_4 : decode cX6_takeEnd 4 = .ok (.iconst 3, 1) := by decide +kernel
theorem dX6_takeEnd_5 : decode cX6_takeEnd 5 = .ok (.if_icmp .eq 5, 3) := by decide +kernel
theorem dX6_takeEnd_8 : decode cX6_takeEnd 8 = .ok (.iconst 0, 1) := by decide +kernel
theorem dX6_takeEnd_9 : decode cX6_takeEnd 9 = .ok (.ireturn, 1) := by decide +kernel
theorem dX6_takeEnd_10 : decode cX6_takeEnd 10 = .ok (.aload_n 0, 1) := by decide +kernel
theorem dX6_takeEnd_11 : decode cX6_takeEnd 11 = .ok (.invokevirtual 74, 3) := by decide +kernel
theorem dX6_takeEnd_14 : decode cX6_takeEnd 14 = .ok (.iconst 1, 1) := by decide +kernel
theorem dX6_takeEnd_15 : decode cX6_takeEnd 15 = .ok (.ireturn, 1) := by decide +kernel
theorem dX6_takeNumber_0 : decode cX6_takeNumber 0 = .ok (.aload_n 0, 1) := by decide +kernel
theorem dX6_takeNumber_1 : decode cX6_takeNumber 1 = .ok (.getfield 25, 3) := by decide +kernel
theorem dX6_takeNumber_4 : decode cX6_takeNumber 4 = .ok (.iconst 2, 1) := by decide +kernel
theorem dX6_takeNumber_5 : decode cX6_takeNumber 5 = .ok (.if_icmp .ne 16, 3) := by decide +kernel
theorem dX6_takeNumber_8 : decode cX6_takeNumber 8 = .ok (.aload_n 0, 1) := by decide +kernel
theorem dX6_takeNumber_9 : decode cX6_takeNumber 9 = .ok (.getfield 22, 3) := by decide +kernel
theorem dX6_takeNumber_12 : decode cX6_takeNumber 12 = .ok (.aload_n 0, 1) := by decide +kernel
theorem dX6_takeNumber_13 : decode cX6_takeNumber 13 = .ok (.getfield 28, 3) := by decide +kernel
theorem dX6_takeNumber_16 : decode cX6_takeNumber 16 = .ok (.isub, 1) := by decide +kernel
theorem dX6_takeNumber_17 : decode cX6_takeNumber 17 = .ok (.iconst 4, 1) := by decide +kernel
theorem dX6_takeNumber_18 : decode cX6_takeNumber 18 = .ok (.if_icmp .le 5, 3) := by decide +kernel
theorem dX6_takeNumber_21 : decode cX6_takeNumber 21 = .ok (.iconst 0, 1) := by decide +kernel
theorem dX6_takeNumber_22 : decode cX6_takeNumber 22 = .ok (.ireturn, 1) := by decide +kernel
theorem dX6_takeNumber_23 : decode cX6_takeNumber 23 = .ok (.aload_n 0, 1) := by decide +kernel
theorem dX6_takeNumber_24 : decode cX6_takeNumber 24 = .ok (.iconst 0, 1) := by decide +kernel
theorem dX6_takeNumber_25 : decode cX6_takeNumber 25 = .ok (.putfield 31, 3) := by decide +kernel
theorem dX6_takeNumber_28 : decode cX6_takeNumber 28 = .ok (.aload_n 0, 1) := by decide +kernel
theorem dX6_takeNumber_29 : decode cX6_takeNumber 29 = .ok (.getfield 28, 3) := by decide +kernel
theorem dX6_takeNumber_32 : decode cX6_takeNumber 32 = .ok (.istore_n 3, 1) := by decide +kernel
theorem dX6_takeNumber_33 : decode cX6_takeNumber 33 = .ok (.iload_n 3, 1) := by decide +kernel
theorem dX6_takeNumber_34 : decode cX6_takeNumber 34 = .ok (.aload_n 0, 1) := by decide +kernel
theorem dX6_takeNumber_35 : decode cX6_takeNumber 35 = .ok (.getfield 22, 3) := by decide +kernel
theorem dX6_takeNumber_38 : decode cX6_takeNumber 38 = .ok (.if_icmp .ge 30, 3) := by decide +kernel
theorem dX6_takeNumber_41 : decode cX6_takeNumber 41 = .ok (.aload_n 0, 1) := by decide +kernel
theorem dX6_takeNumber_42 : decode cX6_takeNumber 42 = .ok (.bipush 10, 2) := by decide +kernel
theorem dX6_takeNumber_44 : decode cX6_takeNumber 44 = .ok (.aload_n 0, 1) := by decide +kernel
theorem dX6_takeNumber_45 : decode cX6_takeNumber 45 = .ok (.getfield 31, 3) := by decide +kernel
theorem dX6_takeNumber_48 : decode cX6_takeNumber 48 = .ok (.imul, 1) := by decide +kernel
theorem dX6_takeNumber_49 : decode cX6_takeNumber 49 = .ok (.aload_n 0, 1) := by decide +kernel
theorem dX6_takeNumber_50 : decode cX6_takeNumber 50 = .ok (.getfield 9, 3) := by decide +kernel
theorem dX6_takeNumber_53 : decode cX6_takeNumber 53 = .ok (.iload_n 3, 1) := by decide +kernel
theorem dX6_takeNumber_54 : decode cX6_takeNumber 54 = .ok (.iaload, 1) := by decide +kernel
theorem dX6_takeNumber_55 : decode cX6_takeNumber 55 = .ok (.iadd, 1) := by decide +kernel
theorem dX6_takeNumber_56 : decode cX6_takeNumber 56 = .ok (.bipush 48, 2) := by decide +kernel
theorem dX6_takeNumber_58 : decode cX6_takeNumber 58 = .ok (.isub, 1) := by decide +kernel
theorem dX6_takeNumber_59 : decode cX6_takeNumber 59 = .ok (.putfield 31, 3) := by decide +kernel
theorem dX6_takeNumber_62 : decode cX6_takeNumber 62 = .ok (.iinc 3 1, 3) := by decide +kernel
theorem dX6_takeNumber_65 : decode cX6_takeNumber 65 = .ok (.goto (-32), 3) := by decide +kernel
theorem dX6_takeNumber_68 : decode cX6_takeNumber 68 = .ok (.aload_n 0, 1) := by decide +kernel
theorem dX6_takeNumber_69 : decode cX6_takeNumber 69 = .ok (.getfield 31, 3) := by decide +kernel
theorem dX6_takeNumber_72 : decode cX6_takeNumber 72 = .ok (.iload_n 1, 1) := by decide +kernel
theorem dX6_takeNumber_73 : decode cX6_takeNumber 73 = .ok (.if_icmp .lt 11, 3) := by decide +kernel
theorem dX6_takeNumber_76 : decode cX6_takeNumber 76 = .ok (.aload_n 0, 1) := by decide +kernel
theorem dX6_takeNumber_77 : decode cX6_takeNumber 77 = .ok (.getfield 31, 3) := by decide +kernel
theorem dX6_takeNumber_80 : decode cX6_takeNumber 80 = .ok (.iload_n 2, 1) := by decide +kernel
theorem dX6_takeNumber_81 : decode cX6_takeNumber 81 = .ok (.if_icmp .le 5, 3) := by decide +kernel
theorem dX6_takeNumber_84 : decode cX6_takeNumber 84 = .ok (.iconst 0, 1) := by decide +kernel
theorem dX6_takeNumber_85 : decode cX6_takeNumber 85 = .ok (.ireturn, 1) := by decide +kernel
theorem dX6_takeNumber_86 : decode cX6_takeNumber 86 = .ok (.aload_n 0, 1) := by decide +kernel
theorem dX6_takeNumber_87 : decode cX6_takeNumber 87 = .ok (.invokevirtual 74, 3) := by decide +kernel
theorem dX6_takeNumber_90 : decode cX6_takeNumber 90 = .ok (.iconst 1, 1) := by decide +kernel
theorem dX6_takeNumber_91 : decode cX6_takeNumber 91 = .ok (.ireturn, 1) := by decide +kernel
theorem dX6_isReserved_0 : decode cX6_isReserved 0 = .ok (.aload_n 0, 1) := by decide +kernel
theorem dX6_isReserved_1 : decode cX6_isReserved 1 = .ok (.ldc 93, 2) := by decide +kernel
theorem dX6_isReserved_3 : decode cX6_isReserved 3 = .ok (.invokevirtual 60, 3) := by decide +kernel
theorem dX6_isReserved_6 : decode cX6_isReserved 6 = .ok (.ifCond .ne 120, 3) := by decide +kernel
theorem dX6_isReserved_9 : decode cX6_isReserved 9 = .ok (.aload_n 0, 1) := by decide +kernel
theorem dX6_isReserved_10 : decode cX6_isReserved 10 = .ok (.ldc 95, 2) := by decide +kernel
theorem dX6_isReserved_12 : decode cX6_isReserved 12 = .ok (.invokevirtual 60, 3) := by decide +kernel
theorem dX6_isReserved_15 : decode cX6_isReserved 15 = .ok (.ifCond .ne 111, 3) := by decide +kernel
theorem dX6_isReserved_18 : decode cX6_isReserved 18 = .ok (.aload_n 0, 1) := by decide +kernel
theorem dX6_isReserved_19 : decode cX6_isReserved 19 = .ok (.ldc 97, 2) := by decide +kernel
theorem dX6_isReserved_21 : decode cX6_isReserved 21 = .ok (.invokevirtual 60, 3) := by decide +kernel
theorem dX6_isReserved_24 : decode cX6_isReserved 24 = .ok (.ifCond .ne 102, 3) := by decide +kernel
theorem dX6_isReserved_27 : decode cX6_isReserved 27 = .ok (.aload_n 0, 1) := by decide +kernel
theorem dX6_isReserved_28 : decode cX6_isReserved 28 = .ok (.ldc 99, 2) := by decide +kernel
theorem dX6_isReserved_30 : decode cX6_isReserved 30 = .ok (.invokevirtual 60, 3) := by decide +kernel
theorem dX6_isReserved_33 : decode cX6_isReserved 33 = .ok (.ifCond .ne 93, 3) := by decide +kernel
theorem dX6_isReserved_36 : decode cX6_isReserved 36 = .ok (.aload_n 0, 1) := by decide +kernel
theorem dX6_isReserved_37 : decode cX6_isReserved 37 = .ok (.ldc 101, 2) := by decide +kernel
theorem dX6_isReserved_39 : decode cX6_isReserved 39 = .ok (.invokevirtual 60, 3) := by decide +kernel
theorem dX6_isReserved_42 : decode cX6_isReserved 42 = .ok (.ifCond .ne 84, 3) := by decide +kernel
theorem dX6_isReserved_45 : decode cX6_isReserved 45 = .ok (.aload_n 0, 1) := by decide +kernel
theorem dX6_isReserved_46 : decode cX6_isReserved 46 = .ok (.ldc 103, 2) := by decide +kernel
theorem dX6_isReserved_48 : decode cX6_isReserved 48 = .ok (.invokevirtual 60, 3) := by decide +kernel
theorem dX6_isReserved_51 : decode cX6_isReserved 51 = .ok (.ifCond .ne 75, 3) := by decide +kernel
theorem dX6_isReserved_54 : decode cX6_isReserved 54 = .ok (.aload_n 0, 1) := by decide +kernel
theorem dX6_isReserved_55 : decode cX6_isReserved 55 = .ok (.ldc 105, 2) := by decide +kernel
theorem dX6_isReserved_57 : decode cX6_isReserved 57 = .ok (.invokevirtual 60, 3) := by decide +kernel
theorem dX6_isReserved_60 : decode cX6_isReserved 60 = .ok (.ifCond .ne 66, 3) := by decide +kernel
theorem dX6_isReserved_63 : decode cX6_isReserved 63 = .ok (.aload_n 0, 1) := by decide +kernel
theorem dX6_isReserved_64 : decode cX6_isReserved 64 = .ok (.ldc 107, 2) := by decide +kernel
theorem dX6_isReserved_66 : decode cX6_isReserved 66 = .ok (.invokevirtual 60, 3) := by decide +kernel
theorem dX6_isReserved_69 : decode cX6_isReserved 69 = .ok (.ifCond .ne 57, 3) := by decide +kernel
theorem dX6_isReserved_72 : decode cX6_isReserved 72 = .ok (.aload_n 0, 1) := by decide +kernel
theorem dX6_isReserved_73 : decode cX6_isReserved 73 = .ok (.ldc 109, 2) := by decide +kernel
theorem dX6_isReserved_75 : decode cX6_isReserved 75 = .ok (.invokevirtual 60, 3) := by decide +kernel
theorem dX6_isReserved_78 : decode cX6_isReserved 78 = .ok (.ifCond .ne 48, 3) := by decide +kernel
theorem dX6_isReserved_81 : decode cX6_isReserved 81 = .ok (.aload_n 0, 1) := by decide +kernel
theorem dX6_isReserved_82 : decode cX6_isReserved 82 = .ok (.ldc 111, 2) := by decide +kernel
theorem dX6_isReserved_84 : decode cX6_isReserved 84 = .ok (.invokevirtual 60, 3) := by decide +kernel
theorem dX6_isReserved_87 : decode cX6_isReserved 87 = .ok (.ifCond .ne 39, 3) := by decide +kernel
theorem dX6_isReserved_90 : decode cX6_isReserved 90 = .ok (.aload_n 0, 1) := by decide +kernel
theorem dX6_isReserved_91 : decode cX6_isReserved 91 = .ok (.ldc 113, 2) := by decide +kernel
theorem dX6_isReserved_93 : decode cX6_isReserved 93 = .ok (.invokevirtual 60, 3) := by decide +kernel
theorem dX6_isReserved_96 : decode cX6_isReserved 96 = .ok (.ifCond .ne 30, 3) := by decide +kernel
theorem dX6_isReserved_99 : decode cX6_isReserved 99 = .ok (.aload_n 0, 1) := by decide +kernel
theorem dX6_isReserved_100 : decode cX6_isReserved 100 = .ok (.ldc 115, 2) := by decide +kernel
theorem dX6_isReserved_102 : decode cX6_isReserved 102 = .ok (.invokevirtual 60, 3) := by decide +kernel
theorem dX6_isReserved_105 : decode cX6_isReserved 105 = .ok (.ifCond .ne 21, 3) := by decide +kernel
theorem dX6_isReserved_108 : decode cX6_isReserved 108 = .ok (.aload_n 0, 1) := by decide +kernel
theorem dX6_isReserved_109 : decode cX6_isReserved 109 = .ok (.ldc 58, 2) := by decide +kernel
theorem dX6_isReserved_111 : decode cX6_isReserved 111 = .ok (.invokevirtual 60, 3) := by decide +kernel
theorem dX6_isReserved_114 : decode cX6_isReserved 114 = .ok (.ifCond .ne 12, 3) := by decide +kernel
theorem dX6_isReserved_117 : decode cX6_isReserved 117 = .ok (.aload_n 0, 1) := by decide +kernel
theorem dX6_isReserved_118 : decode cX6_isReserved 118 = .ok (.ldc 117, 2) := by decide +kernel
theorem dX6_isReserved_120 : decode cX6_isReserved 120 = .ok (.invokevirtual 60, 3) := by decide +kernel
theorem dX6_isReserved_123 : decode cX6_isReserved 123 = .ok (.ifCond .eq 7, 3) := by decide +kernel
theorem dX6_isReserved_126 : decode cX6_isReserved 126 = .ok (.iconst 1, 1) := by decide +kernel
theorem dX6_isReserved_127 : decode cX6_isReserved 127 = .ok (.goto 4, 3) := by decide +kernel
theorem dX6_isReserved_130 : decode cX6_isReserved 130 = .ok (.iconst 0, 1) := by decide +kernel
theorem dX6_isReserved_131 : decode cX6_isReserved 131 = .ok (.ireturn, 1) := by decide +kernel
theorem dX6_cornerNamed_0 : decode cX6_cornerNamed 0 = .ok (.iconst 0, 1) := by decide +kernel
theorem dX6_cornerNamed_1 : decode cX6_cornerNamed 1 = .ok (.istore_n 2, 1) := by decide +kernel
theorem dX6_cornerNamed_2 : decode cX6_cornerNamed 2 = .ok (.iload_n 2, 1) := by decide +kernel
theorem dX6_cornerNamed_3 : decode cX6_cornerNamed 3 = .ok (.aload_n 1, 1) := by decide +kernel
theorem dX6_cornerNamed_4 : decode cX6_cornerNamed 4 = .ok (.getfield 43, 3) := by decide +kernel
theorem dX6_cornerNamed_7 : decode cX6_cornerNamed 7 = .ok (.if_icmp .ge 28, 3) := by decide +kernel
theorem dX6_cornerNamed_10 : decode cX6_cornerNamed 10 = .ok (.aload_n 0, 1) := by decide +kernel
theorem dX6_cornerNamed_11 : decode cX6_cornerNamed 11 = .ok (.getfield 25, 3) := by decide +kernel
theorem dX6_cornerNamed_14 : decode cX6_cornerNamed 14 = .ok (.iconst 1, 1) := by decide +kernel
theorem dX6_cornerNamed_15 : decode cX6_cornerNamed 15 = .ok (.if_icmp .ne 14, 3) := by decide +kernel
theorem dX6_cornerNamed_18 : decode cX6_cornerNamed 18 = .ok (.aload_n 0, 1) := by decide +kernel
theorem dX6_cornerNamed_19 : decode cX6_cornerNamed 19 = .ok (.aload_n 1, 1) := by decide +kernel
theorem dX6_cornerNamed_20 : decode cX6_cornerNamed 20 = .ok (.iload_n 2, 1) := by decide +kernel
theorem dX6_cornerNamed_21 : decode cX6_cornerNamed 21 = .ok (.invokevirtual 119, 3) := by decide +kernel
theorem dX6_cornerNamed_24 : decode cX6_cornerNamed 24 = .ok (.ifCond .eq 5, 3) := by decide +kernel
theorem dX6_cornerNamed_27 : decode cX6_cornerNamed 27 = .ok (.iload_n 2, 1) := by decide +kernel
theorem dX6_cornerNamed_28 : decode cX6_cornerNamed 28 = .ok (.ireturn, 1) := by decide +kernel
theorem dX6_cornerNamed_29 : decode cX6_cornerNamed 29 = .ok (.iinc 2 1, 3) := by decide +kernel
theorem dX6_cornerNamed_32 : decode cX6_cornerNamed 32 = .ok (.goto (-30), 3) := by decide +kernel
theorem dX6_cornerNamed_35 : decode cX6_cornerNamed 35 = .ok (.iconst (-1), 1) := by decide +kernel
theorem dX6_cornerNamed_36 : decode cX6_cornerNamed 36 = .ok (.ireturn, 1) := by decide +kernel
theorem dX6_isName_0 : decode cX6_isName 0 = .ok (.aload_n 0, 1) := by decide +kernel
theorem dX6_isName_1 : decode cX6_isName 1 = .ok (.getfield 22, 3) := by decide +kernel
theorem dX6_isName_4 : decode cX6_isName 4 = .ok (.aload_n 0, 1) := by decide +kernel
theorem dX6_isName_5 : decode cX6_isName 5 = .ok (.getfield 28, 3) := by decide +kernel
theorem dX6_isName_8 : decode cX6_isName 8 = .ok (.isub, 1) := by decide +kernel
theorem dX6_isName_9 : decode cX6_isName 9 = .ok (.aload_n 1, 1) := by decide +kernel
theorem dX6_isName_10 : decode cX6_isName 10 = .ok (.getfield 123, 3) := by decide +kernel
theorem dX6_isName_13 : decode cX6_isName 13 = .ok (.iload_n 2, 1) := by decide +kernel
theorem dX6_isName_14 : decode cX6_isName 14 = .ok (.iaload, 1) := by decide +kernel
theorem dX6_isName_15 : decode cX6_isName 15 = .ok (.if_icmp .eq 5, 3) := by decide +kernel
theorem dX6_isName_18 : decode cX6_isName 18 = .ok (.iconst 0, 1) := by decide +kernel
theorem dX6_isName_19 : decode cX6_isName 19 = .ok (.ireturn, 1) := by decide +kernel
theorem dX6_isName_20 : decode cX6_isName 20 = .ok (.iconst 0, 1) := by decide +kernel
theorem dX6_isName_21 : decode cX6_isName 21 = .ok (.istore_n 3, 1) := by decide +kernel
theorem dX6_isName_22 : decode cX6_isName 22 = .ok (.iload_n 3, 1) := by decide +kernel
theorem dX6_isName_23 : decode cX6_isName 23 = .ok (.aload_n 1, 1) := by decide +kernel
theorem dX6_isName_24 : decode cX6_isName 24 = .ok (.getfield 123, 3) := by decide +kernel
theorem dX6_isName_27 : decode cX6_isName 27 = .ok (.iload_n 2, 1) := by decide +kernel
theorem dX6_isName_28 : decode cX6_isName 28 = .ok (.iaload, 1) := by decide +kernel
theorem dX6_isName_29 : decode cX6_isName 29 = .ok (.if_icmp .ge 36, 3) := by decide +kernel
theorem dX6_isName_32 : decode cX6_isName 32 = .ok (.aload_n 0, 1) := by decide +kernel
theorem dX6_isName_33 : decode cX6_isName 33 = .ok (.getfield 9, 3) := by decide +kernel
theorem dX6_isName_36 : decode cX6_isName 36 = .ok (.aload_n 0, 1) := by decide +kernel
theorem dX6_isName_37 : decode cX6_isName 37 = .ok (.getfield 28, 3) := by decide +kernel
theorem dX6_isName_40 : decode cX6_isName 40 = .ok (.iload_n 3, 1) := by decide +kernel
theorem dX6_isName_41 : decode cX6_isName 41 = .ok (.iadd, 1) := by decide +kernel
theorem dX6_isName_42 : decode cX6_isName 42 = .ok (.iaload, 1) := by decide +kernel
theorem dX6_isName_43 : decode cX6_isName 43 = .ok (.aload_n 1, 1) := by decide +kernel
theorem dX6_isName_44 : decode cX6_isName 44 = .ok (.getfield 126, 3) := by decide +kernel
theorem dX6_isName_47 : decode cX6_isName 47 = .ok (.bipush 6, 2) := by decide +kernel
theorem dX6_isName_49 : decode cX6_isName 49 = .ok (.iload_n 2, 1) := by decide +kernel
theorem dX6_isName_50 : decode cX6_isName 50 = .ok (.imul, 1) := by decide +kernel
theorem dX6_isName_51 : decode cX6_isName 51 = .ok (.iload_n 3, 1) := by decide +kernel
theorem dX6_isName_52 : decode cX6_isName 52 = .ok (.iadd, 1) := by decide +kernel
theorem dX6_isName_53 : decode cX6_isName 53 = .ok (.iaload, 1) := by decide +kernel
theorem dX6_isName_54 : decode cX6_isName 54 = .ok (.if_icmp .eq 5, 3) := by decide +kernel
theorem dX6_isName_57 : decode cX6_isName 57 = .ok (.iconst 0, 1) := by decide +kernel
theorem dX6_isName_58 : decode cX6_isName 58 = .ok (.ireturn, 1) := by decide +kernel
theorem dX6_isName_59 : decode cX6_isName 59 = .ok (.iinc 3 1, 3) := by decide +kernel
theorem dX6_isName_62 : decode cX6_isName 62 = .ok (.goto (-40), 3) := by decide +kernel
theorem dX6_isName_65 : decode cX6_isName 65 = .ok (.iconst 1, 1) := by decide +kernel
theorem dX6_isName_66 : decode cX6_isName 66 = .ok (.ireturn, 1) := by decide +kernel
theorem dX6_takeStatement_0 : decode cX6_takeStatement 0 = .ok (.iconst 0, 1) := by decide +kernel
theorem dX6_takeStatement_1 : decode cX6_takeStatement 1 = .ok (.istore_n 2, 1) := by decide +kernel
theorem dX6_takeStatement_2 : decode cX6_takeStatement 2 = .ok (.aload_n 0, 1) := by decide +kernel
theorem dX6_takeStatement_3 : decode cX6_takeStatement 3 = .ok (.ldc 93, 2) := by decide +kernel
theorem dX6_takeStatement_5 : decode cX6_takeStatement 5 = .ok (.invokevirtual 129, 3) := by decide +kernel
theorem dX6_takeStatement_8 : decode cX6_takeStatement 8 = .ok (.ifCond .eq 12, 3) := by decide +kernel
theorem dX6_takeStatement_11 : decode cX6_takeStatement 11 = .ok (.aload_n 0, 1) := by decide +kernel
theorem dX6_takeStatement_12 : decode cX6_takeStatement 12 = .ok (.aload_n 1, 1) := by decide +kernel
theorem dX6_takeStatement_13 : decode cX6_takeStatement 13 = .ok (.invokevirtual 132, 3) := by decide +kernel
theorem dX6_takeStatement_16 : decode cX6_takeStatement 16 = .ok (.istore_n 2, 1) := by decide +kernel
theorem dX6_takeStatement_17 : decode cX6_takeStatement 17 = .ok (.goto 92, 3) := by decide +kernel
theorem dX6_takeStatement_20 : decode cX6_takeStatement 20 = .ok (.aload_n 0, 1) := by decide +kernel
theorem dX6_takeStatement_21 : decode cX6_takeStatement 21 = .ok (.ldc 99, 2) := by decide +kernel
theorem dX6_takeStatement_23 : decode cX6_takeStatement 23 = .ok (.invokevirtual 129, 3) := by decide +kernel
theorem dX6_takeStatement_26 : decode cX6_takeStatement 26 = .ok (.ifCond .eq 12, 3) := by decide +kernel
theorem dX6_takeStatement_29 : decode cX6_takeStatement 29 = .ok (.aload_n 0, 1) := by decide +kernel
theorem dX6_takeStatement_30 : decode cX6_takeStatement 30 = .ok (.aload_n 1, 1) := by decide +kernel
theorem dX6_takeStatement_31 : decode cX6_takeStatement 31 = .ok (.invokevirtual 135, 3) := by decide +kernel
theorem dX6_takeStatement_34 : decode cX6_takeStatement 34 = .ok (.istore_n 2, 1) := by decide +kernel
theorem dX6_takeStatement_35 : decode cX6_takeStatement 35 = .ok (.goto 74, 3) := by decide +kernel
theorem dX6_takeStatement_38 : decode cX6_takeStatement 38 = .ok (.aload_n 0, 1) := by decide +kernel
theorem dX6_takeStatement_39 : decode cX6_takeStatement 39 = .ok (.ldc 101, 2) := by decide +kernel
theorem dX6_takeStatement_41 : decode cX6_takeStatement 41 = .ok (.invokevirtual 129, 3) := by decide +kernel
theorem dX6_takeStatement_44 : decode cX6_takeStatement 44 = .ok (.ifCond .eq 21, 3) := by decide +kernel
theorem dX6_takeStatement_47 : decode cX6_takeStatement 47 = .ok (.aload_n 0, 1) := by decide +kernel
theorem dX6_takeStatement_48 : decode cX6_takeStatement 48 = .ok (.iconst 1, 1) := by decide +kernel
theorem dX6_takeStatement_49 : decode cX6_takeStatement 49 = .ok (.iconst 5, 1) := by decide +kernel
theorem dX6_takeStatement_50 : decode cX6_takeStatement 50 = .ok (.invokevirtual 138, 3) := by decide +kernel
theorem dX6_takeStatement_53 : decode cX6_takeStatement 53 = .ok (.istore_n 2, 1) := by decide +kernel
theorem dX6_takeStatement_54 : decode cX6_takeStatement 54 = .ok (.aload_n 1, 1) := by decide +kernel
theorem dX6_takeStatement_55 : decode cX6_takeStatement 55 = .ok (.aload_n 0, 1) := by decide +kernel
theorem dX6_takeStatement_56 : decode cX6_takeStatement 56 = .ok (.getfield 31, 3) := by decide +kernel
theorem dX6_takeStatement_59 : decode cX6_takeStatement 59 = .ok (.putfield 142, 3) := by decide +kernel
theorem dX6_takeStatement_62 : decode cX6_takeStatement 62 = .ok (.goto 47, 3) := by decide +kernel
theorem dX6_takeStatement_65 : decode cX6_takeStatement 65 = .ok (.aload_n 0, 1) := by decide +kernel
theorem dX6_takeStatement_66 : decode cX6_takeStatement 66 = .ok (.ldc 103, 2) := by decide +kernel
theorem dX6_takeStatement_68 : decode cX6_takeStatement 68 = .ok (.invokevirtual 129, 3) := by decide +kernel
theorem dX6_takeStatement_71 : decode cX6_takeStatement 71 = .ok (.ifCond .eq 23, 3) := by decide +kernel
theorem dX6_takeStatement_74 : decode cX6_takeStatement 74 = .ok (.aload_n 0, 1) := by decide +kernel
theorem dX6_takeStatement_75 : decode cX6_takeStatement 75 = .ok (.iconst 0, 1) := by decide +kernel
theorem dX6_takeStatement_76 : decode cX6_takeStatement 76 = .ok (.sipush 9999, 3) := by decide +kernel
theorem dX6_takeStatement_79 : decode cX6_takeStatement 79 = .ok (.invokevirtual 138, 3) := by decide +kernel
theorem dX6_takeStatement_82 : decode cX6_takeStatement 82 = .ok (.istore_n 2, 1) := by decide +kernel
theorem dX6_takeStatement_83 : decode cX6_takeStatement 83 = .ok (.aload_n 1, 1) := by decide +kernel
theorem dX6_takeStatement_84 : decode cX6_takeStatement 84 = .ok (.aload_n 0, 1) := by decide +kernel
theorem dX6_takeStatement_85 : decode cX6_takeStatement 85 = .ok (.getfield 31, 3) := by decide +kernel
theorem dX6_takeStatement_88 : decode cX6_takeStatement 88 = .ok (.putfield 144, 3) := by decide +kernel
theorem dX6_takeStatement_91 : decode cX6_takeStatement 91 = .ok (.goto 18, 3) := by decide +kernel
theorem dX6_takeStatement_94 : decode cX6_takeStatement 94 = .ok (.aload_n 0, 1) := by decide +kernel
theorem dX6_takeStatement_95 : decode cX6_takeStatement 95 = .ok (.ldc 105, 2) := by decide +kernel
theorem dX6_takeStatement_97 : decode cX6_takeStatement 97 = .ok (.invokevirtual 129, 3) := by decide +kernel
theorem dX6_takeStatement_100 : decode cX6_takeStatement 100 = .ok (.ifCond .eq 9, 3) := by decide +kernel
theorem dX6_takeStatement_103 : decode cX6_takeStatement 103 = .ok (.aload_n 0, 1) := by decide +kernel
theorem dX6_takeStatement_104 : decode cX6_takeStatement 104 = .ok (.aload_n 1, 1) := by decide +kernel
theorem dX6_takeStatement_105 : decode cX6_takeStatement 105 = .ok (.invokevirtual 146, 3) := by decide +kernel
theorem dX6_takeStatement_108 : decode cX6_takeStatement 108 = .ok (.istore_n 2, 1) := by decide +kernel
theorem dX6_takeStatement_109 : decode cX6_takeStatement 109 = .ok (.iload_n 2, 1) := by decide +kernel
theorem dX6_takeStatement_110 : decode cX6_takeStatement 110 = .ok (.ifCond .eq 14, 3) := by decide +kernel
theorem dX6_takeStatement_113 : decode cX6_takeStatement 113 = .ok (.aload_n 0, 1) := by decide +kernel
theorem dX6_takeStatement_114 : decode cX6_takeStatement 114 = .ok (.invokevirtual 149, 3) := by decide +kernel
theorem dX6_takeStatement_117 : decode cX6_takeStatement 117 = .ok (.ifCond .eq 7, 3) := by decide +kernel
theorem dX6_takeStatement_120 : decode cX6_takeStatement 120 = .ok (.iconst 1, 1) := by decide +kernel
theorem dX6_takeStatement_121 : decode cX6_takeStatement 121 = .ok (.goto 4, 3) := by decide +kernel
theorem dX6_takeStatement_124 : decode cX6_takeStatement 124 = .ok (.iconst 0, 1) := by decide +kernel
theorem dX6_takeStatement_125 : decode cX6_takeStatement 125 = .ok (.ireturn, 1) := by decide +kernel
theorem dX6_takeAsk_0 : decode cX6_takeAsk 0 = .ok (.aload_n 0, 1) := by decide +kernel
theorem dX6_takeAsk_1 : decode cX6_takeAsk 1 = .ok (.iconst 0, 1) := by decide +kernel
theorem dX6_takeAsk_2 : decode cX6_takeAsk 2 = .ok (.bipush 60, 2) := by decide +kernel
theorem dX6_takeAsk_4 : decode cX6_takeAsk 4 = .ok (.invokevirtual 138, 3) := by decide +kernel
theorem dX6_takeAsk_7 : decode cX6_takeAsk 7 = .ok (.ifCond .ne 5, 3) := by decide +kernel
theorem dX6_takeAsk_10 : decode cX6_takeAsk 10 = .ok (.iconst 0, 1) := by decide +kernel
theorem dX6_takeAsk_11 : decode cX6_takeAsk 11 = .ok (.ireturn, 1) := by decide +kernel
theorem dX6_takeAsk_12 : decode cX6_takeAsk 12 = .ok (.aload_n 1, 1) := by decide +kernel
theorem dX6_takeAsk_13 : decode cX6_takeAsk 13 = .ok (.aload_n 0, 1) := by decide +kernel
theorem dX6_takeAsk_14 : decode cX6_takeAsk 14 = .ok (.getfield 31, 3) := by decide +kernel
theorem dX6_takeAsk_17 : decode cX6_takeAsk 17 = .ok (.putfield 153, 3) := by decide +kernel
theorem dX6_takeAsk_20 : decode cX6_takeAsk 20 = .ok (.aload_n 0, 1) := by decide +kernel
theorem dX6_takeAsk_21 : decode cX6_takeAsk 21 = .ok (.aload_n 1, 1) := by decide +kernel
theorem dX6_takeAsk_22 : decode cX6_takeAsk 22 = .ok (.getfield 153, 3) := by decide +kernel
theorem dX6_takeAsk_25 : decode cX6_takeAsk 25 = .ok (.bipush 60, 2) := by decide +kernel
theorem dX6_takeAsk_27 : decode cX6_takeAsk 27 = .ok (.aload_n 1, 1) := by decide +kernel
theorem dX6_takeAsk_28 : decode cX6_takeAsk 28 = .ok (.getfield 153, 3) := by decide +kernel
theorem dX6_takeAsk_31 : decode cX6_takeAsk 31 = .ok (.bipush 20, 2) := by decide +kernel
theorem dX6_takeAsk_33 : decode cX6_takeAsk 33 = .ok (.iadd, 1) := by decide +kernel
theorem dX6_takeAsk_34 : decode cX6_takeAsk 34 = .ok (.invokestatic 68, 3) := by decide +kernel
theorem dX6_takeAsk_37 : decode cX6_takeAsk 37 = .ok (.invokevirtual 138, 3) := by decide +kernel
theorem dX6_takeAsk_40 : decode cX6_takeAsk 40 = .ok (.istore_n 2, 1) := by decide +kernel
theorem dX6_takeAsk_41 : decode cX6_takeAsk 41 = .ok (.aload_n 1, 1) := by decide +kernel
theorem dX6_takeAsk_42 : decode cX6_takeAsk 42 = .ok (.aload_n 0, 1) := by decide +kernel
theorem dX6_takeAsk_43 : decode cX6_takeAsk 43 = .ok (.getfield 31, 3) := by decide +kernel
theorem dX6_takeAsk_46 : decode cX6_takeAsk 46 = .ok (.putfield 156, 3) := by decide +kernel
theorem dX6_takeAsk_49 : decode cX6_takeAsk 49 = .ok (.iload_n 2, 1) := by decide +kernel
theorem dX6_takeAsk_50 : decode cX6_takeAsk 50 = .ok (.ireturn, 1) := by decide +kernel
theorem dX6_takeCorner_0 : decode cX6_takeCorner 0 = .ok (.aload_n 1, 1) := by decide +kernel
theorem dX6_takeCorner_1 : decode cX6_takeCorner 1 = .ok (.getfield 43, 3) := by decide +kernel
theorem dX6_takeCorner_4 : decode cX6_takeCorner 4 = .ok (.istore_n 2, 1) := by decide +kernel
theorem dX6_takeCorner_5 : decode cX6_takeCorner 5 = .ok (.aload_n 0, 1) := by decide +kernel
theorem dX6_takeCorner_6 : decode cX6_takeCorner 6 = .ok (.aload_n 1, 1) := by decide +kernel
theorem dX6_takeCorner_7 : decode cX6_takeCorner 7 = .ok (.invokevirtual 159, 3) := by decide +kernel
theorem dX6_takeCorner_10 : decode cX6_takeCorner 10 = .ok (.ifCond .ne 5, 3) := by decide +kernel
theorem dX6_takeCorner_13 : decode cX6_takeCorner 13 = .ok (.iconst 0, 1) := by decide +kernel
theorem dX6_takeCorner_14 : decode cX6_takeCorner 14 = .ok (.ireturn, 1) := by decide +kernel
theorem dX6_takeCorner_15 : decode cX6_takeCorner 15 = .ok (.aload_n 0, 1) := by decide +kernel
theorem dX6_takeCorner_16 : decode cX6_takeCorner 16 = .ok (.ldc 95, 2) := by decide +kernel
theorem dX6_takeCorner_18 : decode cX6_takeCorner 18 = .ok (.invokevirtual 129, 3) := by decide +kernel
theorem dX6_takeCorner_21 : decode cX6_takeCorner 21 = .ok (.ifCond .eq 25, 3) := by decide +kernel
theorem dX6_takeCorner_24 : decode cX6_takeCorner 24 = .ok (.aload_n 0, 1) := by decide +kernel
theorem dX6_takeCorner_25 : decode cX6_takeCorner 25 = .ok (.iconst 0, 1) := by decide +kernel
theorem dX6_takeCorner_26 : decode cX6_takeCorner 26 = .ok (.bipush 99, 2) := by decide +kernel
theorem dX6_takeCorner_28 : decode cX6_takeCorner 28 = .ok (.invokevirtual 138, 3) := by decide +kernel
theorem dX6_takeCorner_31 : decode cX6_takeCorner 31 = .ok (.ifCond .ne 5, 3) := by decide +kernel
theorem dX6_takeCorner_34 : decode cX6_takeCorner 34 = .ok (.iconst 0, 1) := by decide +kernel
theorem dX6_takeCorner_35 : decode cX6_takeCorner 35 = .ok (.ireturn, 1) := by decide +kernel
theorem dX6_takeCorner_36 : decode cX6_takeCorner 36 = .ok (.aload_n 1, 1) := by decide +kernel
theorem dX6_takeCorner_37 : decode cX6_takeCorner 37 = .ok (.getfield 162, 3) := by decide +kernel
theorem dX6_takeCorner_40 : decode cX6_takeCorner 40 = .ok (.iload_n 2, 1) := by decide +kernel
theorem dX6_takeCorner_41 : decode cX6_takeCorner 41 = .ok (.aload_n 0, 1) := by decide +kernel
theorem dX6_takeCorner_42 : decode cX6_takeCorner 42 = .ok (.getfield 31, 3) := by decide +kernel
theorem dX6_takeCorner_45 : decode cX6_takeCorner 45 = .ok (.iastore, 1) := by decide +kernel
theorem dX6_takeCorner_46 : decode cX6_takeCorner 46 = .ok (.iconst 0, 1) := by decide +kernel
theorem dX6_takeCorner_47 : decode cX6_takeCorner 47 = .ok (.istore_n 3, 1) := by decide +kernel
theorem dX6_takeCorner_48 : decode cX6_takeCorner 48 = .ok (.iload_n 3, 1) := by decide +kernel
theorem dX6_takeCorner_49 : decode cX6_takeCorner 49 = .ok (.sipush 900, 3) := by decide +kernel
theorem dX6_takeCorner_52 : decode cX6_takeCorner 52 = .ok (.if_icmp .ge 63, 3) := by decide +kernel
theorem dX6_takeCorner_55 : decode cX6_takeCorner 55 = .ok (.aload_n 0, 1) := by decide +kernel
theorem dX6_takeCorner_56 : decode cX6_takeCorner 56 = .ok (.ldc 97, 2) := by decide +kernel
theorem dX6_takeCorner_58 : decode cX6_takeCorner 58 = .ok (.invokevirtual 129, 3) := by decide +kernel
theorem dX6_takeCorner_61 : decode cX6_takeCorner 61 = .ok (.ifCond .eq 54, 3) := by decide +kernel
theorem dX6_takeCorner_64 : decode cX6_takeCorner 64 = .ok (.aload_n 0, 1) := by decide +kernel
theorem dX6_takeCorner_65 : decode cX6_takeCorner 65 = .ok (.invokevirtual 164, 3) := by decide +kernel
theorem dX6_takeCorner_68 : decode cX6_takeCorner 68 = .ok (.istore 4, 2) := by decide +kernel
theorem dX6_takeCorner_70 : decode cX6_takeCorner 70 = .ok (.iload 4, 2) := by decide +kernel
theorem dX6_takeCorner_72 : decode cX6_takeCorner 72 = .ok (.iconst (-1), 1) := by decide +kernel
theorem dX6_takeCorner_73 : decode cX6_takeCorner 73 = .ok (.if_icmp .ne 5, 3) := by decide +kernel
theorem dX6_takeCorner_76 : decode cX6_takeCorner 76 = .ok (.iconst 0, 1) := by decide +kernel
theorem dX6_takeCorner_77 : decode cX6_takeCorner 77 = .ok (.ireturn, 1) := by decide +kernel
theorem dX6_takeCorner_78 : decode cX6_takeCorner 78 = .ok (.aload_n 0, 1) := by decide +kernel
theorem dX6_takeCorner_79 : decode cX6_takeCorner 79 = .ok (.invokevirtual 74, 3) := by decide +kernel
theorem dX6_takeCorner_82 : decode cX6_takeCorner 82 = .ok (.aload_n 0, 1) := by decide +kernel
theorem dX6_takeCorner_83 : decode cX6_takeCorner 83 = .ok (.iconst 0, 1) := by decide +kernel
theorem dX6_takeCorner_84 : decode cX6_takeCorner 84 = .ok (.bipush 20, 2) := by decide +kernel
theorem dX6_takeCorner_86 : decode cX6_takeCorner 86 = .ok (.invokevirtual 138, 3) := by decide +kernel
theorem dX6_takeCorner_89 : decode cX6_takeCorner 89 = .ok (.ifCond .ne 5, 3) := by decide +kernel
theorem dX6_takeCorner_92 : decode cX6_takeCorner 92 = .ok (.iconst 0, 1) := by decide +kernel
theorem dX6_takeCorner_93 : decode cX6_takeCorner 93 = .ok (.ireturn, 1) := by decide +kernel
theorem dX6_takeCorner_94 : decode cX6_takeCorner 94 = .ok (.aload_n 1, 1) := by decide +kernel
theorem dX6_takeCorner_95 : decode cX6_takeCorner 95 = .ok (.getfield 167, 3) := by decide +kernel
theorem dX6_takeCorner_98 : decode cX6_takeCorner 98 = .ok (.iconst 3, 1) := by decide +kernel
theorem dX6_takeCorner_99 : decode cX6_takeCorner 99 = .ok (.iload_n 2, 1) := by decide +kernel
theorem dX6_takeCorner_100 : decode cX6_takeCorner 100 = .ok (.imul, 1) := by decide +kernel
theorem dX6_takeCorner_101 : decode cX6_takeCorner 101 = .ok (.iload 4, 2) := by decide +kernel
theorem dX6_takeCorner_103 : decode cX6_takeCorner 103 = .ok (.iadd, 1) := by decide +kernel
theorem dX6_takeCorner_104 : decode cX6_takeCorner 104 = .ok (.aload_n 0, 1) := by decide +kernel
theorem dX6_takeCorner_105 : decode cX6_takeCorner 105 = .ok (.getfield 31, 3) := by decide +kernel
theorem dX6_takeCorner_108 : decode cX6_takeCorner 108 = .ok (.iastore, 1) := by decide +kernel
theorem dX6_takeCorner_109 : decode cX6_takeCorner 109 = .ok (.iinc 3 1, 3) := by decide +kernel
theorem dX6_takeCorner_112 : decode cX6_takeCorner 112 = .ok (.goto (-64), 3) := by decide +kernel
theorem dX6_takeCorner_115 : decode cX6_takeCorner 115 = .ok (.iconst 1, 1) := by decide +kernel
theorem dX6_takeCorner_116 : decode cX6_takeCorner 116 = .ok (.ireturn, 1) := by decide +kernel
theorem dX6_takeNewName_0 : decode cX6_takeNewName 0 = .ok (.aload_n 0, 1) := by decide +kernel
theorem dX6_takeNewName_1 : decode cX6_takeNewName 1 = .ok (.getfield 22, 3) := by decide +kernel
theorem dX6_takeNewName_4 : decode cX6_takeNewName 4 = .ok (.aload_n 0, 1) := by decide +kernel
theorem dX6_takeNewName_5 : decode cX6_takeNewName 5 = .ok (.getfield 28, 3) := by decide +kernel
theorem dX6_takeNewName_8 : decode cX6_takeNewName 8 = .ok (.isub, 1) := by decide +kernel
theorem dX6_takeNewName_9 : decode cX6_takeNewName 9 = .ok (.istore_n 2, 1) := by decide +kernel
theorem dX6_takeNewName_10 : decode cX6_takeNewName 10 = .ok (.aload_n 0, 1) := by decide +kernel
theorem dX6_takeNewName_11 : decode cX6_takeNewName 11 = .ok (.getfield 25, 3) := by decide +kernel
theorem dX6_takeNewName_14 : decode cX6_takeNewName 14 = .ok (.iconst 1, 1) := by decide +kernel
theorem dX6_takeNewName_15 : decode cX6_takeNewName 15 = .ok (.if_icmp .ne 34, 3) := by decide +kernel
theorem dX6_takeNewName_18 : decode cX6_takeNewName 18 = .ok (.iload_n 2, 1) := by decide +kernel
theorem dX6_takeNewName_19 : decode cX6_takeNewName 19 = .ok (.bipush 6, 2) := by decide +kernel
theorem dX6_takeNewName_21 : decode cX6_takeNewName 21 = .ok (.if_icmp .gt 28, 3) := by decide +kernel
theorem dX6_takeNewName_24 : decode cX6_takeNewName 24 = .ok (.aload_n 1, 1) := by decide +kernel
theorem dX6_takeNewName_25 : decode cX6_takeNewName 25 = .ok (.getfield 43, 3) := by decide +kernel
theorem dX6_takeNewName_28 : decode cX6_takeNewName 28 = .ok (.bipush 12, 2) := by decide +kernel
theorem dX6_takeNewName_30 : decode cX6_takeNewName 30 = .ok (.if_icmp .ge 19, 3) := by decide +kernel
theorem dX6_takeNewName_33 : decode cX6_takeNewName 33 = .ok (.aload_n 0, 1) := by decide +kernel
theorem dX6_takeNewName_34 : decode cX6_takeNewName 34 = .ok (.invokevirtual 170, 3) := by decide +kernel
theorem dX6_takeNewName_37 : decode cX6_takeNewName 37 = .ok (.ifCond .ne 12, 3) := by decide +kernel
theorem dX6_takeNewName_40 : decode cX6_takeNewName 40 = .ok (.aload_n 0, 1) := by decide +kernel
theorem dX6_takeNewName_41 : decode cX6_takeNewName 41 = .ok (.aload_n 1, 1) := by decide +kernel
theorem dX6_takeNewName_42 : decode cX6_takeNewName 42 = .ok (.invokevirtual 173, 3) := by decide +kernel
theorem dX6_takeNewName_45 : decode cX6_takeNewName 45 = .ok (.iconst (-1), 1) := by decide +kernel
theorem dX6_takeNewName_46 : decode cX6_takeNewName 46 = .ok (.if_icmp .eq 5, 3) := by decide +kernel
theorem dX6_takeNewName_49 : decode cX6_takeNewName 49 = .ok (.iconst 0, 1) := by decide +kernel
theorem dX6_takeNewName_50 : decode cX6_takeNewName 50 = .ok (.ireturn, 1) := by decide +kernel
theorem dX6_takeNewName_51 : decode cX6_takeNewName 51 = .ok (.aload_n 0, 1) := by decide +kernel
theorem dX6_takeNewName_52 : decode cX6_takeNewName 52 = .ok (.getfield 9, 3) := by decide +kernel
theorem dX6_takeNewName_55 : decode cX6_takeNewName 55 = .ok (.aload_n 0, 1) := by decide +kernel
theorem dX6_takeNewName_56 : decode cX6_takeNewName 56 = .ok (.getfield 28, 3) := by decide +kernel
theorem dX6_takeNewName_59 : decode cX6_takeNewName 59 = .ok (.aload_n 1, 1) := by decide +kernel
theorem dX6_takeNewName_60 : decode cX6_takeNewName 60 = .ok (.getfield 126, 3) := by decide +kernel
theorem dX6_takeNewName_63 : decode cX6_takeNewName 63 = .ok (.bipush 6, 2) := by decide +kernel
theorem dX6_takeNewName_65 : decode cX6_takeNewName 65 = .ok (.aload_n 1, 1) := by decide +kernel
theorem dX6_takeNewName_66 : decode cX6_takeNewName 66 = .ok (.getfield 43, 3) := by decide +kernel
theorem dX6_takeNewName_69 : decode cX6_takeNewName 69 = .ok (.imul, 1) := by decide +kernel
theorem dX6_takeNewName_70 : decode cX6_takeNewName 70 = .ok (.iload_n 2, 1) := by decide +kernel
theorem dX6_takeNewName_71 : decode cX6_takeNewName 71 = .ok (.invokestatic 177, 3) := by decide +kernel
theorem dX6_takeNewName_74 : decode cX6_takeNewName 74 = .ok (.aload_n 1, 1) := by decide +kernel
theorem dX6_takeNewName_75 : decode cX6_takeNewName 75 = .ok (.getfield 123, 3) := by decide +kernel
theorem dX6_takeNewName_78 : decode cX6_takeNewName 78 = .ok (.aload_n 1, 1) := by decide +kernel
theorem dX6_takeNewName_79 : decode cX6_takeNewName 79 = .ok (.getfield 43, 3) := by decide +kernel
theorem dX6_takeNewName_82 : decode cX6_takeNewName 82 = .ok (.iload_n 2, 1) := by decide +kernel
theorem dX6_takeNewName_83 : decode cX6_takeNewName 83 = .ok (.iastore, 1) := by decide +kernel
theorem dX6_takeNewName_84 : decode cX6_takeNewName 84 = .ok (.aload_n 1, 1) := by decide +kernel
theorem dX6_takeNewName_85 : decode cX6_takeNewName 85 = .ok (.dup, 1) := by decide +kernel
theorem dX6_takeNewName_86 : decode cX6_takeNewName 86 = .ok (.getfield 43, 3) := by decide +kernel
theorem dX6_takeNewName_89 : decode cX6_takeNewName 89 = .ok (.iconst 1, 1) := by decide +kernel
theorem dX6_takeNewName_90 : decode cX6_takeNewName 90 = .ok (.iadd, 1) := by decide +kernel
theorem dX6_takeNewName_91 : decode cX6_takeNewName 91 = .ok (.putfield 43, 3) := by decide +kernel
theorem dX6_takeNewName_94 : decode cX6_takeNewName 94 = .ok (.aload_n 0, 1) := by decide +kernel
theorem dX6_takeNewName_95 : decode cX6_takeNewName 95 = .ok (.invokevirtual 74, 3) := by decide +kernel
theorem dX6_takeNewName_98 : decode cX6_takeNewName 98 = .ok (.iconst 1, 1) := by decide +kernel
theorem dX6_takeNewName_99 : decode cX6_takeNewName 99 = .ok (.ireturn, 1) := by decide +kernel
theorem dX6_breadNamed_0 : decode cX6_breadNamed 0 = .ok (.aload_n 0, 1) := by decide +kernel
theorem dX6_breadNamed_1 : decode cX6_breadNamed 1 = .ok (.ldc 107, 2) := by decide +kernel
theorem dX6_breadNamed_3 : decode cX6_breadNamed 3 = .ok (.invokevirtual 60, 3) := by decide +kernel
theorem dX6_breadNamed_6 : decode cX6_breadNamed 6 = .ok (.ifCond .eq 5, 3) := by decide +kernel
theorem dX6_breadNamed_9 : decode cX6_breadNamed 9 = .ok (.iconst 0, 1) := by decide +kernel
theorem dX6_breadNamed_10 : decode cX6_breadNamed 10 = .ok (.ireturn, 1) := by decide +kernel
theorem dX6_breadNamed_11 : decode cX6_breadNamed 11 = .ok (.aload_n 0, 1) := by decide +kernel
theorem dX6_breadNamed_12 : decode cX6_breadNamed 12 = .ok (.ldc 109, 2) := by decide +kernel
theorem dX6_breadNamed_14 : decode cX6_breadNamed 14 = .ok (.invokevirtual 60, 3) := by decide +kernel
theorem dX6_breadNamed_17 : decode cX6_breadNamed 17 = .ok (.ifCond .eq 5, 3) := by decide +kernel
theorem dX6_breadNamed_20 : decode cX6_breadNamed 20 = .ok (.iconst 1, 1) := by decide +kernel
theorem dX6_breadNamed_21 : decode cX6_breadNamed 21 = .ok (.ireturn, 1) := by decide +kernel
theorem dX6_breadNamed_22 : decode cX6_breadNamed 22 = .ok (.aload_n 0, 1) := by decide +kernel
theorem dX6_breadNamed_23 : decode cX6_breadNamed 23 = .ok (.ldc 111, 2) := by decide +kernel
theorem dX6_breadNamed_25 : decode cX6_breadNamed 25 = .ok (.invokevirtual 60, 3) := by decide +kernel
theorem dX6_breadNamed_28 : decode cX6_breadNamed 28 = .ok (.ifCond .eq 7, 3) := by decide +kernel
theorem dX6_breadNamed_31 : decode cX6_breadNamed 31 = .ok (.iconst 2, 1) := by decide +kernel
theorem dX6_breadNamed_32 : decode cX6_breadNamed 32 = .ok (.goto 4, 3) := by decide +kernel
theorem dX6_breadNamed_35 : decode cX6_breadNamed 35 = .ok (.iconst (-1), 1) := by decide +kernel
theorem dX6_breadNamed_36 : decode cX6_breadNamed 36 = .ok (.ireturn, 1) := by decide +kernel
theorem dX6_takeStreet_0 : decode cX6_takeStreet 0 = .ok (.aload_n 1, 1) := by decide +kernel
theorem dX6_takeStreet_1 : decode cX6_takeStreet 1 = .ok (.getfield 183, 3) := by decide +kernel
theorem dX6_takeStreet_4 : decode cX6_takeStreet 4 = .ok (.istore_n 2, 1) := by decide +kernel
theorem dX6_takeStreet_5 : decode cX6_takeStreet 5 = .ok (.aload_n 0, 1) := by decide +kernel
theorem dX6_takeStreet_6 : decode cX6_takeStreet 6 = .ok (.aload_n 1, 1) := by decide +kernel
theorem dX6_takeStreet_7 : decode cX6_takeStreet 7 = .ok (.invokevirtual 173, 3) := by decide +kernel
theorem dX6_takeStreet_10 : decode cX6_takeStreet 10 = .ok (.istore_n 3, 1) := by decide +kernel
theorem dX6_takeStreet_11 : decode cX6_takeStreet 11 = .ok (.iload_n 2, 1) := by decide +kernel
theorem dX6_takeStreet_12 : decode cX6_takeStreet 12 = .ok (.bipush 16, 2) := by decide +kernel
theorem dX6_takeStreet_14 : decode cX6_takeStreet 14 = .ok (.if_icmp .ge 8, 3) := by decide +kernel
theorem dX6_takeStreet_17 : decode cX6_takeStreet 17 = .ok (.iload_n 3, 1) := by decide +kernel
theorem dX6_takeStreet_18 : decode cX6_takeStreet 18 = .ok (.iconst (-1), 1) := by decide +kernel
theorem dX6_takeStreet_19 : decode cX6_takeStreet 19 = .ok (.if_icmp .ne 5, 3) := by decide +kernel
theorem dX6_takeStreet_22 : decode cX6_takeStreet 22 = .ok (.iconst 0, 1) := by decide +kernel
theorem dX6_takeStreet_23 : decode cX6_takeStreet 23 = .ok (.ireturn, 1) := by decide +kernel
theorem dX6_takeStreet_24 : decode cX6_takeStreet 24 = .ok (.aload_n 0, 1) := by decide +kernel
theorem dX6_takeStreet_25 : decode cX6_takeStreet 25 = .ok (.invokevirtual 74, 3) := by decide +kernel
theorem dX6_takeStreet_28 : decode cX6_takeStreet 28 = .ok (.aload_n 0, 1) := by decide +kernel
theorem dX6_takeStreet_29 : decode cX6_takeStreet 29 = .ok (.aload_n 1, 1) := by decide +kernel
theorem dX6_takeStreet_30 : decode cX6_takeStreet 30 = .ok (.invokevirtual 173, 3) := by decide +kernel
theorem dX6_takeStreet_33 : decode cX6_takeStreet 33 = .ok (.istore 4, 2) := by decide +kernel
theorem dX6_takeStreet_35 : decode cX6_takeStreet 35 = .ok (.iload 4, 2) := by decide +kernel
theorem dX6_takeStreet_37 : decode cX6_takeStreet 37 = .ok (.iconst (-1), 1) := by decide +kernel
theorem dX6_takeStreet_38 : decode cX6_takeStreet 38 = .ok (.if_icmp .eq 19, 3) := by decide +kernel
theorem dX6_takeStreet_41 : decode cX6_takeStreet 41 = .ok (.iload 4, 2) := by decide +kernel
theorem dX6_takeStreet_43 : decode cX6_takeStreet 43 = .ok (.iload_n 3, 1) := by decide +kernel
theorem dX6_takeStreet_44 : decode cX6_takeStreet 44 = .ok (.if_icmp .eq 13, 3) := by decide +kernel
theorem dX6_takeStreet_47 : decode cX6_takeStreet 47 = .ok (.aload_n 1, 1) := by decide +kernel
theorem dX6_takeStreet_48 : decode cX6_takeStreet 48 = .ok (.iload_n 3, 1) := by decide +kernel
theorem dX6_takeStreet_49 : decode cX6_takeStreet 49 = .ok (.iload 4, 2) := by decide +kernel
theorem dX6_takeStreet_51 : decode cX6_takeStreet 51 = .ok (.invokevirtual 186, 3) := by decide +kernel
theorem dX6_takeStreet_54 : decode cX6_takeStreet 54 = .ok (.ifCond .eq 5, 3) := by decide +kernel
theorem dX6_takeStreet_57 : decode cX6_takeStreet 57 = .ok (.iconst 0, 1) := by decide +kernel
theorem dX6_takeStreet_58 : decode cX6_takeStreet 58 = .ok (.ireturn, 1) := by decide +kernel
theorem dX6_takeStreet_59 : decode cX6_takeStreet 59 = .ok (.aload_n 0, 1) := by decide +kernel
theorem dX6_takeStreet_60 : decode cX6_takeStreet 60 = .ok (.invokevirtual 74, 3) := by decide +kernel
theorem dX6_takeStreet_63 : decode cX6_takeStreet 63 = .ok (.aload_n 0, 1) := by decide +kernel
theorem dX6_takeStreet_64 : decode cX6_takeStreet 64 = .ok (.iconst 1, 1) := by decide +kernel
theorem dX6_takeStreet_65 : decode cX6_takeStreet 65 = .ok (.bipush 12, 2) := by decide +kernel
theorem dX6_takeStreet_67 : decode cX6_takeStreet 67 = .ok (.invokevirtual 138, 3) := by decide +kernel
theorem dX6_takeStreet_70 : decode cX6_takeStreet 70 = .ok (.ifCond .ne 5, 3) := by decide +kernel
theorem dX6_takeStreet_73 : decode cX6_takeStreet 73 = .ok (.iconst 0, 1) := by decide +kernel
theorem dX6_takeStreet_74 : decode cX6_takeStreet 74 = .ok (.ireturn, 1) := by decide +kernel
theorem dX6_takeStreet_75 : decode cX6_takeStreet 75 = .ok (.aload_n 1, 1) := by decide +kernel
theorem dX6_takeStreet_76 : decode cX6_takeStreet 76 = .ok (.getfield 189, 3) := by decide +kernel
theorem dX6_takeStreet_79 : decode cX6_takeStreet 79 = .ok (.iload_n 2, 1) := by decide +kernel
theorem dX6_takeStreet_80 : decode cX6_takeStreet 80 = .ok (.iload_n 3, 1) := by decide +kernel
theorem dX6_takeStreet_81 : decode cX6_takeStreet 81 = .ok (.iastore, 1) := by decide +kernel
theorem dX6_takeStreet_82 : decode cX6_takeStreet 82 = .ok (.aload_n 1, 1) := by decide +kernel
theorem dX6_takeStreet_83 : decode cX6_takeStreet 83 = .ok (.getfield 192, 3) := by decide +kernel
theorem dX6_takeStreet_86 : decode cX6_takeStreet 86 = .ok (.iload_n 2, 1) := by decide +kernel
theorem dX6_takeStreet_87 : decode cX6_takeStreet 87 = .ok (.iload 4, 2) := by decide +kernel
theorem dX6_takeStreet_89 : decode cX6_takeStreet 89 = .ok (.iastore, 1) := by decide +kernel
theorem dX6_takeStreet_90 : decode cX6_takeStreet 90 = .ok (.aload_n 1, 1) := by decide +kernel
theorem dX6_takeStreet_91 : decode cX6_takeStreet 91 = .ok (.getfield 195, 3) := by decide +kernel
theorem dX6_takeStreet_94 : decode cX6_takeStreet 94 = .ok (.iload_n 2, 1) := by decide +kernel
theorem dX6_takeStreet_95 : decode cX6_takeStreet 95 = .ok (.aload_n 0, 1) := by decide +kernel
theorem dX6_takeStreet_96 : decode cX6_takeStreet 96 = .ok (.getfield 31, 3) := by decide +kernel
theorem dX6_takeStreet_99 : decode cX6_takeStreet 99 = .ok (.iastore, 1) := by decide +kernel
theorem dX6_takeStreet_100 : decode cX6_takeStreet 100 = .ok (.aload_n 1, 1) := by decide +kernel
theorem dX6_takeStreet_101 : decode cX6_takeStreet 101 = .ok (.dup, 1) := by decide +kernel
theorem dX6_takeStreet_102 : decode cX6_takeStreet 102 = .ok (.getfield 183, 3) := by decide +kernel
theorem dX6_takeStreet_105 : decode cX6_takeStreet 105 = .ok (.iconst 1, 1) := by decide +kernel
theorem dX6_takeStreet_106 : decode cX6_takeStreet 106 = .ok (.iadd, 1) := by decide +kernel
theorem dX6_takeStreet_107 : decode cX6_takeStreet 107 = .ok (.putfield 183, 3) := by decide +kernel
theorem dX6_takeStreet_110 : decode cX6_takeStreet 110 = .ok (.aload_n 0, 1) := by decide +kernel
theorem dX6_takeStreet_111 : decode cX6_takeStreet 111 = .ok (.ldc 95, 2) := by decide +kernel
theorem dX6_takeStreet_113 : decode cX6_takeStreet 113 = .ok (.invokevirtual 129, 3) := by decide +kernel
theorem dX6_takeStreet_116 : decode cX6_takeStreet 116 = .ok (.ifCond .eq 25, 3) := by decide +kernel
theorem dX6_takeStreet_119 : decode cX6_takeStreet 119 = .ok (.aload_n 0, 1) := by decide +kernel
theorem dX6_takeStreet_120 : decode cX6_takeStreet 120 = .ok (.iconst 0, 1) := by decide +kernel
theorem dX6_takeStreet_121 : decode cX6_takeStreet 121 = .ok (.bipush 20, 2) := by decide +kernel
theorem dX6_takeStreet_123 : decode cX6_takeStreet 123 = .ok (.invokevirtual 138, 3) := by decide +kernel
theorem dX6_takeStreet_126 : decode cX6_takeStreet 126 = .ok (.istore 5, 2) := by decide +kernel
theorem dX6_takeStreet_128 : decode cX6_takeStreet 128 = .ok (.aload_n 1, 1) := by decide +kernel
theorem dX6_takeStreet_129 : decode cX6_takeStreet 129 = .ok (.getfield 198, 3) := by decide +kernel
theorem dX6_takeStreet_132 : decode cX6_takeStreet 132 = .ok (.iload_n 2, 1) := by decide +kernel
theorem dX6_takeStreet_133 : decode cX6_takeStreet 133 = .ok (.aload_n 0, 1) := by decide +kernel
theorem dX6_takeStreet_134 : decode cX6_takeStreet 134 = .ok (.getfield 31, 3) := by decide +kernel
theorem dX6_takeStreet_137 : decode cX6_takeStreet 137 = .ok (.iastore, 1) := by decide +kernel
theorem dX6_takeStreet_138 : decode cX6_takeStreet 138 = .ok (.iload 5, 2) := by decide +kernel
theorem dX6_takeStreet_140 : decode cX6_takeStreet 140 = .ok (.ireturn, 1) := by decide +kernel
theorem dX6_takeStreet_141 : decode cX6_takeStreet 141 = .ok (.iconst 1, 1) := by decide +kernel
theorem dX6_takeStreet_142 : decode cX6_takeStreet 142 = .ok (.ireturn, 1) := by decide +kernel
theorem dX6_takeRule_0 : decode cX6_takeRule 0 = .ok (.iconst 0, 1) := by decide +kernel
theorem dX6_takeRule_1 : decode cX6_takeRule 1 = .ok (.istore 4, 2) := by decide +kernel
theorem dX6_takeRule_3 : decode cX6_takeRule 3 = .ok (.aload_n 0, 1) := by decide +kernel
theorem dX6_takeRule_4 : decode cX6_takeRule 4 = .ok (.ldc 113, 2) := by decide +kernel
theorem dX6_takeRule_6 : decode cX6_takeRule 6 = .ok (.invokevirtual 129, 3) := by decide +kernel
theorem dX6_takeRule_9 : decode cX6_takeRule 9 = .ok (.ifCond .eq 28, 3) := by decide +kernel
theorem dX6_takeRule_12 : decode cX6_takeRule 12 = .ok (.aload_n 0, 1) := by decide +kernel
theorem dX6_takeRule_13 : decode cX6_takeRule 13 = .ok (.iconst 0, 1) := by decide +kernel
theorem dX6_takeRule_14 : decode cX6_takeRule 14 = .ok (.bipush 99, 2) := by decide +kernel
theorem dX6_takeRule_16 : decode cX6_takeRule 16 = .ok (.invokevirtual 138, 3) := by decide +kernel
theorem dX6_takeRule_19 : decode cX6_takeRule 19 = .ok (.istore 4, 2) := by decide +kernel
theorem dX6_takeRule_21 : decode cX6_takeRule 21 = .ok (.aload_n 2, 1) := by decide +kernel
theorem dX6_takeRule_22 : decode cX6_takeRule 22 = .ok (.getfield 201, 3) := by decide +kernel
theorem dX6_takeRule_25 : decode cX6_takeRule 25 = .ok (.aload_n 2, 1) := by decide +kernel
theorem dX6_takeRule_26 : decode cX6_takeRule 26 = .ok (.getfield 203, 3) := by decide +kernel
theorem dX6_takeRule_29 : decode cX6_takeRule 29 = .ok (.aload_n 0, 1) := by decide +kernel
theorem dX6_takeRule_30 : decode cX6_takeRule 30 = .ok (.getfield 31, 3) := by decide +kernel
theorem dX6_takeRule_33 : decode cX6_takeRule 33 = .ok (.iastore, 1) := by decide +kernel
theorem dX6_takeRule_34 : decode cX6_takeRule 34 = .ok (.goto 83, 3) := by decide +kernel
theorem dX6_takeRule_37 : decode cX6_takeRule 37 = .ok (.aload_n 0, 1) := by decide +kernel
theorem dX6_takeRule_38 : decode cX6_takeRule 38 = .ok (.ldc 117, 2) := by decide +kernel
theorem dX6_takeRule_40 : decode cX6_takeRule 40 = .ok (.invokevirtual 129, 3) := by decide +kernel
theorem dX6_takeRule_43 : decode cX6_takeRule 43 = .ok (.ifCond .eq 33, 3) := by decide +kernel
theorem dX6_takeRule_46 : decode cX6_takeRule 46 = .ok (.aload_n 0, 1) := by decide +kernel
theorem dX6_takeRule_47 : decode cX6_takeRule 47 = .ok (.aload_n 1, 1) := by decide +kernel
theorem dX6_takeRule_48 : decode cX6_takeRule 48 = .ok (.getfield 153, 3) := by decide +kernel
theorem dX6_takeRule_51 : decode cX6_takeRule 51 = .ok (.aload_n 1, 1) := by decide +kernel
theorem dX6_takeRule_52 : decode cX6_takeRule 52 = .ok (.getfield 156, 3) := by decide +kernel
theorem dX6_takeRule_55 : decode cX6_takeRule 55 = .ok (.invokevirtual 138, 3) := by decide +kernel
theorem dX6_takeRule_58 : decode cX6_takeRule 58 = .ok (.istore 4, 2) := by decide +kernel
theorem dX6_takeRule_60 : decode cX6_takeRule 60 = .ok (.aload_n 2, 1) := by decide +kernel
theorem dX6_takeRule_61 : decode cX6_takeRule 61 = .ok (.getfield 206, 3) := by decide +kernel
theorem dX6_takeRule_64 : decode cX6_takeRule 64 = .ok (.aload_n 2, 1) := by decide +kernel
theorem dX6_takeRule_65 : decode cX6_takeRule 65 = .ok (.getfield 203, 3) := by decide +kernel
theorem dX6_takeRule_68 : decode cX6_takeRule 68 = .ok (.aload_n 0, 1) := by decide +kernel
theorem dX6_takeRule_69 : decode cX6_takeRule 69 = .ok (.getfield 31, 3) := by decide +kernel
theorem dX6_takeRule_72 : decode cX6_takeRule 72 = .ok (.iastore, 1) := by decide +kernel
theorem dX6_takeRule_73 : decode cX6_takeRule 73 = .ok (.goto 44, 3) := by decide +kernel
theorem dX6_takeRule_76 : decode cX6_takeRule 76 = .ok (.aload_n 0, 1) := by decide +kernel
theorem dX6_takeRule_77 : decode cX6_takeRule 77 = .ok (.ldc 115, 2) := by decide +kernel
theorem dX6_takeRule_79 : decode cX6_takeRule 79 = .ok (.invokevirtual 129, 3) := by decide +kernel
theorem dX6_takeRule_82 : decode cX6_takeRule 82 = .ok (.ifCond .eq 16, 3) := by decide +kernel
theorem dX6_takeRule_85 : decode cX6_takeRule 85 = .ok (.aload_n 0, 1) := by decide +kernel
theorem dX6_takeRule_86 : decode cX6_takeRule 86 = .ok (.aload_n 1, 1) := by decide +kernel
theorem dX6_takeRule_87 : decode cX6_takeRule 87 = .ok (.aload_n 2, 1) := by decide +kernel
theorem dX6_takeRule_88 : decode cX6_takeRule 88 = .ok (.iconst 0, 1) := by decide +kernel
theorem dX6_takeRule_89 : decode cX6_takeRule 89 = .ok (.iconst 1, 1) := by decide +kernel
theorem dX6_takeRule_90 : decode cX6_takeRule 90 = .ok (.invokevirtual 208, 3) := by decide +kernel
theorem dX6_takeRule_93 : decode cX6_takeRule 93 = .ok (.istore 4, 2) := by decide +kernel
theorem dX6_takeRule_95 : decode cX6_takeRule 95 = .ok (.goto 22, 3) := by decide +kernel
theorem dX6_takeRule_98 : decode cX6_takeRule 98 = .ok (.aload_n 0, 1) := by decide +kernel
theorem dX6_takeRule_99 : decode cX6_takeRule 99 = .ok (.ldc 58, 2) := by decide +kernel
theorem dX6_takeRule_101 : decode cX6_takeRule 101 = .ok (.invokevirtual 129, 3) := by decide +kernel
theorem dX6_takeRule_104 : decode cX6_takeRule 104 = .ok (.ifCond .eq 13, 3) := by decide +kernel
theorem dX6_takeRule_107 : decode cX6_takeRule 107 = .ok (.aload_n 0, 1) := by decide +kernel
theorem dX6_takeRule_108 : decode cX6_takeRule 108 = .ok (.aload_n 1, 1) := by decide +kernel
theorem dX6_takeRule_109 : decode cX6_takeRule 109 = .ok (.aload_n 2, 1) := by decide +kernel
theorem dX6_takeRule_110 : decode cX6_takeRule 110 = .ok (.iconst 1, 1) := by decide +kernel
theorem dX6_takeRule_111 : decode cX6_takeRule 111 = .ok (.iload_n 3, 1) := by decide +kernel
theorem dX6_takeRule_112 : decode cX6_takeRule 112 = .ok (.invokevirtual 208, 3) := by decide +kernel
theorem dX6_takeRule_115 : decode cX6_takeRule 115 = .ok (.istore 4, 2) := by decide +kernel
theorem dX6_takeRule_117 : decode cX6_takeRule 117 = .ok (.iload 4, 2) := by decide +kernel
theorem dX6_takeRule_119 : decode cX6_takeRule 119 = .ok (.ifCond .eq 14, 3) := by decide +kernel
theorem dX6_takeRule_122 : decode cX6_takeRule 122 = .ok (.aload_n 0, 1) := by decide +kernel
theorem dX6_takeRule_123 : decode cX6_takeRule 123 = .ok (.invokevirtual 149, 3) := by decide +kernel
theorem dX6_takeRule_126 : decode cX6_takeRule 126 = .ok (.ifCond .eq 7, 3) := by decide +kernel
theorem dX6_takeRule_129 : decode cX6_takeRule 129 = .ok (.iconst 1, 1) := by decide +kernel
theorem dX6_takeRule_130 : decode cX6_takeRule 130 = .ok (.goto 4, 3) := by decide +kernel
theorem dX6_takeRule_133 : decode cX6_takeRule 133 = .ok (.iconst 0, 1) := by decide +kernel
theorem dX6_takeRule_134 : decode cX6_takeRule 134 = .ok (.ireturn, 1) := by decide +kernel
theorem dX6_takeBetween_0 : decode cX6_takeBetween 0 = .ok (.aload_n 0, 1) := by decide +kernel
theorem dX6_takeBetween_1 : decode cX6_takeBetween 1 = .ok (.aload_n 1, 1) := by decide +kernel
theorem dX6_takeBetween_2 : decode cX6_takeBetween 2 = .ok (.invokevirtual 173, 3) := by decide +kernel
theorem dX6_takeBetween_5 : decode cX6_takeBetween 5 = .ok (.istore 5, 2) := by decide +kernel
theorem dX6_takeBetween_7 : decode cX6_takeBetween 7 = .ok (.iload 5, 2) := by decide +kernel
theorem dX6_takeBetween_9 : decode cX6_takeBetween 9 = .ok (.iconst (-1), 1) := by decide +kernel
theorem dX6_takeBetween_10 : decode cX6_takeBetween 10 = .ok (.if_icmp .ne 5, 3) := by decide +kernel
theorem dX6_takeBetween_13 : decode cX6_takeBetween 13 = .ok (.iconst 0, 1) := by decide +kernel
theorem dX6_takeBetween_14 : decode cX6_takeBetween 14 = .ok (.ireturn, 1) := by decide +kernel
theorem dX6_takeBetween_15 : decode cX6_takeBetween 15 = .ok (.aload_n 0, 1) := by decide +kernel
theorem dX6_takeBetween_16 : decode cX6_takeBetween 16 = .ok (.invokevirtual 74, 3) := by decide +kernel
theorem dX6_takeBetween_19 : decode cX6_takeBetween 19 = .ok (.aload_n 0, 1) := by decide +kernel
theorem dX6_takeBetween_20 : decode cX6_takeBetween 20 = .ok (.aload_n 1, 1) := by decide +kernel
theorem dX6_takeBetween_21 : decode cX6_takeBetween 21 = .ok (.invokevirtual 173, 3) := by decide +kernel
theorem dX6_takeBetween_24 : decode cX6_takeBetween 24 = .ok (.istore 6, 2) := by decide +kernel
theorem dX6_takeBetween_26 : decode cX6_takeBetween 26 = .ok (.iload 6, 2) := by decide +kernel
theorem dX6_takeBetween_28 : decode cX6_takeBetween 28 = .ok (.iconst (-1), 1) := by decide +kernel
theorem dX6_takeBetween_29 : decode cX6_takeBetween 29 = .ok (.if_icmp .eq 10, 3) := by decide +kernel
theorem dX6_takeBetween_32 : decode cX6_takeBetween 32 = .ok (.iload 6, 2) := by decide +kernel
theorem dX6_takeBetween_34 : decode cX6_takeBetween 34 = .ok (.iload 5, 2) := by decide +kernel
theorem dX6_takeBetween_36 : decode cX6_takeBetween 36 = .ok (.if_icmp .ne 5, 3) := by decide +kernel
theorem dX6_takeBetween_39 : decode cX6_takeBetween 39 = .ok (.iconst 0, 1) := by decide +kernel
theorem dX6_takeBetween_40 : decode cX6_takeBetween 40 = .ok (.ireturn, 1) := by decide +kernel
theorem dX6_takeBetween_41 : decode cX6_takeBetween 41 = .ok (.aload_n 0, 1) := by decide +kernel
theorem dX6_takeBetween_42 : decode cX6_takeBetween 42 = .ok (.invokevirtual 74, 3) := by decide +kernel
theorem dX6_takeBetween_45 : decode cX6_takeBetween 45 = .ok (.iload_n 3, 1) := by decide +kernel
theorem dX6_takeBetween_46 : decode cX6_takeBetween 46 = .ok (.ifCond .eq 20, 3) := by decide +kernel
theorem dX6_takeBetween_49 : decode cX6_takeBetween 49 = .ok (.iload 4, 2) := by decide +kernel
theorem dX6_takeBetween_51 : decode cX6_takeBetween 51 = .ok (.ifCond .eq 13, 3) := by decide +kernel
theorem dX6_takeBetween_54 : decode cX6_takeBetween 54 = .ok (.aload_n 0, 1) := by decide +kernel
theorem dX6_takeBetween_55 : decode cX6_takeBetween 55 = .ok (.iconst 1, 1) := by decide +kernel
theorem dX6_takeBetween_56 : decode cX6_takeBetween 56 = .ok (.bipush 12, 2) := by decide +kernel
theorem dX6_takeBetween_58 : decode cX6_takeBetween 58 = .ok (.invokevirtual 138, 3) := by decide +kernel
theorem dX6_takeBetween_61 : decode cX6_takeBetween 61 = .ok (.ifCond .ne 5, 3) := by decide +kernel
theorem dX6_takeBetween_64 : decode cX6_takeBetween 64 = .ok (.iconst 0, 1) := by decide +kernel
theorem dX6_takeBetween_65 : decode cX6_takeBetween 65 = .ok (.ireturn, 1) := by decide +kernel
theorem dX6_takeBetween_66 : decode cX6_takeBetween 66 = .ok (.aload_n 2, 1) := by decide +kernel
theorem dX6_takeBetween_67 : decode cX6_takeBetween 67 = .ok (.iload 5, 2) := by decide +kernel
theorem dX6_takeBetween_69 : decode cX6_takeBetween 69 = .ok (.iload 6, 2) := by decide +kernel
theorem dX6_takeBetween_71 : decode cX6_takeBetween 71 = .ok (.iload_n 3, 1) := by decide +kernel
theorem dX6_takeBetween_72 : decode cX6_takeBetween 72 = .ok (.ifCond .eq 10, 3) := by decide +kernel
theorem dX6_takeBetween_75 : decode cX6_takeBetween 75 = .ok (.aload_n 0, 1) := by decide +kernel
theorem dX6_takeBetween_76 : decode cX6_takeBetween 76 = .ok (.getfield 31, 3) := by decide +kernel
theorem dX6_takeBetween_79 : decode cX6_takeBetween 79 = .ok (.goto 4, 3) := by decide +kernel
theorem dX6_takeBetween_82 : decode cX6_takeBetween 82 = .ok (.iconst 0, 1) := by decide +kernel
theorem dX6_takeBetween_83 : decode cX6_takeBetween 83 = .ok (.invokevirtual 212, 3) := by decide +kernel
theorem dX6_takeBetween_86 : decode cX6_takeBetween 86 = .ok (.iconst 1, 1) := by decide +kernel
theorem dX6_takeBetween_87 : decode cX6_takeBetween 87 = .ok (.ireturn, 1) := by decide +kernel
