theorem dX12_lays_192 : decode cX12_lays 192 = .ok (.aload_n 0, 1) := by decide +kernel
theorem dX12_lays_193 : decode cX12_lays 193 = .ok (.getfield 345, 3) := by decide +kernel
theorem dX12_lays_196 : decode cX12_lays 196 = .ok (.iconst 0, 1) := by decide +kernel
theorem dX12_lays_197 : decode cX12_lays 197 = .ok (.bastore, 1) := by decide +kernel
theorem dX12_lays_198 : decode cX12_lays 198 = .ok (.aload_n 0, 1) := by decide +kernel
theorem dX12_lays_199 : decode cX12_lays 199 = .ok (.dup, 1) := by decide +kernel
theorem dX12_lays_200 : decode cX12_lays 200 = .ok (.getfield 345, 3) := by decide +kernel
theorem dX12_lays_203 : decode cX12_lays 203 = .ok (.iconst 1, 1) := by decide +kernel
theorem dX12_lays_204 : decode cX12_lays 204 = .ok (.iadd, 1) := by decide +kernel
theorem dX12_lays_205 : decode cX12_lays 205 = .ok (.putfield 345, 3) := by decide +kernel
theorem dX12_lays_208 : decode cX12_lays 208 = .ok (.return_, 1) := by decide +kernel
theorem dX12_force_0 : decode cX12_force 0 = .ok (.iload_n 1, 1) := by decide +kernel
theorem dX12_force_1 : decode cX12_force 1 = .ok (.iconst (-1), 1) := by decide +kernel
theorem dX12_force_2 : decode cX12_force 2 = .ok (.if_icmp .eq 19, 3) := by decide +kernel
theorem dX12_force_5 : decode cX12_force 5 = .ok (.iload_n 1, 1) := by decide +kernel
theorem dX12_force_6 : decode cX12_force 6 = .ok (.iconst 0, 1) := by decide +kernel
theorem dX12_force_7 : decode cX12_force 7 = .ok (.aload_n 0, 1) := by decide +kernel
theorem dX12_force_8 : decode cX12_force 8 = .ok (.getfield 332, 3) := by decide +kernel
theorem dX12_force_11 : decode cX12_force 11 = .ok (.iconst 1, 1) := by decide +kernel
theorem dX12_force_12 : decode cX12_force 12 = .ok (.isub, 1) := by decide +kernel
theorem dX12_force_13 : decode cX12_force 13 = .ok (.invokestatic 216, 3) := by decide +kernel
theorem dX12_force_16 : decode cX12_force 16 = .ok (.ifCond .ne 5, 3) := by decide +kernel
theorem dX12_force_19 : decode cX12_force 19 = .ok (.iconst 0, 1) := by decide +kernel
theorem dX12_force_20 : decode cX12_force 20 = .ok (.ireturn, 1) := by decide +kernel
theorem dX12_force_21 : decode cX12_force 21 = .ok (.aload_n 0, 1) := by decide +kernel
theorem dX12_force_22 : decode cX12_force 22 = .ok (.iload_n 1, 1) := by decide +kernel
theorem dX12_force_23 : decode cX12_force 23 = .ok (.putfield 73, 3) := by decide +kernel
theorem dX12_force_26 : decode cX12_force 26 = .ok (.aload_n 0, 1) := by decide +kernel
theorem dX12_force_27 : decode cX12_force 27 = .ok (.invokevirtual 338, 3) := by decide +kernel
theorem dX12_force_30 : decode cX12_force 30 = .ok (.iconst 1, 1) := by decide +kernel
theorem dX12_force_31 : decode cX12_force 31 = .ok (.ireturn, 1) := by decide +kernel
theorem dX12_isSpot_0 : decode cX12_isSpot 0 = .ok (.iload_n 1, 1) := by decide +kernel
theorem dX12_isSpot_1 : decode cX12_isSpot 1 = .ok (.bipush 100, 2) := by decide +kernel
theorem dX12_isSpot_3 : decode cX12_isSpot 3 = .ok (.if_icmp .ge 15, 3) := by decide +kernel
theorem dX12_isSpot_6 : decode cX12_isSpot 6 = .ok (.iload_n 1, 1) := by decide +kernel
theorem dX12_isSpot_7 : decode cX12_isSpot 7 = .ok (.iconst 0, 1) := by decide +kernel
theorem dX12_isSpot_8 : decode cX12_isSpot 8 = .ok (.aload_n 0, 1) := by decide +kernel
theorem dX12_isSpot_9 : decode cX12_isSpot 9 = .ok (.getfield 272, 3) := by decide +kernel
theorem dX12_isSpot_12 : decode cX12_isSpot 12 = .ok (.iconst 1, 1) := by decide +kernel
theorem dX12_isSpot_13 : decode cX12_isSpot 13 = .ok (.isub, 1) := by decide +kernel
theorem dX12_isSpot_14 : decode cX12_isSpot 14 = .ok (.invokestatic 216, 3) := by decide +kernel
theorem dX12_isSpot_17 : decode cX12_isSpot 17 = .ok (.ireturn, 1) := by decide +kernel
theorem dX12_isSpot_18 : decode cX12_isSpot 18 = .ok (.iload_n 1, 1) := by decide +kernel
theorem dX12_isSpot_19 : decode cX12_isSpot 19 = .ok (.bipush 100, 2) := by decide +kernel
theorem dX12_isSpot_21 : decode cX12_isSpot 21 = .ok (.bipush 20, 2) := by decide +kernel
theorem dX12_isSpot_23 : decode cX12_isSpot 23 = .ok (.aload_n 0, 1) := by decide +kernel
theorem dX12_isSpot_24 : decode cX12_isSpot 24 = .ok (.getfield 320, 3) := by decide +kernel
theorem dX12_isSpot_27 : decode cX12_isSpot 27 = .ok (.imul, 1) := by decide +kernel
theorem dX12_isSpot_28 : decode cX12_isSpot 28 = .ok (.iadd, 1) := by decide +kernel
theorem dX12_isSpot_29 : decode cX12_isSpot 29 = .ok (.if_icmp .ge 35, 3) := by decide +kernel
theorem dX12_isSpot_32 : decode cX12_isSpot 32 = .ok (.iload_n 1, 1) := by decide +kernel
theorem dX12_isSpot_33 : decode cX12_isSpot 33 = .ok (.bipush 100, 2) := by decide +kernel
theorem dX12_isSpot_35 : decode cX12_isSpot 35 = .ok (.isub, 1) := by decide +kernel
theorem dX12_isSpot_36 : decode cX12_isSpot 36 = .ok (.bipush 20, 2) := by decide +kernel
theorem dX12_isSpot_38 : decode cX12_isSpot 38 = .ok (.irem, 1) := by decide +kernel
theorem dX12_isSpot_39 : decode cX12_isSpot 39 = .ok (.iconst 1, 1) := by decide +kernel
theorem dX12_isSpot_40 : decode cX12_isSpot 40 = .ok (.aload_n 0, 1) := by decide +kernel
theorem dX12_isSpot_41 : decode cX12_isSpot 41 = .ok (.getfield 48, 3) := by decide +kernel
theorem dX12_isSpot_44 : decode cX12_isSpot 44 = .ok (.iload_n 1, 1) := by decide +kernel
theorem dX12_isSpot_45 : decode cX12_isSpot 45 = .ok (.bipush 100, 2) := by decide +kernel
theorem dX12_isSpot_47 : decode cX12_isSpot 47 = .ok (.isub, 1) := by decide +kernel
theorem dX12_isSpot_48 : decode cX12_isSpot 48 = .ok (.bipush 20, 2) := by decide +kernel
theorem dX12_isSpot_50 : decode cX12_isSpot 50 = .ok (.idiv, 1) := by decide +kernel
theorem dX12_isSpot_51 : decode cX12_isSpot 51 = .ok (.iaload, 1) := by decide +kernel
theorem dX12_isSpot_52 : decode cX12_isSpot 52 = .ok (.iconst 1, 1) := by decide +kernel
theorem dX12_isSpot_53 : decode cX12_isSpot 53 = .ok (.isub, 1) := by decide +kernel
theorem dX12_isSpot_54 : decode cX12_isSpot 54 = .ok (.invokestatic 216, 3) := by decide +kernel
theorem dX12_isSpot_57 : decode cX12_isSpot 57 = .ok (.ifCond .eq 7, 3) := by decide +kernel
theorem dX12_isSpot_60 : decode cX12_isSpot 60 = .ok (.iconst 1, 1) := by decide +kernel
theorem dX12_isSpot_61 : decode cX12_isSpot 61 = .ok (.goto 4, 3) := by decide +kernel
theorem dX12_isSpot_64 : decode cX12_isSpot 64 = .ok (.iconst 0, 1) := by decide +kernel
theorem dX12_isSpot_65 : decode cX12_isSpot 65 = .ok (.ireturn, 1) := by decide +kernel
theorem dX12_streetOf_0 : decode cX12_streetOf 0 = .ok (.iload_n 0, 1) := by decide +kernel
theorem dX12_streetOf_1 : decode cX12_streetOf 1 = .ok (.bipush 100, 2) := by decide +kernel
theorem dX12_streetOf_3 : decode cX12_streetOf 3 = .ok (.isub, 1) := by decide +kernel
theorem dX12_streetOf_4 : decode cX12_streetOf 4 = .ok (.bipush 20, 2) := by decide +kernel
theorem dX12_streetOf_6 : decode cX12_streetOf 6 = .ok (.idiv, 1) := by decide +kernel
theorem dX12_streetOf_7 : decode cX12_streetOf 7 = .ok (.ireturn, 1) := by decide +kernel
theorem dX12_partOf_0 : decode cX12_partOf 0 = .ok (.iload_n 0, 1) := by decide +kernel
theorem dX12_partOf_1 : decode cX12_partOf 1 = .ok (.bipush 100, 2) := by decide +kernel
theorem dX12_partOf_3 : decode cX12_partOf 3 = .ok (.isub, 1) := by decide +kernel
theorem dX12_partOf_4 : decode cX12_partOf 4 = .ok (.bipush 20, 2) := by decide +kernel
theorem dX12_partOf_6 : decode cX12_partOf 6 = .ok (.irem, 1) := by decide +kernel
theorem dX12_partOf_7 : decode cX12_partOf 7 = .ok (.ireturn, 1) := by decide +kernel
theorem dX12_toCorner_0 : decode cX12_toCorner 0 = .ok (.iload_n 1, 1) := by decide +kernel
theorem dX12_toCorner_1 : decode cX12_toCorner 1 = .ok (.bipush 100, 2) := by decide +kernel
theorem dX12_toCorner_3 : decode cX12_toCorner 3 = .ok (.if_icmp .ge 15, 3) := by decide +kernel
theorem dX12_toCorner_6 : decode cX12_toCorner 6 = .ok (.aload_n 0, 1) := by decide +kernel
theorem dX12_toCorner_7 : decode cX12_toCorner 7 = .ok (.getfield 100, 3) := by decide +kernel
theorem dX12_toCorner_10 : decode cX12_toCorner 10 = .ok (.bipush 12, 2) := by decide +kernel
theorem dX12_toCorner_12 : decode cX12_toCorner 12 = .ok (.iload_n 1, 1) := by decide +kernel
theorem dX12_toCorner_13 : decode cX12_toCorner 13 = .ok (.imul, 1) := by decide +kernel
theorem dX12_toCorner_14 : decode cX12_toCorner 14 = .ok (.iload_n 2, 1) := by decide +kernel
theorem dX12_toCorner_15 : decode cX12_toCorner 15 = .ok (.iadd, 1) := by decide +kernel
theorem dX12_toCorner_16 : decode cX12_toCorner 16 = .ok (.iaload, 1) := by decide +kernel
theorem dX12_toCorner_17 : decode cX12_toCorner 17 = .ok (.ireturn, 1) := by decide +kernel
theorem dX12_toCorner_18 : decode cX12_toCorner 18 = .ok (.iload_n 1, 1) := by decide +kernel
theorem dX12_toCorner_19 : decode cX12_toCorner 19 = .ok (.invokestatic 357, 3) := by decide +kernel
theorem dX12_toCorner_22 : decode cX12_toCorner 22 = .ok (.istore_n 3, 1) := by decide +kernel
theorem dX12_toCorner_23 : decode cX12_toCorner 23 = .ok (.aload_n 0, 1) := by decide +kernel
theorem dX12_toCorner_24 : decode cX12_toCorner 24 = .ok (.getfield 103, 3) := by decide +kernel
theorem dX12_toCorner_27 : decode cX12_toCorner 27 = .ok (.iload_n 3, 1) := by decide +kernel
theorem dX12_toCorner_28 : decode cX12_toCorner 28 = .ok (.baload, 1) := by decide +kernel
theorem dX12_toCorner_29 : decode cX12_toCorner 29 = .ok (.ifCond .eq 6, 3) := by decide +kernel
theorem dX12_toCorner_32 : decode cX12_toCorner 32 = .ok (.ldc 222, 2) := by decide +kernel
theorem dX12_toCorner_34 : decode cX12_toCorner 34 = .ok (.ireturn, 1) := by decide +kernel
theorem dX12_toCorner_35 : decode cX12_toCorner 35 = .ok (.iload_n 1, 1) := by decide +kernel
theorem dX12_toCorner_36 : decode cX12_toCorner 36 = .ok (.invokestatic 361, 3) := by decide +kernel
theorem dX12_toCorner_39 : decode cX12_toCorner 39 = .ok (.aload_n 0, 1) := by decide +kernel
theorem dX12_toCorner_40 : decode cX12_toCorner 40 = .ok (.getfield 100, 3) := by decide +kernel
theorem dX12_toCorner_43 : decode cX12_toCorner 43 = .ok (.bipush 12, 2) := by decide +kernel
theorem dX12_toCorner_45 : decode cX12_toCorner 45 = .ok (.aload_n 0, 1) := by decide +kernel
theorem dX12_toCorner_46 : decode cX12_toCorner 46 = .ok (.getfield 91, 3) := by decide +kernel
theorem dX12_toCorner_49 : decode cX12_toCorner 49 = .ok (.iload_n 3, 1) := by decide +kernel
theorem dX12_toCorner_50 : decode cX12_toCorner 50 = .ok (.iaload, 1) := by decide +kernel
theorem dX12_toCorner_51 : decode cX12_toCorner 51 = .ok (.imul, 1) := by decide +kernel
theorem dX12_toCorner_52 : decode cX12_toCorner 52 = .ok (.iload_n 2, 1) := by decide +kernel
theorem dX12_toCorner_53 : decode cX12_toCorner 53 = .ok (.iadd, 1) := by decide +kernel
theorem dX12_toCorner_54 : decode cX12_toCorner 54 = .ok (.iaload, 1) := by decide +kernel
theorem dX12_toCorner_55 : decode cX12_toCorner 55 = .ok (.iadd, 1) := by decide +kernel
theorem dX12_toCorner_56 : decode cX12_toCorner 56 = .ok (.aload_n 0, 1) := by decide +kernel
theorem dX12_toCorner_57 : decode cX12_toCorner 57 = .ok (.getfield 97, 3) := by decide +kernel
theorem dX12_toCorner_60 : decode cX12_toCorner 60 = .ok (.iload_n 3, 1) := by decide +kernel
theorem dX12_toCorner_61 : decode cX12_toCorner 61 = .ok (.iaload, 1) := by decide +kernel
theorem dX12_toCorner_62 : decode cX12_toCorner 62 = .ok (.iload_n 1, 1) := by decide +kernel
theorem dX12_toCorner_63 : decode cX12_toCorner 63 = .ok (.invokestatic 361, 3) := by decide +kernel
theorem dX12_toCorner_66 : decode cX12_toCorner 66 = .ok (.isub, 1) := by decide +kernel
theorem dX12_toCorner_67 : decode cX12_toCorner 67 = .ok (.aload_n 0, 1) := by decide +kernel
theorem dX12_toCorner_68 : decode cX12_toCorner 68 = .ok (.getfield 100, 3) := by decide +kernel
theorem dX12_toCorner_71 : decode cX12_toCorner 71 = .ok (.bipush 12, 2) := by decide +kernel
theorem dX12_toCorner_73 : decode cX12_toCorner 73 = .ok (.aload_n 0, 1) := by decide +kernel
theorem dX12_toCorner_74 : decode cX12_toCorner 74 = .ok (.getfield 94, 3) := by decide +kernel
theorem dX12_toCorner_77 : decode cX12_toCorner 77 = .ok (.iload_n 3, 1) := by decide +kernel
theorem dX12_toCorner_78 : decode cX12_toCorner 78 = .ok (.iaload, 1) := by decide +kernel
theorem dX12_toCorner_79 : decode cX12_toCorner 79 = .ok (.imul, 1) := by decide +kernel
theorem dX12_toCorner_80 : decode cX12_toCorner 80 = .ok (.iload_n 2, 1) := by decide +kernel
theorem dX12_toCorner_81 : decode cX12_toCorner 81 = .ok (.iadd, 1) := by decide +kernel
theorem dX12_toCorner_82 : decode cX12_toCorner 82 = .ok (.iaload, 1) := by decide +kernel
theorem dX12_toCorner_83 : decode cX12_toCorner 83 = .ok (.iadd, 1) := by decide +kernel
theorem dX12_toCorner_84 : decode cX12_toCorner 84 = .ok (.invokestatic 223, 3) := by decide +kernel
theorem dX12_toCorner_87 : decode cX12_toCorner 87 = .ok (.ireturn, 1) := by decide +kernel
theorem dX12_farOf_0 : decode cX12_farOf 0 = .ok (.iload_n 2, 1) := by decide +kernel
theorem dX12_farOf_1 : decode cX12_farOf 1 = .ok (.bipush 100, 2) := by decide +kernel
theorem dX12_farOf_3 : decode cX12_farOf 3 = .ok (.if_icmp .ge 10, 3) := by decide +kernel
theorem dX12_farOf_6 : decode cX12_farOf 6 = .ok (.aload_n 0, 1) := by decide +kernel
theorem dX12_farOf_7 : decode cX12_farOf 7 = .ok (.iload_n 1, 1) := by decide +kernel
theorem dX12_farOf_8 : decode cX12_farOf 8 = .ok (.iload_n 2, 1) := by decide +kernel
theorem dX12_farOf_9 : decode cX12_farOf 9 = .ok (.invokevirtual 364, 3) := by decide +kernel
theorem dX12_farOf_12 : decode cX12_farOf 12 = .ok (.ireturn, 1) := by decide +kernel
theorem dX12_farOf_13 : decode cX12_farOf 13 = .ok (.iload_n 2, 1) := by decide +kernel
theorem dX12_farOf_14 : decode cX12_farOf 14 = .ok (.invokestatic 357, 3) := by decide +kernel
theorem dX12_farOf_17 : decode cX12_farOf 17 = .ok (.istore_n 3, 1) := by decide +kernel
theorem dX12_farOf_18 : decode cX12_farOf 18 = .ok (.aload_n 0, 1) := by decide +kernel
theorem dX12_farOf_19 : decode cX12_farOf 19 = .ok (.getfield 103, 3) := by decide +kernel
theorem dX12_farOf_22 : decode cX12_farOf 22 = .ok (.iload_n 3, 1) := by decide +kernel
theorem dX12_farOf_23 : decode cX12_farOf 23 = .ok (.baload, 1) := by decide +kernel
theorem dX12_farOf_24 : decode cX12_farOf 24 = .ok (.ifCond .eq 6, 3) := by decide +kernel
theorem dX12_farOf_27 : decode cX12_farOf 27 = .ok (.ldc 222, 2) := by decide +kernel
theorem dX12_farOf_29 : decode cX12_farOf 29 = .ok (.ireturn, 1) := by decide +kernel
theorem dX12_farOf_30 : decode cX12_farOf 30 = .ok (.iload_n 2, 1) := by decide +kernel
theorem dX12_farOf_31 : decode cX12_farOf 31 = .ok (.invokestatic 361, 3) := by decide +kernel
theorem dX12_farOf_34 : decode cX12_farOf 34 = .ok (.aload_n 0, 1) := by decide +kernel
theorem dX12_farOf_35 : decode cX12_farOf 35 = .ok (.iload_n 1, 1) := by decide +kernel
theorem dX12_farOf_36 : decode cX12_farOf 36 = .ok (.aload_n 0, 1) := by decide +kernel
theorem dX12_farOf_37 : decode cX12_farOf 37 = .ok (.getfield 91, 3) := by decide +kernel
theorem dX12_farOf_40 : decode cX12_farOf 40 = .ok (.iload_n 3, 1) := by decide +kernel
theorem dX12_farOf_41 : decode cX12_farOf 41 = .ok (.iaload, 1) := by decide +kernel
theorem dX12_farOf_42 : decode cX12_farOf 42 = .ok (.invokevirtual 364, 3) := by decide +kernel
theorem dX12_farOf_45 : decode cX12_farOf 45 = .ok (.iadd, 1) := by decide +kernel
theorem dX12_farOf_46 : decode cX12_farOf 46 = .ok (.aload_n 0, 1) := by decide +kernel
theorem dX12_farOf_47 : decode cX12_farOf 47 = .ok (.getfield 97, 3) := by decide +kernel
theorem dX12_farOf_50 : decode cX12_farOf 50 = .ok (.iload_n 3, 1) := by decide +kernel
theorem dX12_farOf_51 : decode cX12_farOf 51 = .ok (.iaload, 1) := by decide +kernel
theorem dX12_farOf_52 : decode cX12_farOf 52 = .ok (.iload_n 2, 1) := by decide +kernel
theorem dX12_farOf_53 : decode cX12_farOf 53 = .ok (.invokestatic 361, 3) := by decide +kernel
theorem dX12_farOf_56 : decode cX12_farOf 56 = .ok (.isub, 1) := by decide +kernel
theorem dX12_farOf_57 : decode cX12_farOf 57 = .ok (.aload_n 0, 1) := by decide +kernel
theorem dX12_farOf_58 : decode cX12_farOf 58 = .ok (.iload_n 1, 1) := by decide +kernel
theorem dX12_farOf_59 : decode cX12_farOf 59 = .ok (.aload_n 0, 1) := by decide +kernel
theorem dX12_farOf_60 : decode cX12_farOf 60 = .ok (.getfield 94, 3) := by decide +kernel
theorem dX12_farOf_63 : decode cX12_farOf 63 = .ok (.iload_n 3, 1) := by decide +kernel
theorem dX12_farOf_64 : decode cX12_farOf 64 = .ok (.iaload, 1) := by decide +kernel
theorem dX12_farOf_65 : decode cX12_farOf 65 = .ok (.invokevirtual 364, 3) := by decide +kernel
theorem dX12_farOf_68 : decode cX12_farOf 68 = .ok (.iadd, 1) := by decide +kernel
theorem dX12_farOf_69 : decode cX12_farOf 69 = .ok (.invokestatic 223, 3) := by decide +kernel
theorem dX12_farOf_72 : decode cX12_farOf 72 = .ok (.istore 4, 2) := by decide +kernel
theorem dX12_farOf_74 : decode cX12_farOf 74 = .ok (.iload_n 1, 1) := by decide +kernel
theorem dX12_farOf_75 : decode cX12_farOf 75 = .ok (.bipush 100, 2) := by decide +kernel
theorem dX12_farOf_77 : decode cX12_farOf 77 = .ok (.if_icmp .lt 31, 3) := by decide +kernel
theorem dX12_farOf_80 : decode cX12_farOf 80 = .ok (.iload_n 1, 1) := by decide +kernel
theorem dX12_farOf_81 : decode cX12_farOf 81 = .ok (.invokestatic 357, 3) := by decide +kernel
theorem dX12_farOf_84 : decode cX12_farOf 84 = .ok (.iload_n 3, 1) := by decide +kernel
theorem dX12_farOf_85 : decode cX12_farOf 85 = .ok (.if_icmp .ne 23, 3) := by decide +kernel
theorem dX12_farOf_88 : decode cX12_farOf 88 = .ok (.iload 4, 2) := by decide +kernel
theorem dX12_farOf_90 : decode cX12_farOf 90 = .ok (.iload_n 1, 1) := by decide +kernel
theorem dX12_farOf_91 : decode cX12_farOf 91 = .ok (.invokestatic 361, 3) := by decide +kernel
theorem dX12_farOf_94 : decode cX12_farOf 94 = .ok (.iload_n 2, 1) := by decide +kernel
theorem dX12_farOf_95 : decode cX12_farOf 95 = .ok (.invokestatic 361, 3) := by decide +kernel
theorem dX12_farOf_98 : decode cX12_farOf 98 = .ok (.isub, 1) := by decide +kernel
theorem dX12_farOf_99 : decode cX12_farOf 99 = .ok (.invokestatic 367, 3) := by decide +kernel
theorem dX12_farOf_102 : decode cX12_farOf 102 = .ok (.invokestatic 223, 3) := by decide +kernel
theorem dX12_farOf_105 : decode cX12_farOf 105 = .ok (.goto 5, 3) := by decide +kernel
theorem dX12_farOf_108 : decode cX12_farOf 108 = .ok (.iload 4, 2) := by decide +kernel
theorem dX12_farOf_110 : decode cX12_farOf 110 = .ok (.ireturn, 1) := by decide +kernel
theorem dX12_far_0 : decode cX12_far 0 = .ok (.aload_n 0, 1) := by decide +kernel
theorem dX12_far_1 : decode cX12_far 1 = .ok (.iload_n 1, 1) := by decide +kernel
theorem dX12_far_2 : decode cX12_far 2 = .ok (.invokevirtual 370, 3) := by decide +kernel
theorem dX12_far_5 : decode cX12_far 5 = .ok (.ifCond .eq 11, 3) := by decide +kernel
theorem dX12_far_8 : decode cX12_far 8 = .ok (.aload_n 0, 1) := by decide +kernel
theorem dX12_far_9 : decode cX12_far 9 = .ok (.iload_n 2, 1) := by decide +kernel
theorem dX12_far_10 : decode cX12_far 10 = .ok (.invokevirtual 370, 3) := by decide +kernel
theorem dX12_far_13 : decode cX12_far 13 = .ok (.ifCond .ne 5, 3) := by decide +kernel
theorem dX12_far_16 : decode cX12_far 16 = .ok (.iconst (-1), 1) := by decide +kernel
theorem dX12_far_17 : decode cX12_far 17 = .ok (.ireturn, 1) := by decide +kernel
theorem dX12_far_18 : decode cX12_far 18 = .ok (.aload_n 0, 1) := by decide +kernel
theorem dX12_far_19 : decode cX12_far 19 = .ok (.iload_n 1, 1) := by decide +kernel
theorem dX12_far_20 : decode cX12_far 20 = .ok (.iload_n 2, 1) := by decide +kernel
theorem dX12_far_21 : decode cX12_far 21 = .ok (.invokevirtual 374, 3) := by decide +kernel
theorem dX12_far_24 : decode cX12_far 24 = .ok (.istore_n 3, 1) := by decide +kernel
theorem dX12_far_25 : decode cX12_far 25 = .ok (.iload_n 3, 1) := by decide +kernel
theorem dX12_far_26 : decode cX12_far 26 = .ok (.ldc 222, 2) := by decide +kernel
theorem dX12_far_28 : decode cX12_far 28 = .ok (.if_icmp .lt 7, 3) := by decide +kernel
theorem dX12_far_31 : decode cX12_far 31 = .ok (.iconst (-1), 1) := by decide +kernel
theorem dX12_far_32 : decode cX12_far 32 = .ok (.goto 4, 3) := by decide +kernel
theorem dX12_far_35 : decode cX12_far 35 = .ok (.iload_n 3, 1) := by decide +kernel
theorem dX12_far_36 : decode cX12_far 36 = .ok (.ireturn, 1) := by decide +kernel
theorem dX12_priceOf_0 : decode cX12_priceOf 0 = .ok (.aload_n 0, 1) := by decide +kernel
theorem dX12_priceOf_1 : decode cX12_priceOf 1 = .ok (.getfield 351, 3) := by decide +kernel
theorem dX12_priceOf_4 : decode cX12_priceOf 4 = .ok (.ifCond .lt 10, 3) := by decide +kernel
theorem dX12_priceOf_7 : decode cX12_priceOf 7 = .ok (.aload_n 0, 1) := by decide +kernel
theorem dX12_priceOf_8 : decode cX12_priceOf 8 = .ok (.getfield 351, 3) := by decide +kernel
theorem dX12_priceOf_11 : decode cX12_priceOf 11 = .ok (.goto 9, 3) := by decide +kernel
theorem dX12_priceOf_14 : decode cX12_priceOf 14 = .ok (.aload_n 0, 1) := by decide +kernel
theorem dX12_priceOf_15 : decode cX12_priceOf 15 = .ok (.getfield 110, 3) := by decide +kernel
theorem dX12_priceOf_18 : decode cX12_priceOf 18 = .ok (.iload_n 1, 1) := by decide +kernel
theorem dX12_priceOf_19 : decode cX12_priceOf 19 = .ok (.iaload, 1) := by decide +kernel
theorem dX12_priceOf_20 : decode cX12_priceOf 20 = .ok (.ireturn, 1) := by decide +kernel
theorem dX12_gives_0 : decode cX12_gives 0 = .ok (.iconst 0, 1) := by decide +kernel
theorem dX12_gives_1 : decode cX12_gives 1 = .ok (.istore 4, 2) := by decide +kernel
theorem dX12_gives_3 : decode cX12_gives 3 = .ok (.iconst 0, 1) := by decide +kernel
theorem dX12_gives_4 : decode cX12_gives 4 = .ok (.istore 5, 2) := by decide +kernel
theorem dX12_gives_6 : decode cX12_gives 6 = .ok (.iload 5, 2) := by decide +kernel
theorem dX12_gives_8 : decode cX12_gives 8 = .ok (.aload_n 0, 1) := by decide +kernel
theorem dX12_gives_9 : decode cX12_gives 9 = .ok (.getfield 329, 3) := by decide +kernel
theorem dX12_gives_12 : decode cX12_gives 12 = .ok (.if_icmp .ge 20, 3) := by decide +kernel
theorem dX12_gives_15 : decode cX12_gives 15 = .ok (.iload 4, 2) := by decide +kernel
theorem dX12_gives_17 : decode cX12_gives 17 = .ok (.iload_n 3, 1) := by decide +kernel
theorem dX12_gives_18 : decode cX12_gives 18 = .ok (.iload 5, 2) := by decide +kernel
theorem dX12_gives_20 : decode cX12_gives 20 = .ok (.ishr, 1) := by decide +kernel
theorem dX12_gives_21 : decode cX12_gives 21 = .ok (.iconst 1, 1) := by decide +kernel
theorem dX12_gives_22 : decode cX12_gives 22 = .ok (.iand, 1) := by decide +kernel
theorem dX12_gives_23 : decode cX12_gives 23 = .ok (.iadd, 1) := by decide +kernel
theorem dX12_gives_24 : decode cX12_gives 24 = .ok (.istore 4, 2) := by decide +kernel
theorem dX12_gives_26 : decode cX12_gives 26 = .ok (.iinc 5 1, 3) := by decide +kernel
theorem dX12_gives_29 : decode cX12_gives 29 = .ok (.goto (-23), 3) := by decide +kernel
theorem dX12_gives_32 : decode cX12_gives 32 = .ok (.iload 4, 2) := by decide +kernel
theorem dX12_gives_34 : decode cX12_gives 34 = .ok (.ifCond .ne 13, 3) := by decide +kernel
theorem dX12_gives_37 : decode cX12_gives 37 = .ok (.aload_n 0, 1) := by decide +kernel
theorem dX12_gives_38 : decode cX12_gives 38 = .ok (.dup, 1) := by decide +kernel
theorem dX12_gives_39 : decode cX12_gives 39 = .ok (.getfield 377, 3) := by decide +kernel
theorem dX12_gives_42 : decode cX12_gives 42 = .ok (.lload_n 1, 1) := by decide +kernel
theorem dX12_gives_43 : decode cX12_gives 43 = .ok (.ladd, 1) := by decide +kernel
theorem dX12_gives_44 : decode cX12_gives 44 = .ok (.putfield 377, 3) := by decide +kernel
theorem dX12_gives_47 : decode cX12_gives 47 = .ok (.iconst 0, 1) := by decide +kernel
theorem dX12_gives_48 : decode cX12_gives 48 = .ok (.istore 5, 2) := by decide +kernel
theorem dX12_gives_50 : decode cX12_gives 50 = .ok (.iload 5, 2) := by decide +kernel
theorem dX12_gives_52 : decode cX12_gives 52 = .ok (.aload_n 0, 1) := by decide +kernel
theorem dX12_gives_53 : decode cX12_gives 53 = .ok (.getfield 329, 3) := by decide +kernel
theorem dX12_gives_56 : decode cX12_gives 56 = .ok (.if_icmp .ge 34, 3) := by decide +kernel
theorem dX12_gives_59 : decode cX12_gives 59 = .ok (.iload_n 3, 1) := by decide +kernel
theorem dX12_gives_60 : decode cX12_gives 60 = .ok (.iload 5, 2) := by decide +kernel
theorem dX12_gives_62 : decode cX12_gives 62 = .ok (.ishr, 1) := by decide +kernel
theorem dX12_gives_63 : decode cX12_gives 63 = .ok (.iconst 1, 1) := by decide +kernel
theorem dX12_gives_64 : decode cX12_gives 64 = .ok (.iand, 1) := by decide +kernel
theorem dX12_gives_65 : decode cX12_gives 65 = .ok (.iconst 1, 1) := by decide +kernel
theorem dX12_gives_66 : decode cX12_gives 66 = .ok (.if_icmp .ne 18, 3) := by decide +kernel
theorem dX12_gives_69 : decode cX12_gives 69 = .ok (.aload_n 0, 1) := by decide +kernel
theorem dX12_gives_70 : decode cX12_gives 70 = .ok (.getfield 122, 3) := by decide +kernel
theorem dX12_gives_73 : decode cX12_gives 73 = .ok (.iload 5, 2) := by decide +kernel
theorem dX12_gives_75 : decode cX12_gives 75 = .ok (.dup2, 1) := by decide +kernel
theorem dX12_gives_76 : decode cX12_gives 76 = .ok (.laload, 1) := by decide +kernel
theorem dX12_gives_77 : decode cX12_gives 77 = .ok (.lload_n 1, 1) := by decide +kernel
theorem dX12_gives_78 : decode cX12_gives 78 = .ok (.iload 4, 2) := by decide +kernel
theorem dX12_gives_80 : decode cX12_gives 80 = .ok (.i2l, 1) := by decide +kernel
theorem dX12_gives_81 : decode cX12_gives 81 = .ok (.ldiv, 1) := by decide +kernel
theorem dX12_gives_82 : decode cX12_gives 82 = .ok (.ladd, 1) := by decide +kernel
theorem dX12_gives_83 : decode cX12_gives 83 = .ok (.lastore, 1) := by decide +kernel
theorem dX12_gives_84 : decode cX12_gives 84 = .ok (.iinc 5 1, 3) := by decide +kernel
theorem dX12_gives_87 : decode cX12_gives 87 = .ok (.goto (-37), 3) := by decide +kernel
theorem dX12_gives_90 : decode cX12_gives 90 = .ok (.return_, 1) := by decide +kernel
theorem dX12_buyersAt_0 : decode cX12_buyersAt 0 = .ok (.iconst 0, 1) := by decide +kernel
theorem dX12_buyersAt_1 : decode cX12_buyersAt 1 = .ok (.istore_n 2, 1) := by decide +kernel
theorem dX12_buyersAt_2 : decode cX12_buyersAt 2 = .ok (.aload_n 0, 1) := by decide +kernel
theorem dX12_buyersAt_3 : decode cX12_buyersAt 3 = .ok (.getfield 13, 3) := by decide +kernel
theorem dX12_buyersAt_6 : decode cX12_buyersAt 6 = .ok (.istore_n 3, 1) := by decide +kernel
theorem dX12_buyersAt_7 : decode cX12_buyersAt 7 = .ok (.iconst 0, 1) := by decide +kernel
theorem dX12_buyersAt_8 : decode cX12_buyersAt 8 = .ok (.istore 4, 2) := by decide +kernel
theorem dX12_buyersAt_10 : decode cX12_buyersAt 10 = .ok (.iload 4, 2) := by decide +kernel
theorem dX12_buyersAt_12 : decode cX12_buyersAt 12 = .ok (.aload_n 0, 1) := by decide +kernel
theorem dX12_buyersAt_13 : decode cX12_buyersAt 13 = .ok (.getfield 329, 3) := by decide +kernel
theorem dX12_buyersAt_16 : decode cX12_buyersAt 16 = .ok (.if_icmp .ge 103, 3) := by decide +kernel
theorem dX12_buyersAt_19 : decode cX12_buyersAt 19 = .ok (.aload_n 0, 1) := by decide +kernel
theorem dX12_buyersAt_20 : decode cX12_buyersAt 20 = .ok (.getfield 125, 3) := by decide +kernel
theorem dX12_buyersAt_23 : decode cX12_buyersAt 23 = .ok (.bipush 12, 2) := by decide +kernel
theorem dX12_buyersAt_25 : decode cX12_buyersAt 25 = .ok (.iload 4, 2) := by decide +kernel
theorem dX12_buyersAt_27 : decode cX12_buyersAt 27 = .ok (.imul, 1) := by decide +kernel
theorem dX12_buyersAt_28 : decode cX12_buyersAt 28 = .ok (.iload_n 1, 1) := by decide +kernel
theorem dX12_buyersAt_29 : decode cX12_buyersAt 29 = .ok (.iadd, 1) := by decide +kernel
theorem dX12_buyersAt_30 : decode cX12_buyersAt 30 = .ok (.iaload, 1) := by decide +kernel
theorem dX12_buyersAt_31 : decode cX12_buyersAt 31 = .ok (.ldc 222, 2) := by decide +kernel
theorem dX12_buyersAt_33 : decode cX12_buyersAt 33 = .ok (.if_icmp .lt 6, 3) := by decide +kernel
theorem dX12_buyersAt_36 : decode cX12_buyersAt 36 = .ok (.goto 77, 3) := by decide +kernel
theorem dX12_buyersAt_39 : decode cX12_buyersAt 39 = .ok (.aload_n 0, 1) := by decide +kernel
theorem dX12_buyersAt_40 : decode cX12_buyersAt 40 = .ok (.iload 4, 2) := by decide +kernel
theorem dX12_buyersAt_42 : decode cX12_buyersAt 42 = .ok (.invokevirtual 380, 3) := by decide +kernel
theorem dX12_buyersAt_45 : decode cX12_buyersAt 45 = .ok (.aload_n 0, 1) := by decide +kernel
theorem dX12_buyersAt_46 : decode cX12_buyersAt 46 = .ok (.getfield 7, 3) := by decide +kernel
theorem dX12_buyersAt_49 : decode cX12_buyersAt 49 = .ok (.aload_n 0, 1) := by decide +kernel
theorem dX12_buyersAt_50 : decode cX12_buyersAt 50 = .ok (.getfield 125, 3) := by decide +kernel
theorem dX12_buyersAt_53 : decode cX12_buyersAt 53 = .ok (.bipush 12, 2) := by decide +kernel
theorem dX12_buyersAt_55 : decode cX12_buyersAt 55 = .ok (.iload 4, 2) := by decide +kernel
theorem dX12_buyersAt_57 : decode cX12_buyersAt 57 = .ok (.imul, 1) := by decide +kernel
theorem dX12_buyersAt_58 : decode cX12_buyersAt 58 = .ok (.iload_n 1, 1) := by decide +kernel
theorem dX12_buyersAt_59 : decode cX12_buyersAt 59 = .ok (.iadd, 1) := by decide +kernel
theorem dX12_buyersAt_60 : decode cX12_buyersAt 60 = .ok (.iaload, 1) := by decide +kernel
theorem dX12_buyersAt_61 : decode cX12_buyersAt 61 = .ok (.imul, 1) := by decide +kernel
theorem dX12_buyersAt_62 : decode cX12_buyersAt 62 = .ok (.iadd, 1) := by decide +kernel
theorem dX12_buyersAt_63 : decode cX12_buyersAt 63 = .ok (.aload_n 0, 1) := by decide +kernel
theorem dX12_buyersAt_64 : decode cX12_buyersAt 64 = .ok (.getfield 36, 3) := by decide +kernel
theorem dX12_buyersAt_67 : decode cX12_buyersAt 67 = .ok (.iconst 3, 1) := by decide +kernel
theorem dX12_buyersAt_68 : decode cX12_buyersAt 68 = .ok (.iload_n 1, 1) := by decide +kernel
theorem dX12_buyersAt_69 : decode cX12_buyersAt 69 = .ok (.imul, 1) := by decide +kernel
theorem dX12_buyersAt_70 : decode cX12_buyersAt 70 = .ok (.aload_n 0, 1) := by decide +kernel
theorem dX12_buyersAt_71 : decode cX12_buyersAt 71 = .ok (.getfield 113, 3) := by decide +kernel
theorem dX12_buyersAt_74 : decode cX12_buyersAt 74 = .ok (.iload 4, 2) := by decide +kernel
theorem dX12_buyersAt_76 : decode cX12_buyersAt 76 = .ok (.iaload, 1) := by decide +kernel
theorem dX12_buyersAt_77 : decode cX12_buyersAt 77 = .ok (.iadd, 1) := by decide +kernel
theorem dX12_buyersAt_78 : decode cX12_buyersAt 78 = .ok (.iaload, 1) := by decide +kernel
theorem dX12_buyersAt_79 : decode cX12_buyersAt 79 = .ok (.isub, 1) := by decide +kernel
theorem dX12_buyersAt_80 : decode cX12_buyersAt 80 = .ok (.istore 5, 2) := by decide +kernel
theorem dX12_buyersAt_82 : decode cX12_buyersAt 82 = .ok (.iload 5, 2) := by decide +kernel
theorem dX12_buyersAt_84 : decode cX12_buyersAt 84 = .ok (.iload_n 3, 1) := by decide +kernel
theorem dX12_buyersAt_85 : decode cX12_buyersAt 85 = .ok (.if_icmp .le 6, 3) := by decide +kernel
theorem dX12_buyersAt_88 : decode cX12_buyersAt 88 = .ok (.goto 25, 3) := by decide +kernel
theorem dX12_buyersAt_91 : decode cX12_buyersAt 91 = .ok (.iload 5, 2) := by decide +kernel
theorem dX12_buyersAt_93 : decode cX12_buyersAt 93 = .ok (.iload_n 3, 1) := by decide +kernel
theorem dX12_buyersAt_94 : decode cX12_buyersAt 94 = .ok (.if_icmp .ge 7, 3) := by decide +kernel
theorem dX12_buyersAt_97 : decode cX12_buyersAt 97 = .ok (.iconst 0, 1) := by decide +kernel
theorem dX12_buyersAt_98 : decode cX12_buyersAt 98 = .ok (.goto 4, 3) := by decide +kernel
theorem dX12_buyersAt_101 : decode cX12_buyersAt 101 = .ok (.iload_n 2, 1) := by decide +kernel
theorem dX12_buyersAt_102 : decode cX12_buyersAt 102 = .ok (.istore_n 2, 1) := by decide +kernel
theorem dX12_buyersAt_103 : decode cX12_buyersAt 103 = .ok (.iload 5, 2) := by decide +kernel
theorem dX12_buyersAt_105 : decode cX12_buyersAt 105 = .ok (.istore_n 3, 1) := by decide +kernel
theorem dX12_buyersAt_106 : decode cX12_buyersAt 106 = .ok (.iload_n 2, 1) := by decide +kernel
theorem dX12_buyersAt_107 : decode cX12_buyersAt 107 = .ok (.iconst 1, 1) := by decide +kernel
theorem dX12_buyersAt_108 : decode cX12_buyersAt 108 = .ok (.iload 4, 2) := by decide +kernel
theorem dX12_buyersAt_110 : decode cX12_buyersAt 110 = .ok (.ishl, 1) := by decide +kernel
theorem dX12_buyersAt_111 : decode cX12_buyersAt 111 = .ok (.ior, 1) := by decide +kernel
theorem dX12_buyersAt_112 : decode cX12_buyersAt 112 = .ok (.istore_n 2, 1) := by decide +kernel
theorem dX12_buyersAt_113 : decode cX12_buyersAt 113 = .ok (.iinc 4 1, 3) := by decide +kernel
theorem dX12_buyersAt_116 : decode cX12_buyersAt 116 = .ok (.goto (-106), 3) := by decide +kernel
theorem dX12_buyersAt_119 : decode cX12_buyersAt 119 = .ok (.iload_n 2, 1) := by decide +kernel
theorem dX12_buyersAt_120 : decode cX12_buyersAt 120 = .ok (.ireturn, 1) := by decide +kernel
theorem dX12_buyersOn_0 : decode cX12_buyersOn 0 = .ok (.iconst 0, 1) := by decide +kernel
theorem dX12_buyersOn_1 : decode cX12_buyersOn 1 = .ok (.istore_n 3, 1) := by decide +kernel
theorem dX12_buyersOn_2 : decode cX12_buyersOn 2 = .ok (.iconst 4, 1) := by decide +kernel
theorem dX12_buyersOn_3 : decode cX12_buyersOn 3 = .ok (.aload_n 0, 1) := by decide +kernel
theorem dX12_buyersOn_4 : decode cX12_buyersOn 4 = .ok (.getfield 13, 3) := by decide +kernel
theorem dX12_buyersOn_7 : decode cX12_buyersOn 7 = .ok (.imul, 1) := by decide +kernel
theorem dX12_buyersOn_8 : decode cX12_buyersOn 8 = .ok (.istore 4, 2) := by decide +kernel
theorem dX12_buyersOn_10 : decode cX12_buyersOn 10 = .ok (.iconst 4, 1) := by decide +kernel
theorem dX12_buyersOn_11 : decode cX12_buyersOn 11 = .ok (.aload_n 0, 1) := by decide +kernel
theorem dX12_buyersOn_12 : decode cX12_buyersOn 12 = .ok (.getfield 7, 3) := by decide +kernel
theorem dX12_buyersOn_15 : decode cX12_buyersOn 15 = .ok (.imul, 1) := by decide +kernel
theorem dX12_buyersOn_16 : decode cX12_buyersOn 16 = .ok (.istore 5, 2) := by decide +kernel
theorem dX12_buyersOn_18 : decode cX12_buyersOn 18 = .ok (.iconst 0, 1) := by decide +kernel
theorem dX12_buyersOn_19 : decode cX12_buyersOn 19 = .ok (.istore 6, 2) := by decide +kernel
theorem dX12_buyersOn_21 : decode cX12_buyersOn 21 = .ok (.iload 6, 2) := by decide +kernel
theorem dX12_buyersOn_23 : decode cX12_buyersOn 23 = .ok (.aload_n 0, 1) := by decide +kernel
theorem dX12_buyersOn_24 : decode cX12_buyersOn 24 = .ok (.getfield 329, 3) := by decide +kernel
theorem dX12_buyersOn_27 : decode cX12_buyersOn 27 = .ok (.if_icmp .ge 176, 3) := by decide +kernel
theorem dX12_buyersOn_30 : decode cX12_buyersOn 30 = .ok (.aload_n 0, 1) := by decide +kernel
theorem dX12_buyersOn_31 : decode cX12_buyersOn 31 = .ok (.getfield 125, 3) := by decide +kernel
theorem dX12_buyersOn_34 : decode cX12_buyersOn 34 = .ok (.bipush 12, 2) := by decide +kernel
theorem dX12_buyersOn_36 : decode cX12_buyersOn 36 = .ok (.iload 6, 2) := by decide +kernel
theorem dX12_buyersOn_38 : decode cX12_buyersOn 38 = .ok (.imul, 1) := by decide +kernel
theorem dX12_buyersOn_39 : decode cX12_buyersOn 39 = .ok (.aload_n 0, 1) := by decide +kernel
theorem dX12_buyersOn_40 : decode cX12_buyersOn 40 = .ok (.getfield 91, 3) := by decide +kernel
theorem dX12_buyersOn_43 : decode cX12_buyersOn 43 = .ok (.iload_n 1, 1) := by decide +kernel
theorem dX12_buyersOn_44 : decode cX12_buyersOn 44 = .ok (.iaload, 1) := by decide +kernel
theorem dX12_buyersOn_45 : decode cX12_buyersOn 45 = .ok (.iadd, 1) := by decide +kernel
theorem dX12_buyersOn_46 : decode cX12_buyersOn 46 = .ok (.iaload, 1) := by decide +kernel
theorem dX12_buyersOn_47 : decode cX12_buyersOn 47 = .ok (.iload 5, 2) := by decide +kernel
theorem dX12_buyersOn_49 : decode cX12_buyersOn 49 = .ok (.imul, 1) := by decide +kernel
theorem dX12_buyersOn_50 : decode cX12_buyersOn 50 = .ok (.iload_n 2, 1) := by decide +kernel
theorem dX12_buyersOn_51 : decode cX12_buyersOn 51 = .ok (.iadd, 1) := by decide +kernel
theorem dX12_buyersOn_52 : decode cX12_buyersOn 52 = .ok (.aload_n 0, 1) := by decide +kernel
theorem dX12_buyersOn_53 : decode cX12_buyersOn 53 = .ok (.getfield 125, 3) := by decide +kernel
theorem dX12_buyersOn_56 : decode cX12_buyersOn 56 = .ok (.bipush 12, 2) := by decide +kernel
theorem dX12_buyersOn_58 : decode cX12_buyersOn 58 = .ok (.iload 6, 2) := by decide +kernel
theorem dX12_buyersOn_60 : decode cX12_buyersOn 60 = .ok (.imul, 1) := by decide +kernel
theorem dX12_buyersOn_61 : decode cX12_buyersOn 61 = .ok (.aload_n 0, 1) := by decide +kernel
theorem dX12_buyersOn_62 : decode cX12_buyersOn 62 = .ok (.getfield 94, 3) := by decide +kernel
theorem dX12_buyersOn_65 : decode cX12_buyersOn 65 = .ok (.iload_n 1, 1) := by decide +kernel
theorem dX12_buyersOn_66 : decode cX12_buyersOn 66 = .ok (.iaload, 1) := by decide +kernel
theorem dX12_buyersOn_67 : decode cX12_buyersOn 67 = .ok (.iadd, 1) := by decide +kernel
theorem dX12_buyersOn_68 : decode cX12_buyersOn 68 = .ok (.iaload, 1) := by decide +kernel
theorem dX12_buyersOn_69 : decode cX12_buyersOn 69 = .ok (.iload 5, 2) := by decide +kernel
theorem dX12_buyersOn_71 : decode cX12_buyersOn 71 = .ok (.imul, 1) := by decide +kernel
theorem dX12_buyersOn_72 : decode cX12_buyersOn 72 = .ok (.aload_n 0, 1) := by decide +kernel
theorem dX12_buyersOn_73 : decode cX12_buyersOn 73 = .ok (.getfield 97, 3) := by decide +kernel
theorem dX12_buyersOn_76 : decode cX12_buyersOn 76 = .ok (.iload_n 1, 1) := by decide +kernel
theorem dX12_buyersOn_77 : decode cX12_buyersOn 77 = .ok (.iaload, 1) := by decide +kernel
theorem dX12_buyersOn_78 : decode cX12_buyersOn 78 = .ok (.iload 5, 2) := by decide +kernel
theorem dX12_buyersOn_80 : decode cX12_buyersOn 80 = .ok (.imul, 1) := by decide +kernel
theorem dX12_buyersOn_81 : decode cX12_buyersOn 81 = .ok (.iadd, 1) := by decide +kernel
theorem dX12_buyersOn_82 : decode cX12_buyersOn 82 = .ok (.iload_n 2, 1) := by decide +kernel
theorem dX12_buyersOn_83 : decode cX12_buyersOn 83 = .ok (.isub, 1) := by decide +kernel
theorem dX12_buyersOn_84 : decode cX12_buyersOn 84 = .ok (.invokestatic 223, 3) := by decide +kernel
theorem dX12_buyersOn_87 : decode cX12_buyersOn 87 = .ok (.istore 7, 2) := by decide +kernel
theorem dX12_buyersOn_89 : decode cX12_buyersOn 89 = .ok (.aload_n 0, 1) := by decide +kernel
theorem dX12_buyersOn_90 : decode cX12_buyersOn 90 = .ok (.getfield 107, 3) := by decide +kernel
theorem dX12_buyersOn_93 : decode cX12_buyersOn 93 = .ok (.iload 6, 2) := by decide +kernel
theorem dX12_buyersOn_95 : decode cX12_buyersOn 95 = .ok (.iaload, 1) := by decide +kernel
theorem dX12_buyersOn_96 : decode cX12_buyersOn 96 = .ok (.bipush 100, 2) := by decide +kernel
theorem dX12_buyersOn_98 : decode cX12_buyersOn 98 = .ok (.if_icmp .lt 42, 3) := by decide +kernel
theorem dX12_buyersOn_101 : decode cX12_buyersOn 101 = .ok (.aload_n 0, 1) := by decide +kernel
theorem dX12_buyersOn_102 : decode cX12_buyersOn 102 = .ok (.getfield 107, 3) := by decide +kernel
theorem dX12_buyersOn_105 : decode cX12_buyersOn 105 = .ok (.iload 6, 2) := by decide +kernel
theorem dX12_buyersOn_107 : decode cX12_buyersOn 107 = .ok (.iaload, 1) := by decide +kernel
theorem dX12_buyersOn_108 : decode cX12_buyersOn 108 = .ok (.invokestatic 357, 3) := by decide +kernel
theorem dX12_buyersOn_111 : decode cX12_buyersOn 111 = .ok (.iload_n 1, 1) := by decide +kernel
theorem dX12_buyersOn_112 : decode cX12_buyersOn 112 = .ok (.if_icmp .ne 28, 3) := by decide +kernel
theorem dX12_buyersOn_115 : decode cX12_buyersOn 115 = .ok (.iload 7, 2) := by decide +kernel
theorem dX12_buyersOn_117 : decode cX12_buyersOn 117 = .ok (.iload_n 2, 1) := by decide +kernel
theorem dX12_buyersOn_118 : decode cX12_buyersOn 118 = .ok (.aload_n 0, 1) := by decide +kernel
theorem dX12_buyersOn_119 : decode cX12_buyersOn 119 = .ok (.getfield 107, 3) := by decide +kernel
theorem dX12_buyersOn_122 : decode cX12_buyersOn 122 = .ok (.iload 6, 2) := by decide +kernel
theorem dX12_buyersOn_124 : decode cX12_buyersOn 124 = .ok (.iaload, 1) := by decide +kernel
theorem dX12_buyersOn_125 : decode cX12_buyersOn 125 = .ok (.invokestatic 361, 3) := by decide +kernel
theorem dX12_buyersOn_128 : decode cX12_buyersOn 128 = .ok (.iload 5, 2) := by decide +kernel
theorem dX12_buyersOn_130 : decode cX12_buyersOn 130 = .ok (.imul, 1) := by decide +kernel
theorem dX12_buyersOn_131 : decode cX12_buyersOn 131 = .ok (.isub, 1) := by decide +kernel
theorem dX12_buyersOn_132 : decode cX12_buyersOn 132 = .ok (.invokestatic 367, 3) := by decide +kernel
theorem dX12_buyersOn_135 : decode cX12_buyersOn 135 = .ok (.invokestatic 223, 3) := by decide +kernel
theorem dX12_buyersOn_138 : decode cX12_buyersOn 138 = .ok (.istore 7, 2) := by decide +kernel
theorem dX12_buyersOn_140 : decode cX12_buyersOn 140 = .ok (.iload 7, 2) := by decide +kernel
theorem dX12_buyersOn_142 : decode cX12_buyersOn 142 = .ok (.ldc 222, 2) := by decide +kernel
theorem dX12_buyersOn_144 : decode cX12_buyersOn 144 = .ok (.if_icmp .lt 6, 3) := by decide +kernel
theorem dX12_buyersOn_147 : decode cX12_buyersOn 147 = .ok (.goto 50, 3) := by decide +kernel
theorem dX12_buyersOn_150 : decode cX12_buyersOn 150 = .ok (.iconst 4, 1) := by decide +kernel
theorem dX12_buyersOn_151 : decode cX12_buyersOn 151 = .ok (.aload_n 0, 1) := by decide +kernel
theorem dX12_buyersOn_152 : decode cX12_buyersOn 152 = .ok (.iload 6, 2) := by decide +kernel
theorem dX12_buyersOn_154 : decode cX12_buyersOn 154 = .ok (.invokevirtual 380, 3) := by decide +kernel
theorem dX12_buyersOn_157 : decode cX12_buyersOn 157 = .ok (.imul, 1) := by decide +kernel
theorem dX12_buyersOn_158 : decode cX12_buyersOn 158 = .ok (.iload 7, 2) := by decide +kernel
theorem dX12_buyersOn_160 : decode cX12_buyersOn 160 = .ok (.iadd, 1) := by decide +kernel
theorem dX12_buyersOn_161 : decode cX12_buyersOn 161 = .ok (.istore 8, 2) := by decide +kernel
theorem dX12_buyersOn_163 : decode cX12_buyersOn 163 = .ok (.iload 8, 2) := by decide +kernel
theorem dX12_buyersOn_165 : decode cX12_buyersOn 165 = .ok (.iload 4, 2) := by decide +kernel
theorem dX12_buyersOn_167 : decode cX12_buyersOn 167 = .ok (.if_icmp .le 6, 3) := by decide +kernel
theorem dX12_buyersOn_170 : decode cX12_buyersOn 170 = .ok (.goto 27, 3) := by decide +kernel
theorem dX12_buyersOn_173 : decode cX12_buyersOn 173 = .ok (.iload 8, 2) := by decide +kernel
theorem dX12_buyersOn_175 : decode cX12_buyersOn 175 = .ok (.iload 4, 2) := by decide +kernel
theorem dX12_buyersOn_177 : decode cX12_buyersOn 177 = .ok (.if_icmp .ge 7, 3) := by decide +kernel
theorem dX12_buyersOn_180 : decode cX12_buyersOn 180 = .ok (.iconst 0, 1) := by decide +kernel
theorem dX12_buyersOn_181 : decode cX12_buyersOn 181 = .ok (.goto 4, 3) := by decide +kernel
theorem dX12_buyersOn_184 : decode cX12_buyersOn 184 = .ok (.iload_n 3, 1) := by decide +kernel
theorem dX12_buyersOn_185 : decode cX12_buyersOn 185 = .ok (.istore_n 3, 1) := by decide +kernel
theorem dX12_buyersOn_186 : decode cX12_buyersOn 186 = .ok (.iload 8, 2) := by decide +kernel
theorem dX12_buyersOn_188 : decode cX12_buyersOn 188 = .ok (.istore 4, 2) := by decide +kernel
theorem dX12_buyersOn_190 : decode cX12_buyersOn 190 = .ok (.iload_n 3, 1) := by decide +kernel
theorem dX12_buyersOn_191 : decode cX12_buyersOn 191 = .ok (.iconst 1, 1) := by decide +kernel
theorem dX12_buyersOn_192 : decode cX12_buyersOn 192 = .ok (.iload 6, 2) := by decide +kernel
theorem dX12_buyersOn_194 : decode cX12_buyersOn 194 = .ok (.ishl, 1) := by decide +kernel
theorem dX12_buyersOn_195 : decode cX12_buyersOn 195 = .ok (.ior, 1) := by decide +kernel
theorem dX12_buyersOn_196 : decode cX12_buyersOn 196 = .ok (.istore_n 3, 1) := by decide +kernel
theorem dX12_buyersOn_197 : decode cX12_buyersOn 197 = .ok (.iinc 6 1, 3) := by decide +kernel
theorem dX12_buyersOn_200 : decode cX12_buyersOn 200 = .ok (.goto (-179), 3) := by decide +kernel
theorem dX12_buyersOn_203 : decode cX12_buyersOn 203 = .ok (.iload_n 3, 1) := by decide +kernel
theorem dX12_buyersOn_204 : decode cX12_buyersOn 204 = .ok (.ireturn, 1) := by decide +kernel
theorem dX12_paces_0 : decode cX12_paces 0 = .ok (.iconst 0, 1) := by decide +kernel
theorem dX12_paces_1 : decode cX12_paces 1 = .ok (.istore_n 1, 1) := by decide +kernel
theorem dX12_paces_2 : decode cX12_paces 2 = .ok (.iload_n 1, 1) := by decide +kernel
theorem dX12_paces_3 : decode cX12_paces 3 = .ok (.aload_n 0, 1) := by decide +kernel
theorem dX12_paces_4 : decode cX12_paces 4 = .ok (.getfield 329, 3) := by decide +kernel
theorem dX12_paces_7 : decode cX12_paces 7 = .ok (.if_icmp .ge 47, 3) := by decide +kernel
theorem dX12_paces_10 : decode cX12_paces 10 = .ok (.iconst 0, 1) := by decide +kernel
theorem dX12_paces_11 : decode cX12_paces 11 = .ok (.istore_n 2, 1) := by decide +kernel
theorem dX12_paces_12 : decode cX12_paces 12 = .ok (.iload_n 2, 1) := by decide +kernel
theorem dX12_paces_13 : decode cX12_paces 13 = .ok (.aload_n 0, 1) := by decide +kernel
theorem dX12_paces_14 : decode cX12_paces 14 = .ok (.getfield 272, 3) := by decide +kernel
theorem dX12_paces_17 : decode cX12_paces 17 = .ok (.if_icmp .ge 31, 3) := by decide +kernel
theorem dX12_paces_20 : decode cX12_paces 20 = .ok (.aload_n 0, 1) := by decide +kernel
theorem dX12_paces_21 : decode cX12_paces 21 = .ok (.getfield 125, 3) := by decide +kernel
theorem dX12_paces_24 : decode cX12_paces 24 = .ok (.bipush 12, 2) := by decide +kernel
theorem dX12_paces_26 : decode cX12_paces 26 = .ok (.iload_n 1, 1) := by decide +kernel
theorem dX12_paces_27 : decode cX12_paces 27 = .ok (.imul, 1) := by decide +kernel
theorem dX12_paces_28 : decode cX12_paces 28 = .ok (.iload_n 2, 1) := by decide +kernel
theorem dX12_paces_29 : decode cX12_paces 29 = .ok (.iadd, 1) := by decide +kernel
theorem dX12_paces_30 : decode cX12_paces 30 = .ok (.aload_n 0, 1) := by decide +kernel
theorem dX12_paces_31 : decode cX12_paces 31 = .ok (.aload_n 0, 1) := by decide +kernel
theorem dX12_paces_32 : decode cX12_paces 32 = .ok (.getfield 107, 3) := by decide +kernel
theorem dX12_paces_35 : decode cX12_paces 35 = .ok (.iload_n 1, 1) := by decide +kernel
theorem dX12_paces_36 : decode cX12_paces 36 = .ok (.iaload, 1) := by decide +kernel
theorem dX12_paces_37 : decode cX12_paces 37 = .ok (.iload_n 2, 1) := by decide +kernel
theorem dX12_paces_38 : decode cX12_paces 38 = .ok (.invokevirtual 364, 3) := by decide +kernel
theorem dX12_paces_41 : decode cX12_paces 41 = .ok (.iastore, 1) := by decide +kernel
theorem dX12_paces_42 : decode cX12_paces 42 = .ok (.iinc 2 1, 3) := by decide +kernel
theorem dX12_paces_45 : decode cX12_paces 45 = .ok (.goto (-33), 3) := by decide +kernel
theorem dX12_paces_48 : decode cX12_paces 48 = .ok (.iinc 1 1, 3) := by decide +kernel
theorem dX12_paces_51 : decode cX12_paces 51 = .ok (.goto (-49), 3) := by decide +kernel
theorem dX12_paces_54 : decode cX12_paces 54 = .ok (.return_, 1) := by decide +kernel
theorem dX12_sells_0 : decode cX12_sells 0 = .ok (.aload_n 0, 1) := by decide +kernel
theorem dX12_sells_1 : decode cX12_sells 1 = .ok (.invokevirtual 383, 3) := by decide +kernel
theorem dX12_sells_4 : decode cX12_sells 4 = .ok (.aload_n 0, 1) := by decide +kernel
theorem dX12_sells_5 : decode cX12_sells 5 = .ok (.lconst 0, 1) := by decide +kernel
theorem dX12_sells_6 : decode cX12_sells 6 = .ok (.putfield 377, 3) := by decide +kernel
theorem dX12_sells_9 : decode cX12_sells 9 = .ok (.iconst 0, 1) := by decide +kernel
theorem dX12_sells_10 : decode cX12_sells 10 = .ok (.istore_n 1, 1) := by decide +kernel
theorem dX12_sells_11 : decode cX12_sells 11 = .ok (.iload_n 1, 1) := by decide +kernel
theorem dX12_sells_12 : decode cX12_sells 12 = .ok (.iconst 4, 1) := by decide +kernel
theorem dX12_sells_13 : decode cX12_sells 13 = .ok (.if_icmp .ge 16, 3) := by decide +kernel
theorem dX12_sells_16 : decode cX12_sells 16 = .ok (.aload_n 0, 1) := by decide +kernel
theorem dX12_sells_17 : decode cX12_sells 17 = .ok (.getfield 122, 3) := by decide +kernel
theorem dX12_sells_20 : decode cX12_sells 20 = .ok (.iload_n 1, 1) := by decide +kernel
theorem dX12_sells_21 : decode cX12_sells 21 = .ok (.lconst 0, 1) := by decide +kernel
theorem dX12_sells_22 : decode cX12_sells 22 = .ok (.lastore, 1) := by decide +kernel
theorem dX12_sells_23 : decode cX12_sells 23 = .ok (.iinc 1 1, 3) := by decide +kernel
theorem dX12_sells_26 : decode cX12_sells 26 = .ok (.goto (-15), 3) := by decide +kernel
theorem dX12_sells_29 : decode cX12_sells 29 = .ok (.iconst 0, 1) := by decide +kernel
theorem dX12_sells_30 : decode cX12_sells 30 = .ok (.istore_n 1, 1) := by decide +kernel
theorem dX12_sells_31 : decode cX12_sells 31 = .ok (.iload_n 1, 1) := by decide +kernel
theorem dX12_sells_32 : decode cX12_sells 32 = .ok (.aload_n 0, 1) := by decide +kernel
theorem dX12_sells_33 : decode cX12_sells 33 = .ok (.getfield 272, 3) := by decide +kernel
theorem dX12_sells_36 : decode cX12_sells 36 = .ok (.if_icmp .ge 44, 3) := by decide +kernel
theorem dX12_sells_39 : decode cX12_sells 39 = .ok (.aload_n 0, 1) := by decide +kernel
theorem dX12_sells_40 : decode cX12_sells 40 = .ok (.getfield 29, 3) := by decide +kernel
theorem dX12_sells_43 : decode cX12_sells 43 = .ok (.iload_n 1, 1) := by decide +kernel
theorem dX12_sells_44 : decode cX12_sells 44 = .ok (.iaload, 1) := by decide +kernel
theorem dX12_sells_45 : decode cX12_sells 45 = .ok (.ifCond .le 29, 3) := by decide +kernel
theorem dX12_sells_48 : decode cX12_sells 48 = .ok (.aload_n 0, 1) := by decide +kernel
theorem dX12_sells_49 : decode cX12_sells 49 = .ok (.ldc2_w 386, 3) := by decide +kernel
theorem dX12_sells_52 : decode cX12_sells 52 = .ok (.aload_n 0, 1) := by decide +kernel
theorem dX12_sells_53 : decode cX12_sells 53 = .ok (.getfield 7, 3) := by decide +kernel
theorem dX12_sells_56 : decode cX12_sells 56 = .ok (.i2l, 1) := by decide +kernel
theorem dX12_sells_57 : decode cX12_sells 57 = .ok (.lmul, 1) := by decide +kernel
theorem dX12_sells_58 : decode cX12_sells 58 = .ok (.aload_n 0, 1) := by decide +kernel
theorem dX12_sells_59 : decode cX12_sells 59 = .ok (.getfield 29, 3) := by decide +kernel
theorem dX12_sells_62 : decode cX12_sells 62 = .ok (.iload_n 1, 1) := by decide +kernel
theorem dX12_sells_63 : decode cX12_sells 63 = .ok (.iaload, 1) := by decide +kernel
theorem dX12_sells_64 : decode cX12_sells 64 = .ok (.i2l, 1) := by decide +kernel
theorem dX12_sells_65 : decode cX12_sells 65 = .ok (.lmul, 1) := by decide +kernel
theorem dX12_sells_66 : decode cX12_sells 66 = .ok (.aload_n 0, 1) := by decide +kernel
theorem dX12_sells_67 : decode cX12_sells 67 = .ok (.iload_n 1, 1) := by decide +kernel
theorem dX12_sells_68 : decode cX12_sells 68 = .ok (.invokevirtual 388, 3) := by decide +kernel
theorem dX12_sells_71 : decode cX12_sells 71 = .ok (.invokevirtual 391, 3) := by decide +kernel
theorem dX12_sells_74 : decode cX12_sells 74 = .ok (.iinc 1 1, 3) := by decide +kernel
theorem dX12_sells_77 : decode cX12_sells 77 = .ok (.goto (-46), 3) := by decide +kernel
theorem dX12_sells_80 : decode cX12_sells 80 = .ok (.iconst 0, 1) := by decide +kernel
theorem dX12_sells_81 : decode cX12_sells 81 = .ok (.istore_n 1, 1) := by decide +kernel
theorem dX12_sells_82 : decode cX12_sells 82 = .ok (.iload_n 1, 1) := by decide +kernel
theorem dX12_sells_83 : decode cX12_sells 83 = .ok (.aload_n 0, 1) := by decide +kernel
theorem dX12_sells_84 : decode cX12_sells 84 = .ok (.getfield 320, 3) := by decide +kernel
theorem dX12_sells_87 : decode cX12_sells 87 = .ok (.if_icmp .ge 80, 3) := by decide +kernel
theorem dX12_sells_90 : decode cX12_sells 90 = .ok (.aload_n 0, 1) := by decide +kernel
theorem dX12_sells_91 : decode cX12_sells 91 = .ok (.getfield 103, 3) := by decide +kernel
theorem dX12_sells_94 : decode cX12_sells 94 = .ok (.iload_n 1, 1) := by decide +kernel
theorem dX12_sells_95 : decode cX12_sells 95 = .ok (.baload, 1) := by decide +kernel
theorem dX12_sells_96 : decode cX12_sells 96 = .ok (.ifCond .ne 65, 3) := by decide +kernel
theorem dX12_sells_99 : decode cX12_sells 99 = .ok (.aload_n 0, 1) := by decide +kernel
theorem dX12_sells_100 : decode cX12_sells 100 = .ok (.getfield 51, 3) := by decide +kernel
theorem dX12_sells_103 : decode cX12_sells 103 = .ok (.iload_n 1, 1) := by decide +kernel
theorem dX12_sells_104 : decode cX12_sells 104 = .ok (.iaload, 1) := by decide +kernel
theorem dX12_sells_105 : decode cX12_sells 105 = .ok (.ifCond .ne 6, 3) := by decide +kernel
theorem dX12_sells_108 : decode cX12_sells 108 = .ok (.goto 53, 3) := by decide +kernel
theorem dX12_sells_111 : decode cX12_sells 111 = .ok (.iconst 0, 1) := by decide +kernel
theorem dX12_sells_112 : decode cX12_sells 112 = .ok (.istore_n 2, 1) := by decide +kernel
theorem dX12_sells_113 : decode cX12_sells 113 = .ok (.iload_n 2, 1) := by decide +kernel
theorem dX12_sells_114 : decode cX12_sells 114 = .ok (.iconst 2, 1) := by decide +kernel
theorem dX12_sells_115 : decode cX12_sells 115 = .ok (.aload_n 0, 1) := by decide +kernel
theorem dX12_sells_116 : decode cX12_sells 116 = .ok (.getfield 7, 3) := by decide +kernel
theorem dX12_sells_119 : decode cX12_sells 119 = .ok (.imul, 1) := by decide +kernel
theorem dX12_sells_120 : decode cX12_sells 120 = .ok (.aload_n 0, 1) := by decide +kernel
theorem dX12_sells_121 : decode cX12_sells 121 = .ok (.getfield 97, 3) := by decide +kernel
theorem dX12_sells_124 : decode cX12_sells 124 = .ok (.iload_n 1, 1) := by decide +kernel
theorem dX12_sells_125 : decode cX12_sells 125 = .ok (.iaload, 1) := by decide +kernel
theorem dX12_sells_126 : decode cX12_sells 126 = .ok (.imul, 1) := by decide +kernel
theorem dX12_sells_127 : decode cX12_sells 127 = .ok (.if_icmp .ge 34, 3) := by decide +kernel
theorem dX12_sells_130 : decode cX12_sells 130 = .ok (.aload_n 0, 1) := by decide +kernel
theorem dX12_sells_131 : decode cX12_sells 131 = .ok (.ldc2_w 395, 3) := by decide +kernel
theorem dX12_sells_134 : decode cX12_sells 134 = .ok (.aload_n 0, 1) := by decide +kernel
theorem dX12_sells_135 : decode cX12_sells 135 = .ok (.getfield 51, 3) := by decide +kernel
theorem dX12_sells_138 : decode cX12_sells 138 = .ok (.iload_n 1, 1) := by decide +kernel
theorem dX12_sells_139 : decode cX12_sells 139 = .ok (.iaload, 1) := by decide +kernel
theorem dX12_sells_140 : decode cX12_sells 140 = .ok (.i2l, 1) := by decide +kernel
theorem dX12_sells_141 : decode cX12_sells 141 = .ok (.lmul, 1) := by decide +kernel
theorem dX12_sells_142 : decode cX12_sells 142 = .ok (.aload_n 0, 1) := by decide +kernel
theorem dX12_sells_143 : decode cX12_sells 143 = .ok (.iload_n 1, 1) := by decide +kernel
theorem dX12_sells_144 : decode cX12_sells 144 = .ok (.iconst 2, 1) := by decide +kernel
theorem dX12_sells_145 : decode cX12_sells 145 = .ok (.iload_n 2, 1) := by decide +kernel
theorem dX12_sells_146 : decode cX12_sells 146 = .ok (.imul, 1) := by decide +kernel
theorem dX12_sells_147 : decode cX12_sells 147 = .ok (.iconst 1, 1) := by decide +kernel
theorem dX12_sells_148 : decode cX12_sells 148 = .ok (.iadd, 1) := by decide +kernel
theorem dX12_sells_149 : decode cX12_sells 149 = .ok (.invokevirtual 397, 3) := by decide +kernel
theorem dX12_sells_152 : decode cX12_sells 152 = .ok (.invokevirtual 391, 3) := by decide +kernel
theorem dX12_sells_155 : decode cX12_sells 155 = .ok (.iinc 2 1, 3) := by decide +kernel
theorem dX12_sells_158 : decode cX12_sells 158 = .ok (.goto (-45), 3) := by decide +kernel
theorem dX12_sells_161 : decode cX12_sells 161 = .ok (.iinc 1 1, 3) := by decide +kernel
theorem dX12_sells_164 : decode cX12_sells 164 = .ok (.goto (-82), 3) := by decide +kernel
theorem dX12_sells_167 : decode cX12_sells 167 = .ok (.return_, 1) := by decide +kernel
theorem dX12_earnsOf_0 : decode cX12_earnsOf 0 = .ok (.aload_n 0, 1) := by decide +kernel
theorem dX12_earnsOf_1 : decode cX12_earnsOf 1 = .ok (.getfield 122, 3) := by decide +kernel
theorem dX12_earnsOf_4 : decode cX12_earnsOf 4 = .ok (.iload_n 1, 1) := by decide +kernel
theorem dX12_earnsOf_5 : decode cX12_earnsOf 5 = .ok (.laload, 1) := by decide +kernel
theorem dX12_earnsOf_6 : decode cX12_earnsOf 6 = .ok (.aload_n 0, 1) := by decide +kernel
theorem dX12_earnsOf_7 : decode cX12_earnsOf 7 = .ok (.iload_n 1, 1) := by decide +kernel
theorem dX12_earnsOf_8 : decode cX12_earnsOf 8 = .ok (.invokevirtual 380, 3) := by decide +kernel
theorem dX12_earnsOf_11 : decode cX12_earnsOf 11 = .ok (.i2l, 1) := by decide +kernel
theorem dX12_earnsOf_12 : decode cX12_earnsOf 12 = .ok (.lmul, 1) := by decide +kernel
theorem dX12_earnsOf_13 : decode cX12_earnsOf 13 = .ok (.lreturn, 1) := by decide +kernel
theorem dX12_chainEarns_0 : decode cX12_chainEarns 0 = .ok (.lconst 0, 1) := by decide +kernel
theorem dX12_chainEarns_1 : decode cX12_chainEarns 1 = .ok (.lstore_n 2, 1) := by decide +kernel
theorem dX12_chainEarns_2 : decode cX12_chainEarns 2 = .ok (.iconst 0, 1) := by decide +kernel
theorem dX12_chainEarns_3 : decode cX12_chainEarns 3 = .ok (.istore 4, 2) := by decide +kernel
theorem dX12_chainEarns_5 : decode cX12_chainEarns 5 = .ok (.iload 4, 2) := by decide +kernel
theorem dX12_chainEarns_7 : decode cX12_chainEarns 7 = .ok (.aload_n 0, 1) := by decide +kernel
theorem dX12_chainEarns_8 : decode cX12_chainEarns 8 = .ok (.getfield 329, 3) := by decide +kernel
theorem dX12_chainEarns_11 : decode cX12_chainEarns 11 = .ok (.if_icmp .ge 29, 3) := by decide +kernel
theorem dX12_chainEarns_14 : decode cX12_chainEarns 14 = .ok (.aload_n 0, 1) := by decide +kernel
theorem dX12_chainEarns_15 : decode cX12_chainEarns 15 = .ok (.getfield 116, 3) := by decide +kernel
theorem dX12_chainEarns_18 : decode cX12_chainEarns 18 = .ok (.iload 4, 2) := by decide +kernel
theorem dX12_chainEarns_20 : decode cX12_chainEarns 20 = .ok (.iaload, 1) := by decide +kernel
theorem dX12_chainEarns_21 : decode cX12_chainEarns 21 = .ok (.iload_n 1, 1) := by decide +kernel
theorem dX12_chainEarns_22 : decode cX12_chainEarns 22 = .ok (.if_icmp .ne 12, 3) := by decide +kernel
theorem dX12_chainEarns_25 : decode cX12_chainEarns 25 = .ok (.lload_n 2, 1) := by decide +kernel
theorem dX12_chainEarns_26 : decode cX12_chainEarns 26 = .ok (.aload_n 0, 1) := by decide +kernel
theorem dX12_chainEarns_27 : decode cX12_chainEarns 27 = .ok (.iload 4, 2) := by decide +kernel
theorem dX12_chainEarns_29 : decode cX12_chainEarns 29 = .ok (.invokevirtual 400, 3) := by decide +kernel
theorem dX12_chainEarns_32 : decode cX12_chainEarns 32 = .ok (.ladd, 1) := by decide +kernel
theorem dX12_chainEarns_33 : decode cX12_chainEarns 33 = .ok (.lstore_n 2, 1) := by decide +kernel
theorem dX12_chainEarns_34 : decode cX12_chainEarns 34 = .ok (.iinc 4 1, 3) := by decide +kernel
theorem dX12_chainEarns_37 : decode cX12_chainEarns 37 = .ok (.goto (-32), 3) := by decide +kernel
theorem dX12_chainEarns_40 : decode cX12_chainEarns 40 = .ok (.lload_n 2, 1) := by decide +kernel
theorem dX12_chainEarns_41 : decode cX12_chainEarns 41 = .ok (.lreturn, 1) := by decide +kernel
theorem dX12_seller_0 : decode cX12_seller 0 = .ok (.aload_n 0, 1) := by decide +kernel
theorem dX12_seller_1 : decode cX12_seller 1 = .ok (.iload_n 1, 1) := by decide +kernel
theorem dX12_seller_2 : decode cX12_seller 2 = .ok (.invokevirtual 370, 3) := by decide +kernel
theorem dX12_seller_5 : decode cX12_seller 5 = .ok (.ifCond .eq 55, 3) := by decide +kernel
theorem dX12_seller_8 : decode cX12_seller 8 = .ok (.iload_n 2, 1) := by decide +kernel
theorem dX12_seller_9 : decode cX12_seller 9 = .ok (.aload_n 0, 1) := by decide +kernel
theorem dX12_seller_10 : decode cX12_seller 10 = .ok (.getfield 16, 3) := by decide +kernel
theorem dX12_seller_13 : decode cX12_seller 13 = .ok (.aload_n 0, 1) := by decide +kernel
theorem dX12_seller_14 : decode cX12_seller 14 = .ok (.getfield 19, 3) := by decide +kernel
theorem dX12_seller_17 : decode cX12_seller 17 = .ok (.invokestatic 216, 3) := by decide +kernel
theorem dX12_seller_20 : decode cX12_seller 20 = .ok (.ifCond .eq 40, 3) := by decide +kernel
theorem dX12_seller_23 : decode cX12_seller 23 = .ok (.iload_n 3, 1) := by decide +kernel
theorem dX12_seller_24 : decode cX12_seller 24 = .ok (.iconst 0, 1) := by decide +kernel
theorem dX12_seller_25 : decode cX12_seller 25 = .ok (.iconst 2, 1) := by decide +kernel
theorem dX12_seller_26 : decode cX12_seller 26 = .ok (.invokestatic 216, 3) := by decide +kernel
theorem dX12_seller_29 : decode cX12_seller 29 = .ok (.ifCond .eq 31, 3) := by decide +kernel
theorem dX12_seller_32 : decode cX12_seller 32 = .ok (.iload 4, 2) := by decide +kernel
theorem dX12_seller_34 : decode cX12_seller 34 = .ok (.iconst 0, 1) := by decide +kernel
theorem dX12_seller_35 : decode cX12_seller 35 = .ok (.iconst 3, 1) := by decide +kernel
theorem dX12_seller_36 : decode cX12_seller 36 = .ok (.invokestatic 216, 3) := by decide +kernel
theorem dX12_seller_39 : decode cX12_seller 39 = .ok (.ifCond .eq 21, 3) := by decide +kernel
theorem dX12_seller_42 : decode cX12_seller 42 = .ok (.iload 5, 2) := by decide +kernel
theorem dX12_seller_44 : decode cX12_seller 44 = .ok (.iconst 0, 1) := by decide +kernel
theorem dX12_seller_45 : decode cX12_seller 45 = .ok (.iconst 2, 1) := by decide +kernel
theorem dX12_seller_46 : decode cX12_seller 46 = .ok (.invokestatic 216, 3) := by decide +kernel
theorem dX12_seller_49 : decode cX12_seller 49 = .ok (.ifCond .eq 11, 3) := by decide +kernel
theorem dX12_seller_52 : decode cX12_seller 52 = .ok (.aload_n 0, 1) := by decide +kernel
theorem dX12_seller_53 : decode cX12_seller 53 = .ok (.getfield 329, 3) := by decide +kernel
theorem dX12_seller_56 : decode cX12_seller 56 = .ok (.iconst 4, 1) := by decide +kernel
theorem dX12_seller_57 : decode cX12_seller 57 = .ok (.if_icmp .ne 5, 3) := by decide +kernel
theorem dX12_seller_60 : decode cX12_seller 60 = .ok (.iconst (-1), 1) := by decide +kernel
theorem dX12_seller_61 : decode cX12_seller 61 = .ok (.ireturn, 1) := by decide +kernel
theorem dX12_seller_62 : decode cX12_seller 62 = .ok (.aload_n 0, 1) := by decide +kernel
theorem dX12_seller_63 : decode cX12_seller 63 = .ok (.getfield 107, 3) := by decide +kernel
theorem dX12_seller_66 : decode cX12_seller 66 = .ok (.aload_n 0, 1) := by decide +kernel
theorem dX12_seller_67 : decode cX12_seller 67 = .ok (.getfield 329, 3) := by decide +kernel
theorem dX12_seller_70 : decode cX12_seller 70 = .ok (.iload_n 1, 1) := by decide +kernel
theorem dX12_seller_71 : decode cX12_seller 71 = .ok (.iastore, 1) := by decide +kernel
theorem dX12_seller_72 : decode cX12_seller 72 = .ok (.aload_n 0, 1) := by decide +kernel
theorem dX12_seller_73 : decode cX12_seller 73 = .ok (.getfield 110, 3) := by decide +kernel
theorem dX12_seller_76 : decode cX12_seller 76 = .ok (.aload_n 0, 1) := by decide +kernel
theorem dX12_seller_77 : decode cX12_seller 77 = .ok (.getfield 329, 3) := by decide +kernel
theorem dX12_seller_80 : decode cX12_seller 80 = .ok (.iload_n 2, 1) := by decide +kernel
theorem dX12_seller_81 : decode cX12_seller 81 = .ok (.iastore, 1) := by decide +kernel
theorem dX12_seller_82 : decode cX12_seller 82 = .ok (.aload_n 0, 1) := by decide +kernel
theorem dX12_seller_83 : decode cX12_seller 83 = .ok (.getfield 113, 3) := by decide +kernel
theorem dX12_seller_86 : decode cX12_seller 86 = .ok (.aload_n 0, 1) := by decide +kernel
theorem dX12_seller_87 : decode cX12_seller 87 = .ok (.getfield 329, 3) := by decide +kernel
theorem dX12_seller_90 : decode cX12_seller 90 = .ok (.iload_n 3, 1) := by decide +kernel
theorem dX12_seller_91 : decode cX12_seller 91 = .ok (.iastore, 1) := by decide +kernel
theorem dX12_seller_92 : decode cX12_seller 92 = .ok (.aload_n 0, 1) := by decide +kernel
theorem dX12_seller_93 : decode cX12_seller 93 = .ok (.getfield 116, 3) := by decide +kernel
theorem dX12_seller_96 : decode cX12_seller 96 = .ok (.aload_n 0, 1) := by decide +kernel
theorem dX12_seller_97 : decode cX12_seller 97 = .ok (.getfield 329, 3) := by decide +kernel
theorem dX12_seller_100 : decode cX12_seller 100 = .ok (.iload 4, 2) := by decide +kernel
theorem dX12_seller_102 : decode cX12_seller 102 = .ok (.iastore, 1) := by decide +kernel
theorem dX12_seller_103 : decode cX12_seller 103 = .ok (.aload_n 0, 1) := by decide +kernel
theorem dX12_seller_104 : decode cX12_seller 104 = .ok (.getfield 119, 3) := by decide +kernel
theorem dX12_seller_107 : decode cX12_seller 107 = .ok (.aload_n 0, 1) := by decide +kernel
theorem dX12_seller_108 : decode cX12_seller 108 = .ok (.getfield 329, 3) := by decide +kernel
theorem dX12_seller_111 : decode cX12_seller 111 = .ok (.iload 5, 2) := by decide +kernel
theorem dX12_seller_113 : decode cX12_seller 113 = .ok (.iastore, 1) := by decide +kernel
theorem dX12_seller_114 : decode cX12_seller 114 = .ok (.aload_n 0, 1) := by decide +kernel
theorem dX12_seller_115 : decode cX12_seller 115 = .ok (.dup, 1) := by decide +kernel
theorem dX12_seller_116 : decode cX12_seller 116 = .ok (.getfield 329, 3) := by decide +kernel
theorem dX12_seller_119 : decode cX12_seller 119 = .ok (.iconst 1, 1) := by decide +kernel
theorem dX12_seller_120 : decode cX12_seller 120 = .ok (.iadd, 1) := by decide +kernel
theorem dX12_seller_121 : decode cX12_seller 121 = .ok (.putfield 329, 3) := by decide +kernel
theorem dX12_seller_124 : decode cX12_seller 124 = .ok (.aload_n 0, 1) := by decide +kernel
theorem dX12_seller_125 : decode cX12_seller 125 = .ok (.getfield 329, 3) := by decide +kernel
theorem dX12_seller_128 : decode cX12_seller 128 = .ok (.iconst 1, 1) := by decide +kernel
theorem dX12_seller_129 : decode cX12_seller 129 = .ok (.isub, 1) := by decide +kernel
theorem dX12_seller_130 : decode cX12_seller 130 = .ok (.ireturn, 1) := by decide +kernel
theorem dX12_isSeller_0 : decode cX12_isSeller 0 = .ok (.iload_n 1, 1) := by decide +kernel
theorem dX12_isSeller_1 : decode cX12_isSeller 1 = .ok (.ifCond .lt 15, 3) := by decide +kernel
theorem dX12_isSeller_4 : decode cX12_isSeller 4 = .ok (.iload_n 1, 1) := by decide +kernel
theorem dX12_isSeller_5 : decode cX12_isSeller 5 = .ok (.aload_n 0, 1) := by decide +kernel
theorem dX12_isSeller_6 : decode cX12_isSeller 6 = .ok (.getfield 329, 3) := by decide +kernel
theorem dX12_isSeller_9 : decode cX12_isSeller 9 = .ok (.if_icmp .ge 7, 3) := by decide +kernel
theorem dX12_isSeller_12 : decode cX12_isSeller 12 = .ok (.iconst 1, 1) := by decide +kernel
theorem dX12_isSeller_13 : decode cX12_isSeller 13 = .ok (.goto 4, 3) := by decide +kernel
theorem dX12_isSeller_16 : decode cX12_isSeller 16 = .ok (.iconst 0, 1) := by decide +kernel
theorem dX12_isSeller_17 : decode cX12_isSeller 17 = .ok (.ireturn, 1) := by decide +kernel
theorem dX12_put_0 : decode cX12_put 0 = .ok (.aload_n 0, 1) := by decide +kernel
theorem dX12_put_1 : decode cX12_put 1 = .ok (.iload_n 1, 1) := by decide +kernel
theorem dX12_put_2 : decode cX12_put 2 = .ok (.invokevirtual 404, 3) := by decide +kernel
theorem dX12_put_5 : decode cX12_put 5 = .ok (.ifCond .eq 26, 3) := by decide +kernel
theorem dX12_put_8 : decode cX12_put 8 = .ok (.aload_n 0, 1) := by decide +kernel
theorem dX12_put_9 : decode cX12_put 9 = .ok (.iload_n 2, 1) := by decide +kernel
theorem dX12_put_10 : decode cX12_put 10 = .ok (.invokevirtual 370, 3) := by decide +kernel
theorem dX12_put_13 : decode cX12_put 13 = .ok (.ifCond .eq 18, 3) := by decide +kernel
theorem dX12_put_16 : decode cX12_put 16 = .ok (.iload_n 3, 1) := by decide +kernel
theorem dX12_put_17 : decode cX12_put 17 = .ok (.aload_n 0, 1) := by decide +kernel
theorem dX12_put_18 : decode cX12_put 18 = .ok (.getfield 16, 3) := by decide +kernel
theorem dX12_put_21 : decode cX12_put 21 = .ok (.aload_n 0, 1) := by decide +kernel
theorem dX12_put_22 : decode cX12_put 22 = .ok (.getfield 19, 3) := by decide +kernel
theorem dX12_put_25 : decode cX12_put 25 = .ok (.invokestatic 216, 3) := by decide +kernel
theorem dX12_put_28 : decode cX12_put 28 = .ok (.ifCond .ne 5, 3) := by decide +kernel
theorem dX12_put_31 : decode cX12_put 31 = .ok (.iconst 0, 1) := by decide +kernel
theorem dX12_put_32 : decode cX12_put 32 = .ok (.ireturn, 1) := by decide +kernel
theorem dX12_put_33 : decode cX12_put 33 = .ok (.aload_n 0, 1) := by decide +kernel
theorem dX12_put_34 : decode cX12_put 34 = .ok (.getfield 107, 3) := by decide +kernel
theorem dX12_put_37 : decode cX12_put 37 = .ok (.iload_n 1, 1) := by decide +kernel
theorem dX12_put_38 : decode cX12_put 38 = .ok (.iload_n 2, 1) := by decide +kernel
theorem dX12_put_39 : decode cX12_put 39 = .ok (.iastore, 1) := by decide +kernel
theorem dX12_put_40 : decode cX12_put 40 = .ok (.aload_n 0, 1) := by decide +kernel
theorem dX12_put_41 : decode cX12_put 41 = .ok (.getfield 110, 3) := by decide +kernel
theorem dX12_put_44 : decode cX12_put 44 = .ok (.iload_n 1, 1) := by decide +kernel
theorem dX12_put_45 : decode cX12_put 45 = .ok (.iload_n 3, 1) := by decide +kernel
theorem dX12_put_46 : decode cX12_put 46 = .ok (.iastore, 1) := by decide +kernel
theorem dX12_put_47 : decode cX12_put 47 = .ok (.iconst 1, 1) := by decide +kernel
theorem dX12_put_48 : decode cX12_put 48 = .ok (.ireturn, 1) := by decide +kernel
theorem dX12_of_0 : decode cX12_of 0 = .ok (.aload_n 0, 1) := by decide +kernel
theorem dX12_of_1 : decode cX12_of 1 = .ok (.iload_n 1, 1) := by decide +kernel
theorem dX12_of_2 : decode cX12_of 2 = .ok (.invokevirtual 404, 3) := by decide +kernel
theorem dX12_of_5 : decode cX12_of 5 = .ok (.ifCond .eq 12, 3) := by decide +kernel
theorem dX12_of_8 : decode cX12_of 8 = .ok (.iload_n 2, 1) := by decide +kernel
theorem dX12_of_9 : decode cX12_of 9 = .ok (.iconst 0, 1) := by decide +kernel
theorem dX12_of_10 : decode cX12_of 10 = .ok (.iconst 4, 1) := by decide +kernel
theorem dX12_of_11 : decode cX12_of 11 = .ok (.invokestatic 216, 3) := by decide +kernel
theorem dX12_of_14 : decode cX12_of 14 = .ok (.ifCond .ne 5, 3) := by decide +kernel
theorem dX12_of_17 : decode cX12_of 17 = .ok (.iconst (-1), 1) := by decide +kernel
theorem dX12_of_18 : decode cX12_of 18 = .ok (.ireturn, 1) := by decide +kernel
theorem dX12_of_19 : decode cX12_of 19 = .ok (.iload_n 2, 1) := by decide +kernel
theorem dX12_of_20 : decode cX12_of 20 = .ok (.ifCond .ne 12, 3) := by decide +kernel
theorem dX12_of_23 : decode cX12_of 23 = .ok (.aload_n 0, 1) := by decide +kernel
theorem dX12_of_24 : decode cX12_of 24 = .ok (.getfield 107, 3) := by decide +kernel
theorem dX12_of_27 : decode cX12_of 27 = .ok (.iload_n 1, 1) := by decide +kernel
theorem dX12_of_28 : decode cX12_of 28 = .ok (.iaload, 1) := by decide +kernel
theorem dX12_of_29 : decode cX12_of 29 = .ok (.goto 50, 3) := by decide +kernel
theorem dX12_of_32 : decode cX12_of 32 = .ok (.iload_n 2, 1) := by decide +kernel
theorem dX12_of_33 : decode cX12_of 33 = .ok (.iconst 1, 1) := by decide +kernel
theorem dX12_of_34 : decode cX12_of 34 = .ok (.if_icmp .ne 11, 3) := by decide +kernel
theorem dX12_of_37 : decode cX12_of 37 = .ok (.aload_n 0, 1) := by decide +kernel
theorem dX12_of_38 : decode cX12_of 38 = .ok (.iload_n 1, 1) := by decide +kernel
theorem dX12_of_39 : decode cX12_of 39 = .ok (.invokevirtual 380, 3) := by decide +kernel
theorem dX12_of_42 : decode cX12_of 42 = .ok (.goto 37, 3) := by decide +kernel
theorem dX12_of_45 : decode cX12_of 45 = .ok (.iload_n 2, 1) := by decide +kernel
theorem dX12_of_46 : decode cX12_of 46 = .ok (.iconst 2, 1) := by decide +kernel
theorem dX12_of_47 : decode cX12_of 47 = .ok (.if_icmp .ne 12, 3) := by decide +kernel
theorem dX12_of_50 : decode cX12_of 50 = .ok (.aload_n 0, 1) := by decide +kernel
theorem dX12_of_51 : decode cX12_of 51 = .ok (.getfield 113, 3) := by decide +kernel
theorem dX12_of_54 : decode cX12_of 54 = .ok (.iload_n 1, 1) := by decide +kernel
theorem dX12_of_55 : decode cX12_of 55 = .ok (.iaload, 1) := by decide +kernel
theorem dX12_of_56 : decode cX12_of 56 = .ok (.goto 23, 3) := by decide +kernel
theorem dX12_of_59 : decode cX12_of 59 = .ok (.iload_n 2, 1) := by decide +kernel
theorem dX12_of_60 : decode cX12_of 60 = .ok (.iconst 3, 1) := by decide +kernel
theorem dX12_of_61 : decode cX12_of 61 = .ok (.if_icmp .ne 12, 3) := by decide +kernel
theorem dX12_of_64 : decode cX12_of 64 = .ok (.aload_n 0, 1) := by decide +kernel
theorem dX12_of_65 : decode cX12_of 65 = .ok (.getfield 116, 3) := by decide +kernel
theorem dX12_of_68 : decode cX12_of 68 = .ok (.iload_n 1, 1) := by decide +kernel
theorem dX12_of_69 : decode cX12_of 69 = .ok (.iaload, 1) := by decide +kernel
theorem dX12_of_70 : decode cX12_of 70 = .ok (.goto 9, 3) := by decide +kernel
theorem dX12_of_73 : decode cX12_of 73 = .ok (.aload_n 0, 1) := by decide +kernel
theorem dX12_of_74 : decode cX12_of 74 = .ok (.getfield 119, 3) := by decide +kernel
theorem dX12_of_77 : decode cX12_of 77 = .ok (.iload_n 1, 1) := by decide +kernel
theorem dX12_of_78 : decode cX12_of 78 = .ok (.iaload, 1) := by decide +kernel
theorem dX12_of_79 : decode cX12_of 79 = .ok (.ireturn, 1) := by decide +kernel
theorem dX12_sold_0 : decode cX12_sold 0 = .ok (.aload_n 0, 1) := by decide +kernel
theorem dX12_sold_1 : decode cX12_sold 1 = .ok (.iload_n 1, 1) := by decide +kernel
theorem dX12_sold_2 : decode cX12_sold 2 = .ok (.invokevirtual 404, 3) := by decide +kernel
theorem dX12_sold_5 : decode cX12_sold 5 = .ok (.ifCond .ne 7, 3) := by decide +kernel
theorem dX12_sold_8 : decode cX12_sold 8 = .ok (.ldc2_w 204, 3) := by decide +kernel
theorem dX12_sold_11 : decode cX12_sold 11 = .ok (.lreturn, 1) := by decide +kernel
theorem dX12_sold_12 : decode cX12_sold 12 = .ok (.aload_n 0, 1) := by decide +kernel
theorem dX12_sold_13 : decode cX12_sold 13 = .ok (.invokevirtual 407, 3) := by decide +kernel
theorem dX12_sold_16 : decode cX12_sold 16 = .ok (.aload_n 0, 1) := by decide +kernel
theorem dX12_sold_17 : decode cX12_sold 17 = .ok (.getfield 122, 3) := by decide +kernel
theorem dX12_sold_20 : decode cX12_sold 20 = .ok (.iload_n 1, 1) := by decide +kernel
theorem dX12_sold_21 : decode cX12_sold 21 = .ok (.laload, 1) := by decide +kernel
theorem dX12_sold_22 : decode cX12_sold 22 = .ok (.lreturn, 1) := by decide +kernel
theorem dX12_earns_0 : decode cX12_earns 0 = .ok (.iload_n 1, 1) := by decide +kernel
theorem dX12_earns_1 : decode cX12_earns 1 = .ok (.iconst 0, 1) := by decide +kernel
theorem dX12_earns_2 : decode cX12_earns 2 = .ok (.iconst 3, 1) := by decide +kernel
theorem dX12_earns_3 : decode cX12_earns 3 = .ok (.invokestatic 216, 3) := by decide +kernel
theorem dX12_earns_6 : decode cX12_earns 6 = .ok (.ifCond .ne 7, 3) := by decide +kernel
theorem dX12_earns_9 : decode cX12_earns 9 = .ok (.ldc2_w 204, 3) := by decide +kernel
theorem dX12_earns_12 : decode cX12_earns 12 = .ok (.lreturn, 1) := by decide +kernel
theorem dX12_earns_13 : decode cX12_earns 13 = .ok (.aload_n 0, 1) := by decide +kernel
theorem dX12_earns_14 : decode cX12_earns 14 = .ok (.invokevirtual 407, 3) := by decide +kernel
theorem dX12_earns_17 : decode cX12_earns 17 = .ok (.aload_n 0, 1) := by decide +kernel
theorem dX12_earns_18 : decode cX12_earns 18 = .ok (.iload_n 1, 1) := by decide +kernel
theorem dX12_earns_19 : decode cX12_earns 19 = .ok (.invokevirtual 410, 3) := by decide +kernel
theorem dX12_earns_22 : decode cX12_earns 22 = .ok (.lreturn, 1) := by decide +kernel
theorem dX12_home_0 : decode cX12_home 0 = .ok (.aload_n 0, 1) := by decide +kernel
theorem dX12_home_1 : decode cX12_home 1 = .ok (.invokevirtual 407, 3) := by decide +kernel
theorem dX12_home_4 : decode cX12_home 4 = .ok (.aload_n 0, 1) := by decide +kernel
theorem dX12_home_5 : decode cX12_home 5 = .ok (.getfield 377, 3) := by decide +kernel
theorem dX12_home_8 : decode cX12_home 8 = .ok (.lreturn, 1) := by decide +kernel
theorem dX12_buys_0 : decode cX12_buys 0 = .ok (.iload_n 1, 1) := by decide +kernel
theorem dX12_buys_1 : decode cX12_buys 1 = .ok (.iconst 0, 1) := by decide +kernel
theorem dX12_buys_2 : decode cX12_buys 2 = .ok (.aload_n 0, 1) := by decide +kernel
theorem dX12_buys_3 : decode cX12_buys 3 = .ok (.getfield 272, 3) := by decide +kernel
theorem dX12_buys_6 : decode cX12_buys 6 = .ok (.iconst 1, 1) := by decide +kernel
theorem dX12_buys_7 : decode cX12_buys 7 = .ok (.isub, 1) := by decide +kernel
theorem dX12_buys_8 : decode cX12_buys 8 = .ok (.invokestatic 216, 3) := by decide +kernel
theorem dX12_buys_11 : decode cX12_buys 11 = .ok (.ifCond .ne 5, 3) := by decide +kernel
theorem dX12_buys_14 : decode cX12_buys 14 = .ok (.iconst (-1), 1) := by decide +kernel
theorem dX12_buys_15 : decode cX12_buys 15 = .ok (.ireturn, 1) := by decide +kernel
theorem dX12_buys_16 : decode cX12_buys 16 = .ok (.aload_n 0, 1) := by decide +kernel
theorem dX12_buys_17 : decode cX12_buys 17 = .ok (.invokevirtual 383, 3) := by decide +kernel
theorem dX12_buys_20 : decode cX12_buys 20 = .ok (.aload_n 0, 1) := by decide +kernel
theorem dX12_buys_21 : decode cX12_buys 21 = .ok (.iload_n 1, 1) := by decide +kernel
theorem dX12_buys_22 : decode cX12_buys 22 = .ok (.invokevirtual 388, 3) := by decide +kernel
theorem dX12_buys_25 : decode cX12_buys 25 = .ok (.ireturn, 1) := by decide +kernel
theorem dX12_isLet_0 : decode cX12_isLet 0 = .ok (.iconst 1, 1) := by decide +kernel
theorem dX12_isLet_1 : decode cX12_isLet 1 = .ok (.istore_n 3, 1) := by decide +kernel
theorem dX12_isLet_2 : decode cX12_isLet 2 = .ok (.iconst 0, 1) := by decide +kernel
theorem dX12_isLet_3 : decode cX12_isLet 3 = .ok (.istore 4, 2) := by decide +kernel
theorem dX12_isLet_5 : decode cX12_isLet 5 = .ok (.iload 4, 2) := by decide +kernel
theorem dX12_isLet_7 : decode cX12_isLet 7 = .ok (.aload_n 0, 1) := by decide +kernel
theorem dX12_isLet_8 : decode cX12_isLet 8 = .ok (.getfield 329, 3) := by decide +kernel
theorem dX12_isLet_11 : decode cX12_isLet 11 = .ok (.if_icmp .ge 44, 3) := by decide +kernel
theorem dX12_isLet_14 : decode cX12_isLet 14 = .ok (.iload_n 3, 1) := by decide +kernel
theorem dX12_isLet_15 : decode cX12_isLet 15 = .ok (.ifCond .eq 32, 3) := by decide +kernel
theorem dX12_isLet_18 : decode cX12_isLet 18 = .ok (.iload 4, 2) := by decide +kernel
theorem dX12_isLet_20 : decode cX12_isLet 20 = .ok (.iload_n 1, 1) := by decide +kernel
theorem dX12_isLet_21 : decode cX12_isLet 21 = .ok (.if_icmp .eq 22, 3) := by decide +kernel
theorem dX12_isLet_24 : decode cX12_isLet 24 = .ok (.aload_n 0, 1) := by decide +kernel
theorem dX12_isLet_25 : decode cX12_isLet 25 = .ok (.iload_n 2, 1) := by decide +kernel
theorem dX12_isLet_26 : decode cX12_isLet 26 = .ok (.aload_n 0, 1) := by decide +kernel
theorem dX12_isLet_27 : decode cX12_isLet 27 = .ok (.getfield 107, 3) := by decide +kernel
theorem dX12_isLet_30 : decode cX12_isLet 30 = .ok (.iload 4, 2) := by decide +kernel
theorem dX12_isLet_32 : decode cX12_isLet 32 = .ok (.iaload, 1) := by decide +kernel
theorem dX12_isLet_33 : decode cX12_isLet 33 = .ok (.invokevirtual 374, 3) := by decide +kernel
theorem dX12_isLet_36 : decode cX12_isLet 36 = .ok (.aload_n 0, 1) := by decide +kernel
theorem dX12_isLet_37 : decode cX12_isLet 37 = .ok (.getfield 348, 3) := by decide +kernel
theorem dX12_isLet_40 : decode cX12_isLet 40 = .ok (.if_icmp .lt 7, 3) := by decide +kernel
theorem dX12_isLet_43 : decode cX12_isLet 43 = .ok (.iconst 1, 1) := by decide +kernel
theorem dX12_isLet_44 : decode cX12_isLet 44 = .ok (.goto 4, 3) := by decide +kernel
theorem dX12_isLet_47 : decode cX12_isLet 47 = .ok (.iconst 0, 1) := by decide +kernel
theorem dX12_isLet_48 : decode cX12_isLet 48 = .ok (.istore_n 3, 1) := by decide +kernel
theorem dX12_isLet_49 : decode cX12_isLet 49 = .ok (.iinc 4 1, 3) := by decide +kernel
theorem dX12_isLet_52 : decode cX12_isLet 52 = .ok (.goto (-47), 3) := by decide +kernel
theorem dX12_isLet_55 : decode cX12_isLet 55 = .ok (.iload_n 3, 1) := by decide +kernel
theorem dX12_isLet_56 : decode cX12_isLet 56 = .ok (.ireturn, 1) := by decide +kernel
theorem dX12_tries_0 : decode cX12_tries 0 = .ok (.aload_n 0, 1) := by decide +kernel
theorem dX12_tries_1 : decode cX12_tries 1 = .ok (.invokevirtual 407, 3) := by decide +kernel
theorem dX12_tries_4 : decode cX12_tries 4 = .ok (.aload_n 0, 1) := by decide +kernel
theorem dX12_tries_5 : decode cX12_tries 5 = .ok (.aload_n 0, 1) := by decide +kernel
theorem dX12_tries_6 : decode cX12_tries 6 = .ok (.getfield 116, 3) := by decide +kernel
theorem dX12_tries_9 : decode cX12_tries 9 = .ok (.iload_n 1, 1) := by decide +kernel
theorem dX12_tries_10 : decode cX12_tries 10 = .ok (.iaload, 1) := by decide +kernel
theorem dX12_tries_11 : decode cX12_tries 11 = .ok (.invokevirtual 410, 3) := by decide +kernel
theorem dX12_tries_14 : decode cX12_tries 14 = .ok (.lstore 4, 2) := by decide +kernel
theorem dX12_tries_16 : decode cX12_tries 16 = .ok (.iload_n 3, 1) := by decide +kernel
theorem dX12_tries_17 : decode cX12_tries 17 = .ok (.ifCond .ne 14, 3) := by decide +kernel
theorem dX12_tries_20 : decode cX12_tries 20 = .ok (.lload 4, 2) := by decide +kernel
theorem dX12_tries_22 : decode cX12_tries 22 = .ok (.aload_n 0, 1) := by decide +kernel
theorem dX12_tries_23 : decode cX12_tries 23 = .ok (.getfield 413, 3) := by decide +kernel
theorem dX12_tries_26 : decode cX12_tries 26 = .ok (.lcmp, 1) := by decide +kernel
theorem dX12_tries_27 : decode cX12_tries 27 = .ok (.ifCond .gt 4, 3) := by decide +kernel
theorem dX12_tries_30 : decode cX12_tries 30 = .ok (.return_, 1) := by decide +kernel
theorem dX12_tries_31 : decode cX12_tries 31 = .ok (.aload_n 0, 1) := by decide +kernel
theorem dX12_tries_32 : decode cX12_tries 32 = .ok (.lload 4, 2) := by decide +kernel
theorem dX12_tries_34 : decode cX12_tries 34 = .ok (.putfield 413, 3) := by decide +kernel
theorem dX12_tries_37 : decode cX12_tries 37 = .ok (.aload_n 0, 1) := by decide +kernel
theorem dX12_tries_38 : decode cX12_tries 38 = .ok (.iload_n 2, 1) := by decide +kernel
theorem dX12_tries_39 : decode cX12_tries 39 = .ok (.putfield 416, 3) := by decide +kernel
theorem dX12_tries_42 : decode cX12_tries 42 = .ok (.aload_n 0, 1) := by decide +kernel
theorem dX12_tries_43 : decode cX12_tries 43 = .ok (.iload_n 3, 1) := by decide +kernel
theorem dX12_tries_44 : decode cX12_tries 44 = .ok (.ifCond .ne 7, 3) := by decide +kernel
theorem dX12_tries_47 : decode cX12_tries 47 = .ok (.iconst 1, 1) := by decide +kernel
theorem dX12_tries_48 : decode cX12_tries 48 = .ok (.goto 4, 3) := by decide +kernel
theorem dX12_tries_51 : decode cX12_tries 51 = .ok (.iconst 0, 1) := by decide +kernel
theorem dX12_tries_52 : decode cX12_tries 52 = .ok (.putfield 419, 3) := by decide +kernel
theorem dX12_tries_55 : decode cX12_tries 55 = .ok (.return_, 1) := by decide +kernel
theorem dX12_findBest_0 : decode cX12_findBest 0 = .ok (.aload_n 0, 1) := by decide +kernel
theorem dX12_findBest_1 : decode cX12_findBest 1 = .ok (.getfield 107, 3) := by decide +kernel
theorem dX12_findBest_4 : decode cX12_findBest 4 = .ok (.iload_n 1, 1) := by decide +kernel
theorem dX12_findBest_5 : decode cX12_findBest 5 = .ok (.iaload, 1) := by decide +kernel
theorem dX12_findBest_6 : decode cX12_findBest 6 = .ok (.istore_n 2, 1) := by decide +kernel
theorem dX12_findBest_7 : decode cX12_findBest 7 = .ok (.aload_n 0, 1) := by decide +kernel
theorem dX12_findBest_8 : decode cX12_findBest 8 = .ok (.getfield 110, 3) := by decide +kernel
theorem dX12_findBest_11 : decode cX12_findBest 11 = .ok (.iload_n 1, 1) := by decide +kernel
theorem dX12_findBest_12 : decode cX12_findBest 12 = .ok (.iaload, 1) := by decide +kernel
theorem dX12_findBest_13 : decode cX12_findBest 13 = .ok (.istore_n 3, 1) := by decide +kernel
theorem dX12_findBest_14 : decode cX12_findBest 14 = .ok (.aload_n 0, 1) := by decide +kernel
theorem dX12_findBest_15 : decode cX12_findBest 15 = .ok (.iload_n 1, 1) := by decide +kernel
theorem dX12_findBest_16 : decode cX12_findBest 16 = .ok (.aload_n 0, 1) := by decide +kernel
theorem dX12_findBest_17 : decode cX12_findBest 17 = .ok (.getfield 119, 3) := by decide +kernel
theorem dX12_findBest_20 : decode cX12_findBest 20 = .ok (.iload_n 1, 1) := by decide +kernel
theorem dX12_findBest_21 : decode cX12_findBest 21 = .ok (.iaload, 1) := by decide +kernel
theorem dX12_findBest_22 : decode cX12_findBest 22 = .ok (.iconst 1, 1) := by decide +kernel
theorem dX12_findBest_23 : decode cX12_findBest 23 = .ok (.if_icmp .ne 11, 3) := by decide +kernel
theorem dX12_findBest_26 : decode cX12_findBest 26 = .ok (.aload_n 0, 1) := by decide +kernel
theorem dX12_findBest_27 : decode cX12_findBest 27 = .ok (.iload_n 1, 1) := by decide +kernel
theorem dX12_findBest_28 : decode cX12_findBest 28 = .ok (.invokevirtual 380, 3) := by decide +kernel
theorem dX12_findBest_31 : decode cX12_findBest 31 = .ok (.goto 4, 3) := by decide +kernel
theorem dX12_findBest_34 : decode cX12_findBest 34 = .ok (.iload_n 2, 1) := by decide +kernel
theorem dX12_findBest_35 : decode cX12_findBest 35 = .ok (.iconst 1, 1) := by decide +kernel
theorem dX12_findBest_36 : decode cX12_findBest 36 = .ok (.invokevirtual 422, 3) := by decide +kernel
theorem dX12_findBest_39 : decode cX12_findBest 39 = .ok (.aload_n 0, 1) := by decide +kernel
theorem dX12_findBest_40 : decode cX12_findBest 40 = .ok (.getfield 119, 3) := by decide +kernel
theorem dX12_findBest_43 : decode cX12_findBest 43 = .ok (.iload_n 1, 1) := by decide +kernel
theorem dX12_findBest_44 : decode cX12_findBest 44 = .ok (.iaload, 1) := by decide +kernel
theorem dX12_findBest_45 : decode cX12_findBest 45 = .ok (.ifCond .ne 98, 3) := by decide +kernel
theorem dX12_findBest_48 : decode cX12_findBest 48 = .ok (.iconst 0, 1) := by decide +kernel
theorem dX12_findBest_49 : decode cX12_findBest 49 = .ok (.istore 4, 2) := by decide +kernel
theorem dX12_findBest_51 : decode cX12_findBest 51 = .ok (.iload 4, 2) := by decide +kernel
theorem dX12_findBest_53 : decode cX12_findBest 53 = .ok (.bipush 100, 2) := by decide +kernel
theorem dX12_findBest_55 : decode cX12_findBest 55 = .ok (.bipush 20, 2) := by decide +kernel
theorem dX12_findBest_57 : decode cX12_findBest 57 = .ok (.aload_n 0, 1) := by decide +kernel
theorem dX12_findBest_58 : decode cX12_findBest 58 = .ok (.getfield 320, 3) := by decide +kernel
theorem dX12_findBest_61 : decode cX12_findBest 61 = .ok (.imul, 1) := by decide +kernel
theorem dX12_findBest_62 : decode cX12_findBest 62 = .ok (.iadd, 1) := by decide +kernel
theorem dX12_findBest_63 : decode cX12_findBest 63 = .ok (.if_icmp .ge 73, 3) := by decide +kernel
theorem dX12_findBest_66 : decode cX12_findBest 66 = .ok (.iload 4, 2) := by decide +kernel
theorem dX12_findBest_68 : decode cX12_findBest 68 = .ok (.iload_n 2, 1) := by decide +kernel
theorem dX12_findBest_69 : decode cX12_findBest 69 = .ok (.if_icmp .eq 61, 3) := by decide +kernel
theorem dX12_findBest_72 : decode cX12_findBest 72 = .ok (.aload_n 0, 1) := by decide +kernel
theorem dX12_findBest_73 : decode cX12_findBest 73 = .ok (.iload 4, 2) := by decide +kernel
theorem dX12_findBest_75 : decode cX12_findBest 75 = .ok (.invokevirtual 370, 3) := by decide +kernel
theorem dX12_findBest_78 : decode cX12_findBest 78 = .ok (.ifCond .eq 52, 3) := by decide +kernel
theorem dX12_findBest_81 : decode cX12_findBest 81 = .ok (.iload 4, 2) := by decide +kernel
theorem dX12_findBest_83 : decode cX12_findBest 83 = .ok (.bipush 100, 2) := by decide +kernel
theorem dX12_findBest_85 : decode cX12_findBest 85 = .ok (.if_icmp .lt 16, 3) := by decide +kernel
theorem dX12_findBest_88 : decode cX12_findBest 88 = .ok (.aload_n 0, 1) := by decide +kernel
theorem dX12_findBest_89 : decode cX12_findBest 89 = .ok (.getfield 103, 3) := by decide +kernel
theorem dX12_findBest_92 : decode cX12_findBest 92 = .ok (.iload 4, 2) := by decide +kernel
theorem dX12_findBest_94 : decode cX12_findBest 94 = .ok (.invokestatic 357, 3) := by decide +kernel
theorem dX12_findBest_97 : decode cX12_findBest 97 = .ok (.baload, 1) := by decide +kernel
theorem dX12_findBest_98 : decode cX12_findBest 98 = .ok (.ifCond .ne 32, 3) := by decide +kernel
theorem dX12_findBest_101 : decode cX12_findBest 101 = .ok (.aload_n 0, 1) := by decide +kernel
theorem dX12_findBest_102 : decode cX12_findBest 102 = .ok (.iload_n 1, 1) := by decide +kernel
theorem dX12_findBest_103 : decode cX12_findBest 103 = .ok (.iload 4, 2) := by decide +kernel
theorem dX12_findBest_105 : decode cX12_findBest 105 = .ok (.invokevirtual 426, 3) := by decide +kernel
theorem dX12_findBest_108 : decode cX12_findBest 108 = .ok (.ifCond .ne 6, 3) := by decide +kernel
theorem dX12_findBest_111 : decode cX12_findBest 111 = .ok (.goto 19, 3) := by decide +kernel
theorem dX12_findBest_114 : decode cX12_findBest 114 = .ok (.aload_n 0, 1) := by decide +kernel
theorem dX12_findBest_115 : decode cX12_findBest 115 = .ok (.getfield 107, 3) := by decide +kernel
theorem dX12_findBest_118 : decode cX12_findBest 118 = .ok (.iload_n 1, 1) := by decide +kernel
theorem dX12_findBest_119 : decode cX12_findBest 119 = .ok (.iload 4, 2) := by decide +kernel
theorem dX12_findBest_121 : decode cX12_findBest 121 = .ok (.iastore, 1) := by decide +kernel
theorem dX12_findBest_122 : decode cX12_findBest 122 = .ok (.aload_n 0, 1) := by decide +kernel
theorem dX12_findBest_123 : decode cX12_findBest 123 = .ok (.iload_n 1, 1) := by decide +kernel
theorem dX12_findBest_124 : decode cX12_findBest 124 = .ok (.iload 4, 2) := by decide +kernel
theorem dX12_findBest_126 : decode cX12_findBest 126 = .ok (.iconst 0, 1) := by decide +kernel
theorem dX12_findBest_127 : decode cX12_findBest 127 = .ok (.invokevirtual 422, 3) := by decide +kernel
theorem dX12_findBest_130 : decode cX12_findBest 130 = .ok (.iinc 4 1, 3) := by decide +kernel
theorem dX12_findBest_133 : decode cX12_findBest 133 = .ok (.goto (-82), 3) := by decide +kernel
theorem dX12_findBest_136 : decode cX12_findBest 136 = .ok (.aload_n 0, 1) := by decide +kernel
theorem dX12_findBest_137 : decode cX12_findBest 137 = .ok (.getfield 107, 3) := by decide +kernel
theorem dX12_findBest_140 : decode cX12_findBest 140 = .ok (.iload_n 1, 1) := by decide +kernel
theorem dX12_findBest_141 : decode cX12_findBest 141 = .ok (.iload_n 2, 1) := by decide +kernel
theorem dX12_findBest_142 : decode cX12_findBest 142 = .ok (.iastore, 1) := by decide +kernel
theorem dX12_findBest_143 : decode cX12_findBest 143 = .ok (.aload_n 0, 1) := by decide +kernel
theorem dX12_findBest_144 : decode cX12_findBest 144 = .ok (.getfield 119, 3) := by decide +kernel
theorem dX12_findBest_147 : decode cX12_findBest 147 = .ok (.iload_n 1, 1) := by decide +kernel
theorem dX12_findBest_148 : decode cX12_findBest 148 = .ok (.iaload, 1) := by decide +kernel
theorem dX12_findBest_149 : decode cX12_findBest 149 = .ok (.iconst 1, 1) := by decide +kernel
theorem dX12_findBest_150 : decode cX12_findBest 150 = .ok (.if_icmp .ne 63, 3) := by decide +kernel
theorem dX12_findBest_153 : decode cX12_findBest 153 = .ok (.aload_n 0, 1) := by decide +kernel
theorem dX12_findBest_154 : decode cX12_findBest 154 = .ok (.getfield 351, 3) := by decide +kernel
theorem dX12_findBest_157 : decode cX12_findBest 157 = .ok (.ifCond .ge 56, 3) := by decide +kernel
theorem dX12_findBest_160 : decode cX12_findBest 160 = .ok (.aload_n 0, 1) := by decide +kernel
theorem dX12_findBest_161 : decode cX12_findBest 161 = .ok (.getfield 16, 3) := by decide +kernel
theorem dX12_findBest_164 : decode cX12_findBest 164 = .ok (.istore 4, 2) := by decide +kernel
theorem dX12_findBest_166 : decode cX12_findBest 166 = .ok (.iload 4, 2) := by decide +kernel
theorem dX12_findBest_168 : decode cX12_findBest 168 = .ok (.aload_n 0, 1) := by decide +kernel
theorem dX12_findBest_169 : decode cX12_findBest 169 = .ok (.getfield 19, 3) := by decide +kernel
theorem dX12_findBest_172 : decode cX12_findBest 172 = .ok (.if_icmp .gt 34, 3) := by decide +kernel
theorem dX12_findBest_175 : decode cX12_findBest 175 = .ok (.iload 4, 2) := by decide +kernel
theorem dX12_findBest_177 : decode cX12_findBest 177 = .ok (.iload_n 3, 1) := by decide +kernel
theorem dX12_findBest_178 : decode cX12_findBest 178 = .ok (.if_icmp .ne 6, 3) := by decide +kernel
theorem dX12_findBest_181 : decode cX12_findBest 181 = .ok (.goto 19, 3) := by decide +kernel
theorem dX12_findBest_184 : decode cX12_findBest 184 = .ok (.aload_n 0, 1) := by decide +kernel
theorem dX12_findBest_185 : decode cX12_findBest 185 = .ok (.getfield 110, 3) := by decide +kernel
theorem dX12_findBest_188 : decode cX12_findBest 188 = .ok (.iload_n 1, 1) := by decide +kernel
theorem dX12_findBest_189 : decode cX12_findBest 189 = .ok (.iload 4, 2) := by decide +kernel
theorem dX12_findBest_191 : decode cX12_findBest 191 = .ok (.iastore, 1) := by decide +kernel
theorem dX12_findBest_192 : decode cX12_findBest 192 = .ok (.aload_n 0, 1) := by decide +kernel
theorem dX12_findBest_193 : decode cX12_findBest 193 = .ok (.iload_n 1, 1) := by decide +kernel
theorem dX12_findBest_194 : decode cX12_findBest 194 = .ok (.iload 4, 2) := by decide +kernel
theorem dX12_findBest_196 : decode cX12_findBest 196 = .ok (.iconst 0, 1) := by decide +kernel
theorem dX12_findBest_197 : decode cX12_findBest 197 = .ok (.invokevirtual 422, 3) := by decide +kernel
theorem dX12_findBest_200 : decode cX12_findBest 200 = .ok (.iinc 4 1, 3) := by decide +kernel
theorem dX12_findBest_203 : decode cX12_findBest 203 = .ok (.goto (-37), 3) := by decide +kernel
theorem dX12_findBest_206 : decode cX12_findBest 206 = .ok (.aload_n 0, 1) := by decide +kernel
theorem dX12_findBest_207 : decode cX12_findBest 207 = .ok (.getfield 110, 3) := by decide +kernel
theorem dX12_findBest_210 : decode cX12_findBest 210 = .ok (.iload_n 1, 1) := by decide +kernel
theorem dX12_findBest_211 : decode cX12_findBest 211 = .ok (.iload_n 3, 1) := by decide +kernel
theorem dX12_findBest_212 : decode cX12_findBest 212 = .ok (.iastore, 1) := by decide +kernel
theorem dX12_findBest_213 : decode cX12_findBest 213 = .ok (.return_, 1) := by decide +kernel
theorem dX12_best_0 : decode cX12_best 0 = .ok (.aload_n 0, 1) := by decide +kernel
theorem dX12_best_1 : decode cX12_best 1 = .ok (.iload_n 1, 1) := by decide +kernel
theorem dX12_best_2 : decode cX12_best 2 = .ok (.invokevirtual 404, 3) := by decide +kernel
theorem dX12_best_5 : decode cX12_best 5 = .ok (.ifCond .eq 12, 3) := by decide +kernel
theorem dX12_best_8 : decode cX12_best 8 = .ok (.iload_n 2, 1) := by decide +kernel
theorem dX12_best_9 : decode cX12_best 9 = .ok (.iconst 0, 1) := by decide +kernel
theorem dX12_best_10 : decode cX12_best 10 = .ok (.iconst 2, 1) := by decide +kernel
theorem dX12_best_11 : decode cX12_best 11 = .ok (.invokestatic 216, 3) := by decide +kernel
theorem dX12_best_14 : decode cX12_best 14 = .ok (.ifCond .ne 7, 3) := by decide +kernel
theorem dX12_best_17 : decode cX12_best 17 = .ok (.ldc2_w 204, 3) := by decide +kernel
theorem dX12_best_20 : decode cX12_best 20 = .ok (.lreturn, 1) := by decide +kernel
theorem dX12_best_21 : decode cX12_best 21 = .ok (.aload_n 0, 1) := by decide +kernel
theorem dX12_best_22 : decode cX12_best 22 = .ok (.iload_n 1, 1) := by decide +kernel
theorem dX12_best_23 : decode cX12_best 23 = .ok (.invokevirtual 430, 3) := by decide +kernel
theorem dX12_best_26 : decode cX12_best 26 = .ok (.iload_n 2, 1) := by decide +kernel
theorem dX12_best_27 : decode cX12_best 27 = .ok (.ifCond .ne 11, 3) := by decide +kernel
theorem dX12_best_30 : decode cX12_best 30 = .ok (.aload_n 0, 1) := by decide +kernel
theorem dX12_best_31 : decode cX12_best 31 = .ok (.getfield 416, 3) := by decide +kernel
theorem dX12_best_34 : decode cX12_best 34 = .ok (.i2l, 1) := by decide +kernel
theorem dX12_best_35 : decode cX12_best 35 = .ok (.goto 27, 3) := by decide +kernel
theorem dX12_best_38 : decode cX12_best 38 = .ok (.iload_n 2, 1) := by decide +kernel
theorem dX12_best_39 : decode cX12_best 39 = .ok (.iconst 1, 1) := by decide +kernel
theorem dX12_best_40 : decode cX12_best 40 = .ok (.if_icmp .ne 10, 3) := by decide +kernel
theorem dX12_best_43 : decode cX12_best 43 = .ok (.aload_n 0, 1) := by decide +kernel
theorem dX12_best_44 : decode cX12_best 44 = .ok (.getfield 413, 3) := by decide +kernel
theorem dX12_best_47 : decode cX12_best 47 = .ok (.goto 15, 3) := by decide +kernel
theorem dX12_best_50 : decode cX12_best 50 = .ok (.aload_n 0, 1) := by decide +kernel
theorem dX12_best_51 : decode cX12_best 51 = .ok (.getfield 419, 3) := by decide +kernel
theorem dX12_best_54 : decode cX12_best 54 = .ok (.ifCond .eq 7, 3) := by decide +kernel
theorem dX12_best_57 : decode cX12_best 57 = .ok (.lconst 1, 1) := by decide +kernel
theorem dX12_best_58 : decode cX12_best 58 = .ok (.goto 4, 3) := by decide +kernel
theorem dX12_best_61 : decode cX12_best 61 = .ok (.lconst 0, 1) := by decide +kernel
theorem dX12_best_62 : decode cX12_best 62 = .ok (.lreturn, 1) := by decide +kernel
theorem dX12_rest_0 : decode cX12_rest 0 = .ok (.aload_n 0, 1) := by decide +kernel
theorem dX12_rest_1 : decode cX12_rest 1 = .ok (.getfield 329, 3) := by decide +kernel
theorem dX12_rest_4 : decode cX12_rest 4 = .ok (.ifCond .ne 6, 3) := by decide +kernel
theorem dX12_rest_7 : decode cX12_rest 7 = .ok (.bipush (-2), 2) := by decide +kernel
theorem dX12_rest_9 : decode cX12_rest 9 = .ok (.ireturn, 1) := by decide +kernel
theorem dX12_rest_10 : decode cX12_rest 10 = .ok (.iconst 0, 1) := by decide +kernel
theorem dX12_rest_11 : decode cX12_rest 11 = .ok (.istore_n 1, 1) := by decide +kernel
theorem dX12_rest_12 : decode cX12_rest 12 = .ok (.iload_n 1, 1) := by decide +kernel
theorem dX12_rest_13 : decode cX12_rest 13 = .ok (.aload_n 0, 1) := by decide +kernel
theorem dX12_rest_14 : decode cX12_rest 14 = .ok (.getfield 329, 3) := by decide +kernel
theorem dX12_rest_17 : decode cX12_rest 17 = .ok (.if_icmp .ge 23, 3) := by decide +kernel
theorem dX12_rest_20 : decode cX12_rest 20 = .ok (.aload_n 0, 1) := by decide +kernel
theorem dX12_rest_21 : decode cX12_rest 21 = .ok (.iload_n 1, 1) := by decide +kernel
theorem dX12_rest_22 : decode cX12_rest 22 = .ok (.invokevirtual 430, 3) := by decide +kernel
theorem dX12_rest_25 : decode cX12_rest 25 = .ok (.aload_n 0, 1) := by decide +kernel
theorem dX12_rest_26 : decode cX12_rest 26 = .ok (.getfield 419, 3) := by decide +kernel
theorem dX12_rest_29 : decode cX12_rest 29 = .ok (.ifCond .eq 5, 3) := by decide +kernel
theorem dX12_rest_32 : decode cX12_rest 32 = .ok (.iload_n 1, 1) := by decide +kernel
theorem dX12_rest_33 : decode cX12_rest 33 = .ok (.ireturn, 1) := by decide +kernel
theorem dX12_rest_34 : decode cX12_rest 34 = .ok (.iinc 1 1, 3) := by decide +kernel
theorem dX12_rest_37 : decode cX12_rest 37 = .ok (.goto (-25), 3) := by decide +kernel
theorem dX12_rest_40 : decode cX12_rest 40 = .ok (.iconst (-1), 1) := by decide +kernel
theorem dX12_rest_41 : decode cX12_rest 41 = .ok (.ireturn, 1) := by decide +kernel
theorem dX12_turn_0 : decode cX12_turn 0 = .ok (.aload_n 0, 1) := by decide +kernel
theorem dX12_turn_1 : decode cX12_turn 1 = .ok (.iload_n 1, 1) := by decide +kernel
theorem dX12_turn_2 : decode cX12_turn 2 = .ok (.invokevirtual 404, 3) := by decide +kernel
theorem dX12_turn_5 : decode cX12_turn 5 = .ok (.ifCond .ne 5, 3) := by decide +kernel
theorem dX12_turn_8 : decode cX12_turn 8 = .ok (.iconst 0, 1) := by decide +kernel
theorem dX12_turn_9 : decode cX12_turn 9 = .ok (.ireturn, 1) := by decide +kernel
theorem dX12_turn_10 : decode cX12_turn 10 = .ok (.aload_n 0, 1) := by decide +kernel
theorem dX12_turn_11 : decode cX12_turn 11 = .ok (.iload_n 1, 1) := by decide +kernel
theorem dX12_turn_12 : decode cX12_turn 12 = .ok (.invokevirtual 430, 3) := by decide +kernel
theorem dX12_turn_15 : decode cX12_turn 15 = .ok (.aload_n 0, 1) := by decide +kernel
theorem dX12_turn_16 : decode cX12_turn 16 = .ok (.getfield 419, 3) := by decide +kernel
theorem dX12_turn_19 : decode cX12_turn 19 = .ok (.ifCond .ne 5, 3) := by decide +kernel
theorem dX12_turn_22 : decode cX12_turn 22 = .ok (.iconst 0, 1) := by decide +kernel
theorem dX12_turn_23 : decode cX12_turn 23 = .ok (.ireturn, 1) := by decide +kernel
theorem dX12_turn_24 : decode cX12_turn 24 = .ok (.aload_n 0, 1) := by decide +kernel
theorem dX12_turn_25 : decode cX12_turn 25 = .ok (.getfield 119, 3) := by decide +kernel
theorem dX12_turn_28 : decode cX12_turn 28 = .ok (.iload_n 1, 1) := by decide +kernel
theorem dX12_turn_29 : decode cX12_turn 29 = .ok (.iaload, 1) := by decide +kernel
theorem dX12_turn_30 : decode cX12_turn 30 = .ok (.ifCond .ne 16, 3) := by decide +kernel
theorem dX12_turn_33 : decode cX12_turn 33 = .ok (.aload_n 0, 1) := by decide +kernel
theorem dX12_turn_34 : decode cX12_turn 34 = .ok (.getfield 107, 3) := by decide +kernel
theorem dX12_turn_37 : decode cX12_turn 37 = .ok (.iload_n 1, 1) := by decide +kernel
theorem dX12_turn_38 : decode cX12_turn 38 = .ok (.aload_n 0, 1) := by decide +kernel
theorem dX12_turn_39 : decode cX12_turn 39 = .ok (.getfield 416, 3) := by decide +kernel
theorem dX12_turn_42 : decode cX12_turn 42 = .ok (.iastore, 1) := by decide +kernel
theorem dX12_turn_43 : decode cX12_turn 43 = .ok (.goto 13, 3) := by decide +kernel
theorem dX12_turn_46 : decode cX12_turn 46 = .ok (.aload_n 0, 1) := by decide +kernel
theorem dX12_turn_47 : decode cX12_turn 47 = .ok (.getfield 110, 3) := by decide +kernel
theorem dX12_turn_50 : decode cX12_turn 50 = .ok (.iload_n 1, 1) := by decide +kernel
theorem dX12_turn_51 : decode cX12_turn 51 = .ok (.aload_n 0, 1) := by decide +kernel
theorem dX12_turn_52 : decode cX12_turn 52 = .ok (.getfield 416, 3) := by decide +kernel
theorem dX12_turn_55 : decode cX12_turn 55 = .ok (.iastore, 1) := by decide +kernel
theorem dX12_turn_56 : decode cX12_turn 56 = .ok (.iconst 1, 1) := by decide +kernel
theorem dX12_turn_57 : decode cX12_turn 57 = .ok (.ireturn, 1) := by decide +kernel
theorem dX12_notes_0 : decode cX12_notes 0 = .ok (.iconst 0, 1) := by decide +kernel
theorem dX12_notes_1 : decode cX12_notes 1 = .ok (.istore_n 2, 1) := by decide +kernel
theorem dX12_notes_2 : decode cX12_notes 2 = .ok (.iload_n 2, 1) := by decide +kernel
theorem dX12_notes_3 : decode cX12_notes 3 = .ok (.iconst 4, 1) := by decide +kernel
theorem dX12_notes_4 : decode cX12_notes 4 = .ok (.if_icmp .ge 41, 3) := by decide +kernel
theorem dX12_notes_7 : decode cX12_notes 7 = .ok (.aload_n 0, 1) := by decide +kernel
theorem dX12_notes_8 : decode cX12_notes 8 = .ok (.getfield 128, 3) := by decide +kernel
theorem dX12_notes_11 : decode cX12_notes 11 = .ok (.iconst 4, 1) := by decide +kernel
theorem dX12_notes_12 : decode cX12_notes 12 = .ok (.iload_n 1, 1) := by decide +kernel
theorem dX12_notes_13 : decode cX12_notes 13 = .ok (.imul, 1) := by decide +kernel
theorem dX12_notes_14 : decode cX12_notes 14 = .ok (.iload_n 2, 1) := by decide +kernel
theorem dX12_notes_15 : decode cX12_notes 15 = .ok (.iadd, 1) := by decide +kernel
theorem dX12_notes_16 : decode cX12_notes 16 = .ok (.aload_n 0, 1) := by decide +kernel
theorem dX12_notes_17 : decode cX12_notes 17 = .ok (.getfield 107, 3) := by decide +kernel
theorem dX12_notes_20 : decode cX12_notes 20 = .ok (.iload_n 2, 1) := by decide +kernel
theorem dX12_notes_21 : decode cX12_notes 21 = .ok (.iaload, 1) := by decide +kernel
theorem dX12_notes_22 : decode cX12_notes 22 = .ok (.iastore, 1) := by decide +kernel
theorem dX12_notes_23 : decode cX12_notes 23 = .ok (.aload_n 0, 1) := by decide +kernel
theorem dX12_notes_24 : decode cX12_notes 24 = .ok (.getfield 131, 3) := by decide +kernel
theorem dX12_notes_27 : decode cX12_notes 27 = .ok (.iconst 4, 1) := by decide +kernel
theorem dX12_notes_28 : decode cX12_notes 28 = .ok (.iload_n 1, 1) := by decide +kernel
theorem dX12_notes_29 : decode cX12_notes 29 = .ok (.imul, 1) := by decide +kernel
theorem dX12_notes_30 : decode cX12_notes 30 = .ok (.iload_n 2, 1) := by decide +kernel
theorem dX12_notes_31 : decode cX12_notes 31 = .ok (.iadd, 1) := by decide +kernel
theorem dX12_notes_32 : decode cX12_notes 32 = .ok (.aload_n 0, 1) := by decide +kernel
theorem dX12_notes_33 : decode cX12_notes 33 = .ok (.getfield 110, 3) := by decide +kernel
theorem dX12_notes_36 : decode cX12_notes 36 = .ok (.iload_n 2, 1) := by decide +kernel
theorem dX12_notes_37 : decode cX12_notes 37 = .ok (.iaload, 1) := by decide +kernel
theorem dX12_notes_38 : decode cX12_notes 38 = .ok (.iastore, 1) := by decide +kernel
theorem dX12_notes_39 : decode cX12_notes 39 = .ok (.iinc 2 1, 3) := by decide +kernel
theorem dX12_notes_42 : decode cX12_notes 42 = .ok (.goto (-40), 3) := by decide +kernel
theorem dX12_notes_45 : decode cX12_notes 45 = .ok (.return_, 1) := by decide +kernel
theorem dX12_isAs_0 : decode cX12_isAs 0 = .ok (.iconst 1, 1) := by decide +kernel
theorem dX12_isAs_1 : decode cX12_isAs 1 = .ok (.istore_n 2, 1) := by decide +kernel
theorem dX12_isAs_2 : decode cX12_isAs 2 = .ok (.iconst 0, 1) := by decide +kernel
theorem dX12_isAs_3 : decode cX12_isAs 3 = .ok (.istore_n 3, 1) := by decide +kernel
theorem dX12_isAs_4 : decode cX12_isAs 4 = .ok (.iload_n 3, 1) := by decide +kernel
theorem dX12_isAs_5 : decode cX12_isAs 5 = .ok (.aload_n 0, 1) := by decide +kernel
theorem dX12_isAs_6 : decode cX12_isAs 6 = .ok (.getfield 329, 3) := by decide +kernel
theorem dX12_isAs_9 : decode cX12_isAs 9 = .ok (.if_icmp .ge 57, 3) := by decide +kernel
theorem dX12_isAs_12 : decode cX12_isAs 12 = .ok (.iload_n 2, 1) := by decide +kernel
theorem dX12_isAs_13 : decode cX12_isAs 13 = .ok (.ifCond .eq 45, 3) := by decide +kernel
theorem dX12_isAs_16 : decode cX12_isAs 16 = .ok (.aload_n 0, 1) := by decide +kernel
theorem dX12_isAs_17 : decode cX12_isAs 17 = .ok (.getfield 128, 3) := by decide +kernel
theorem dX12_isAs_20 : decode cX12_isAs 20 = .ok (.iconst 4, 1) := by decide +kernel
theorem dX12_isAs_21 : decode cX12_isAs 21 = .ok (.iload_n 1, 1) := by decide +kernel
theorem dX12_isAs_22 : decode cX12_isAs 22 = .ok (.imul, 1) := by decide +kernel
theorem dX12_isAs_23 : decode cX12_isAs 23 = .ok (.iload_n 3, 1) := by decide +kernel
theorem dX12_isAs_24 : decode cX12_isAs 24 = .ok (.iadd, 1) := by decide +kernel
theorem dX12_isAs_25 : decode cX12_isAs 25 = .ok (.iaload, 1) := by decide +kernel
theorem dX12_isAs_26 : decode cX12_isAs 26 = .ok (.aload_n 0, 1) := by decide +kernel
theorem dX12_isAs_27 : decode cX12_isAs 27 = .ok (.getfield 107, 3) := by decide +kernel
theorem dX12_isAs_30 : decode cX12_isAs 30 = .ok (.iload_n 3, 1) := by decide +kernel
theorem dX12_isAs_31 : decode cX12_isAs 31 = .ok (.iaload, 1) := by decide +kernel
theorem dX12_isAs_32 : decode cX12_isAs 32 = .ok (.if_icmp .ne 26, 3) := by decide +kernel
theorem dX12_isAs_35 : decode cX12_isAs 35 = .ok (.aload_n 0, 1) := by decide +kernel
theorem dX12_isAs_36 : decode cX12_isAs 36 = .ok (.getfield 131, 3) := by decide +kernel
theorem dX12_isAs_39 : decode cX12_isAs 39 = .ok (.iconst 4, 1) := by decide +kernel
theorem dX12_isAs_40 : decode cX12_isAs 40 = .ok (.iload_n 1, 1) := by decide +kernel
theorem dX12_isAs_41 : decode cX12_isAs 41 = .ok (.imul, 1) := by decide +kernel
theorem dX12_isAs_42 : decode cX12_isAs 42 = .ok (.iload_n 3, 1) := by decide +kernel
theorem dX12_isAs_43 : decode cX12_isAs 43 = .ok (.iadd, 1) := by decide +kernel
theorem dX12_isAs_44 : decode cX12_isAs 44 = .ok (.iaload, 1) := by decide +kernel
theorem dX12_isAs_45 : decode cX12_isAs 45 = .ok (.aload_n 0, 1) := by decide +kernel
theorem dX12_isAs_46 : decode cX12_isAs 46 = .ok (.getfield 110, 3) := by decide +kernel
theorem dX12_isAs_49 : decode cX12_isAs 49 = .ok (.iload_n 3, 1) := by decide +kernel
theorem dX12_isAs_50 : decode cX12_isAs 50 = .ok (.iaload, 1) := by decide +kernel
theorem dX12_isAs_51 : decode cX12_isAs 51 = .ok (.if_icmp .ne 7, 3) := by decide +kernel
theorem dX12_isAs_54 : decode cX12_isAs 54 = .ok (.iconst 1, 1) := by decide +kernel
theorem dX12_isAs_55 : decode cX12_isAs 55 = .ok (.goto 4, 3) := by decide +kernel
theorem dX12_isAs_58 : decode cX12_isAs 58 = .ok (.iconst 0, 1) := by decide +kernel
theorem dX12_isAs_59 : decode cX12_isAs 59 = .ok (.istore_n 2, 1) := by decide +kernel
theorem dX12_isAs_60 : decode cX12_isAs 60 = .ok (.iinc 3 1, 3) := by decide +kernel
theorem dX12_isAs_63 : decode cX12_isAs 63 = .ok (.goto (-59), 3) := by decide +kernel
theorem dX12_isAs_66 : decode cX12_isAs 66 = .ok (.iload_n 2, 1) := by decide +kernel
theorem dX12_isAs_67 : decode cX12_isAs 67 = .ok (.ireturn, 1) := by decide +kernel
theorem dX12_chase_0 : decode cX12_chase 0 = .ok (.iload_n 1, 1) := by decide +kernel
theorem dX12_chase_1 : decode cX12_chase 1 = .ok (.iconst 1, 1) := by decide +kernel
theorem dX12_chase_2 : decode cX12_chase 2 = .ok (.bipush 60, 2) := by decide +kernel
theorem dX12_chase_4 : decode cX12_chase 4 = .ok (.invokestatic 216, 3) := by decide +kernel
theorem dX12_chase_7 : decode cX12_chase 7 = .ok (.ifCond .eq 51, 3) := by decide +kernel
theorem dX12_chase_10 : decode cX12_chase 10 = .ok (.aload_n 0, 1) := by decide +kernel
theorem dX12_chase_11 : decode cX12_chase 11 = .ok (.getfield 329, 3) := by decide +kernel
theorem dX12_chase_14 : decode cX12_chase 14 = .ok (.ifCond .eq 44, 3) := by decide +kernel
theorem dX12_chase_17 : decode cX12_chase 17 = .ok (.iload_n 2, 1) := by decide +kernel
theorem dX12_chase_18 : decode cX12_chase 18 = .ok (.iconst 0, 1) := by decide +kernel
theorem dX12_chase_19 : decode cX12_chase 19 = .ok (.iconst 2, 1) := by decide +kernel
theorem dX12_chase_20 : decode cX12_chase 20 = .ok (.invokestatic 216, 3) := by decide +kernel
theorem dX12_chase_23 : decode cX12_chase 23 = .ok (.ifCond .ne 37, 3) := by decide +kernel
theorem dX12_chase_26 : decode cX12_chase 26 = .ok (.iload_n 2, 1) := by decide +kernel
theorem dX12_chase_27 : decode cX12_chase 27 = .ok (.bipush 10, 2) := by decide +kernel
theorem dX12_chase_29 : decode cX12_chase 29 = .ok (.bipush 9, 2) := by decide +kernel
theorem dX12_chase_31 : decode cX12_chase 31 = .ok (.aload_n 0, 1) := by decide +kernel
theorem dX12_chase_32 : decode cX12_chase 32 = .ok (.getfield 329, 3) := by decide +kernel
theorem dX12_chase_35 : decode cX12_chase 35 = .ok (.iadd, 1) := by decide +kernel
theorem dX12_chase_36 : decode cX12_chase 36 = .ok (.invokestatic 216, 3) := by decide +kernel
theorem dX12_chase_39 : decode cX12_chase 39 = .ok (.ifCond .ne 21, 3) := by decide +kernel
theorem dX12_chase_42 : decode cX12_chase 42 = .ok (.iload_n 2, 1) := by decide +kernel
theorem dX12_chase_43 : decode cX12_chase 43 = .ok (.bipush 20, 2) := by decide +kernel
theorem dX12_chase_45 : decode cX12_chase 45 = .ok (.bipush 19, 2) := by decide +kernel
theorem dX12_chase_47 : decode cX12_chase 47 = .ok (.aload_n 0, 1) := by decide +kernel
theorem dX12_chase_48 : decode cX12_chase 48 = .ok (.getfield 329, 3) := by decide +kernel
theorem dX12_chase_51 : decode cX12_chase 51 = .ok (.iadd, 1) := by decide +kernel
theorem dX12_chase_52 : decode cX12_chase 52 = .ok (.invokestatic 216, 3) := by decide +kernel
theorem dX12_chase_55 : decode cX12_chase 55 = .ok (.ifCond .ne 5, 3) := by decide +kernel
theorem dX12_chase_58 : decode cX12_chase 58 = .ok (.iconst (-1), 1) := by decide +kernel
theorem dX12_chase_59 : decode cX12_chase 59 = .ok (.ireturn, 1) := by decide +kernel
theorem dX12_chase_60 : decode cX12_chase 60 = .ok (.aload_n 0, 1) := by decide +kernel
theorem dX12_chase_61 : decode cX12_chase 61 = .ok (.iconst 0, 1) := by decide +kernel
theorem dX12_chase_62 : decode cX12_chase 62 = .ok (.invokevirtual 433, 3) := by decide +kernel
theorem dX12_chase_65 : decode cX12_chase 65 = .ok (.iconst 2, 1) := by decide +kernel
theorem dX12_chase_66 : decode cX12_chase 66 = .ok (.istore_n 3, 1) := by decide +kernel
theorem dX12_chase_67 : decode cX12_chase 67 = .ok (.iconst 0, 1) := by decide +kernel
theorem dX12_chase_68 : decode cX12_chase 68 = .ok (.istore 4, 2) := by decide +kernel
theorem dX12_chase_70 : decode cX12_chase 70 = .ok (.iconst 0, 1) := by decide +kernel
theorem dX12_chase_71 : decode cX12_chase 71 = .ok (.istore 5, 2) := by decide +kernel
theorem dX12_chase_73 : decode cX12_chase 73 = .ok (.iload 4, 2) := by decide +kernel
theorem dX12_chase_75 : decode cX12_chase 75 = .ok (.iload_n 1, 1) := by decide +kernel
theorem dX12_chase_76 : decode cX12_chase 76 = .ok (.if_icmp .ge 111, 3) := by decide +kernel
theorem dX12_chase_79 : decode cX12_chase 79 = .ok (.iload_n 3, 1) := by decide +kernel
theorem dX12_chase_80 : decode cX12_chase 80 = .ok (.iconst 2, 1) := by decide +kernel
theorem dX12_chase_81 : decode cX12_chase 81 = .ok (.if_icmp .ne 106, 3) := by decide +kernel
theorem dX12_chase_84 : decode cX12_chase 84 = .ok (.iconst 0, 1) := by decide +kernel
theorem dX12_chase_85 : decode cX12_chase 85 = .ok (.istore 6, 2) := by decide +kernel
theorem dX12_chase_87 : decode cX12_chase 87 = .ok (.iconst 0, 1) := by decide +kernel
theorem dX12_chase_88 : decode cX12_chase 88 = .ok (.istore 7, 2) := by decide +kernel
theorem dX12_chase_90 : decode cX12_chase 90 = .ok (.iload 7, 2) := by decide +kernel
theorem dX12_chase_92 : decode cX12_chase 92 = .ok (.aload_n 0, 1) := by decide +kernel
theorem dX12_chase_93 : decode cX12_chase 93 = .ok (.getfield 329, 3) := by decide +kernel
theorem dX12_chase_96 : decode cX12_chase 96 = .ok (.if_icmp .ge 30, 3) := by decide +kernel
theorem dX12_chase_99 : decode cX12_chase 99 = .ok (.aload_n 0, 1) := by decide +kernel
theorem dX12_chase_100 : decode cX12_chase 100 = .ok (.iload 7, 2) := by decide +kernel
theorem dX12_chase_102 : decode cX12_chase 102 = .ok (.invokevirtual 436, 3) := by decide +kernel
theorem dX12_chase_105 : decode cX12_chase 105 = .ok (.ifCond .ne 8, 3) := by decide +kernel
theorem dX12_chase_108 : decode cX12_chase 108 = .ok (.iload 6, 2) := by decide +kernel
theorem dX12_chase_110 : decode cX12_chase 110 = .ok (.ifCond .eq 7, 3) := by decide +kernel
theorem dX12_chase_113 : decode cX12_chase 113 = .ok (.iconst 1, 1) := by decide +kernel
theorem dX12_chase_114 : decode cX12_chase 114 = .ok (.goto 4, 3) := by decide +kernel
theorem dX12_chase_117 : decode cX12_chase 117 = .ok (.iconst 0, 1) := by decide +kernel
theorem dX12_chase_118 : decode cX12_chase 118 = .ok (.istore 6, 2) := by decide +kernel
theorem dX12_chase_120 : decode cX12_chase 120 = .ok (.iinc 7 1, 3) := by decide +kernel
theorem dX12_chase_123 : decode cX12_chase 123 = .ok (.goto (-33), 3) := by decide +kernel
theorem dX12_chase_126 : decode cX12_chase 126 = .ok (.iinc 4 1, 3) := by decide +kernel
theorem dX12_chase_129 : decode cX12_chase 129 = .ok (.iload 6, 2) := by decide +kernel
theorem dX12_chase_131 : decode cX12_chase 131 = .ok (.ifCond .ne 5, 3) := by decide +kernel
theorem dX12_chase_134 : decode cX12_chase 134 = .ok (.iconst 0, 1) := by decide +kernel
theorem dX12_chase_135 : decode cX12_chase 135 = .ok (.istore_n 3, 1) := by decide +kernel
theorem dX12_chase_136 : decode cX12_chase 136 = .ok (.iconst 0, 1) := by decide +kernel
theorem dX12_chase_137 : decode cX12_chase 137 = .ok (.istore 7, 2) := by decide +kernel
theorem dX12_chase_139 : decode cX12_chase 139 = .ok (.iload 7, 2) := by decide +kernel
theorem dX12_chase_141 : decode cX12_chase 141 = .ok (.iload 4, 2) := by decide +kernel
theorem dX12_chase_143 : decode cX12_chase 143 = .ok (.if_icmp .ge 35, 3) := by decide +kernel
theorem dX12_chase_146 : decode cX12_chase 146 = .ok (.iload 6, 2) := by decide +kernel
theorem dX12_chase_148 : decode cX12_chase 148 = .ok (.ifCond .eq 30, 3) := by decide +kernel
theorem dX12_chase_151 : decode cX12_chase 151 = .ok (.aload_n 0, 1) := by decide +kernel
theorem dX12_chase_152 : decode cX12_chase 152 = .ok (.iload 7, 2) := by decide +kernel
theorem dX12_chase_154 : decode cX12_chase 154 = .ok (.invokevirtual 439, 3) := by decide +kernel
theorem dX12_chase_157 : decode cX12_chase 157 = .ok (.ifCond .ne 6, 3) := by decide +kernel
theorem dX12_chase_160 : decode cX12_chase 160 = .ok (.goto 12, 3) := by decide +kernel
theorem dX12_chase_163 : decode cX12_chase 163 = .ok (.iconst 1, 1) := by decide +kernel
theorem dX12_chase_164 : decode cX12_chase 164 = .ok (.istore_n 3, 1) := by decide +kernel
theorem dX12_chase_165 : decode cX12_chase 165 = .ok (.iload 4, 2) := by decide +kernel
theorem dX12_chase_167 : decode cX12_chase 167 = .ok (.iload 7, 2) := by decide +kernel
theorem dX12_chase_169 : decode cX12_chase 169 = .ok (.isub, 1) := by decide +kernel
theorem dX12_chase_170 : decode cX12_chase 170 = .ok (.istore 5, 2) := by decide +kernel
theorem dX12_chase_172 : decode cX12_chase 172 = .ok (.iinc 7 1, 3) := by decide +kernel
theorem dX12_chase_175 : decode cX12_chase 175 = .ok (.goto (-36), 3) := by decide +kernel
theorem dX12_chase_178 : decode cX12_chase 178 = .ok (.aload_n 0, 1) := by decide +kernel
theorem dX12_chase_179 : decode cX12_chase 179 = .ok (.iload 4, 2) := by decide +kernel
theorem dX12_chase_181 : decode cX12_chase 181 = .ok (.invokevirtual 433, 3) := by decide +kernel
theorem dX12_chase_184 : decode cX12_chase 184 = .ok (.goto (-111), 3) := by decide +kernel
theorem dX12_chase_187 : decode cX12_chase 187 = .ok (.iload_n 2, 1) := by decide +kernel
theorem dX12_chase_188 : decode cX12_chase 188 = .ok (.ifCond .ne 7, 3) := by decide +kernel
theorem dX12_chase_191 : decode cX12_chase 191 = .ok (.iload_n 3, 1) := by decide +kernel
theorem dX12_chase_192 : decode cX12_chase 192 = .ok (.goto 49, 3) := by decide +kernel
theorem dX12_chase_195 : decode cX12_chase 195 = .ok (.iload_n 2, 1) := by decide +kernel
theorem dX12_chase_196 : decode cX12_chase 196 = .ok (.iconst 1, 1) := by decide +kernel
theorem dX12_chase_197 : decode cX12_chase 197 = .ok (.if_icmp .ne 8, 3) := by decide +kernel
theorem dX12_chase_200 : decode cX12_chase 200 = .ok (.iload 4, 2) := by decide +kernel
theorem dX12_chase_202 : decode cX12_chase 202 = .ok (.goto 39, 3) := by decide +kernel
theorem dX12_chase_205 : decode cX12_chase 205 = .ok (.iload_n 2, 1) := by decide +kernel
theorem dX12_chase_206 : decode cX12_chase 206 = .ok (.iconst 2, 1) := by decide +kernel
theorem dX12_chase_207 : decode cX12_chase 207 = .ok (.if_icmp .ne 8, 3) := by decide +kernel
theorem dX12_chase_210 : decode cX12_chase 210 = .ok (.iload 5, 2) := by decide +kernel
theorem dX12_chase_212 : decode cX12_chase 212 = .ok (.goto 29, 3) := by decide +kernel
theorem dX12_chase_215 : decode cX12_chase 215 = .ok (.iload_n 2, 1) := by decide +kernel
theorem dX12_chase_216 : decode cX12_chase 216 = .ok (.bipush 20, 2) := by decide +kernel
theorem dX12_chase_218 : decode cX12_chase 218 = .ok (.if_icmp .ge 15, 3) := by decide +kernel
theorem dX12_chase_221 : decode cX12_chase 221 = .ok (.aload_n 0, 1) := by decide +kernel
theorem dX12_chase_222 : decode cX12_chase 222 = .ok (.getfield 107, 3) := by decide +kernel
theorem dX12_chase_225 : decode cX12_chase 225 = .ok (.iload_n 2, 1) := by decide +kernel
theorem dX12_chase_226 : decode cX12_chase 226 = .ok (.bipush 10, 2) := by decide +kernel
theorem dX12_chase_228 : decode cX12_chase 228 = .ok (.isub, 1) := by decide +kernel
theorem dX12_chase_229 : decode cX12_chase 229 = .ok (.iaload, 1) := by decide +kernel
theorem dX12_chase_230 : decode cX12_chase 230 = .ok (.goto 11, 3) := by decide +kernel
theorem dX12_chase_233 : decode cX12_chase 233 = .ok (.aload_n 0, 1) := by decide +kernel
theorem dX12_chase_234 : decode cX12_chase 234 = .ok (.iload_n 2, 1) := by decide +kernel
theorem dX12_chase_235 : decode cX12_chase 235 = .ok (.bipush 20, 2) := by decide +kernel
theorem dX12_chase_237 : decode cX12_chase 237 = .ok (.isub, 1) := by decide +kernel
theorem dX12_chase_238 : decode cX12_chase 238 = .ok (.invokevirtual 380, 3) := by decide +kernel
theorem dX12_chase_241 : decode cX12_chase 241 = .ok (.istore 6, 2) := by decide +kernel
theorem dX12_chase_243 : decode cX12_chase 243 = .ok (.iconst 0, 1) := by decide +kernel
theorem dX12_chase_244 : decode cX12_chase 244 = .ok (.istore 7, 2) := by decide +kernel
theorem dX12_chase_246 : decode cX12_chase 246 = .ok (.iload 7, 2) := by decide +kernel
theorem dX12_chase_248 : decode cX12_chase 248 = .ok (.aload_n 0, 1) := by decide +kernel
theorem dX12_chase_249 : decode cX12_chase 249 = .ok (.getfield 329, 3) := by decide +kernel
theorem dX12_chase_252 : decode cX12_chase 252 = .ok (.if_icmp .ge 37, 3) := by decide +kernel
theorem dX12_chase_255 : decode cX12_chase 255 = .ok (.aload_n 0, 1) := by decide +kernel
theorem dX12_chase_256 : decode cX12_chase 256 = .ok (.getfield 107, 3) := by decide +kernel
theorem dX12_chase_259 : decode cX12_chase 259 = .ok (.iload 7, 2) := by decide +kernel
theorem dX12_chase_261 : decode cX12_chase 261 = .ok (.aload_n 0, 1) := by decide +kernel
theorem dX12_chase_262 : decode cX12_chase 262 = .ok (.getfield 128, 3) := by decide +kernel
theorem dX12_chase_265 : decode cX12_chase 265 = .ok (.iload 7, 2) := by decide +kernel
theorem dX12_chase_267 : decode cX12_chase 267 = .ok (.iaload, 1) := by decide +kernel
theorem dX12_chase_268 : decode cX12_chase 268 = .ok (.iastore, 1) := by decide +kernel
theorem dX12_chase_269 : decode cX12_chase 269 = .ok (.aload_n 0, 1) := by decide +kernel
theorem dX12_chase_270 : decode cX12_chase 270 = .ok (.getfield 110, 3) := by decide +kernel
theorem dX12_chase_273 : decode cX12_chase 273 = .ok (.iload 7, 2) := by decide +kernel
theorem dX12_chase_275 : decode cX12_chase 275 = .ok (.aload_n 0, 1) := by decide +kernel
theorem dX12_chase_276 : decode cX12_chase 276 = .ok (.getfield 131, 3) := by decide +kernel
theorem dX12_chase_279 : decode cX12_chase 279 = .ok (.iload 7, 2) := by decide +kernel
theorem dX12_chase_281 : decode cX12_chase 281 = .ok (.iaload, 1) := by decide +kernel
theorem dX12_chase_282 : decode cX12_chase 282 = .ok (.iastore, 1) := by decide +kernel
theorem dX12_chase_283 : decode cX12_chase 283 = .ok (.iinc 7 1, 3) := by decide +kernel
theorem dX12_chase_286 : decode cX12_chase 286 = .ok (.goto (-40), 3) := by decide +kernel
theorem dX12_chase_289 : decode cX12_chase 289 = .ok (.iload 6, 2) := by decide +kernel
theorem dX12_chase_291 : decode cX12_chase 291 = .ok (.ireturn, 1) := by decide +kernel
theorem dX12_isApart_0 : decode cX12_isApart 0 = .ok (.aload_n 0, 1) := by decide +kernel
theorem dX12_isApart_1 : decode cX12_isApart 1 = .ok (.aload_n 0, 1) := by decide +kernel
theorem dX12_isApart_2 : decode cX12_isApart 2 = .ok (.getfield 107, 3) := by decide +kernel
theorem dX12_isApart_5 : decode cX12_isApart 5 = .ok (.iload_n 1, 1) := by decide +kernel
theorem dX12_isApart_6 : decode cX12_isApart 6 = .ok (.iaload, 1) := by decide +kernel
theorem dX12_isApart_7 : decode cX12_isApart 7 = .ok (.aload_n 0, 1) := by decide +kernel
theorem dX12_isApart_8 : decode cX12_isApart 8 = .ok (.getfield 107, 3) := by decide +kernel
theorem dX12_isApart_11 : decode cX12_isApart 11 = .ok (.iload_n 2, 1) := by decide +kernel
theorem dX12_isApart_12 : decode cX12_isApart 12 = .ok (.iaload, 1) := by decide +kernel
theorem dX12_isApart_13 : decode cX12_isApart 13 = .ok (.invokevirtual 374, 3) := by decide +kernel
theorem dX12_isApart_16 : decode cX12_isApart 16 = .ok (.aload_n 0, 1) := by decide +kernel
theorem dX12_isApart_17 : decode cX12_isApart 17 = .ok (.getfield 348, 3) := by decide +kernel
theorem dX12_isApart_20 : decode cX12_isApart 20 = .ok (.if_icmp .lt 7, 3) := by decide +kernel
theorem dX12_isApart_23 : decode cX12_isApart 23 = .ok (.iconst 1, 1) := by decide +kernel
theorem dX12_isApart_24 : decode cX12_isApart 24 = .ok (.goto 4, 3) := by decide +kernel
theorem dX12_isApart_27 : decode cX12_isApart 27 = .ok (.iconst 0, 1) := by decide +kernel
theorem dX12_isApart_28 : decode cX12_isApart 28 = .ok (.ireturn, 1) := by decide +kernel
theorem dX12_isRowLet_0 : decode cX12_isRowLet 0 = .ok (.aload_n 0, 1) := by decide +kernel
theorem dX12_isRowLet_1 : decode cX12_isRowLet 1 = .ok (.iload_n 1, 1) := by decide +kernel
theorem dX12_isRowLet_2 : decode cX12_isRowLet 2 = .ok (.iload_n 2, 1) := by decide +kernel
theorem dX12_isRowLet_3 : decode cX12_isRowLet 3 = .ok (.invokevirtual 442, 3) := by decide +kernel
theorem dX12_isRowLet_6 : decode cX12_isRowLet 6 = .ok (.ifCond .eq 29, 3) := by decide +kernel
theorem dX12_isRowLet_9 : decode cX12_isRowLet 9 = .ok (.iload_n 3, 1) := by decide +kernel
theorem dX12_isRowLet_10 : decode cX12_isRowLet 10 = .ok (.ifCond .lt 21, 3) := by decide +kernel
theorem dX12_isRowLet_13 : decode cX12_isRowLet 13 = .ok (.aload_n 0, 1) := by decide +kernel
theorem dX12_isRowLet_14 : decode cX12_isRowLet 14 = .ok (.iload_n 1, 1) := by decide +kernel
theorem dX12_isRowLet_15 : decode cX12_isRowLet 15 = .ok (.iload_n 3, 1) := by decide +kernel
theorem dX12_isRowLet_16 : decode cX12_isRowLet 16 = .ok (.invokevirtual 442, 3) := by decide +kernel
theorem dX12_isRowLet_19 : decode cX12_isRowLet 19 = .ok (.ifCond .eq 16, 3) := by decide +kernel
theorem dX12_isRowLet_22 : decode cX12_isRowLet 22 = .ok (.aload_n 0, 1) := by decide +kernel
theorem dX12_isRowLet_23 : decode cX12_isRowLet 23 = .ok (.iload_n 2, 1) := by decide +kernel
theorem dX12_isRowLet_24 : decode cX12_isRowLet 24 = .ok (.iload_n 3, 1) := by decide +kernel
theorem dX12_isRowLet_25 : decode cX12_isRowLet 25 = .ok (.invokevirtual 442, 3) := by decide +kernel
theorem dX12_isRowLet_28 : decode cX12_isRowLet 28 = .ok (.ifCond .eq 7, 3) := by decide +kernel
theorem dX12_isRowLet_31 : decode cX12_isRowLet 31 = .ok (.iconst 1, 1) := by decide +kernel
theorem dX12_isRowLet_32 : decode cX12_isRowLet 32 = .ok (.goto 4, 3) := by decide +kernel
theorem dX12_isRowLet_35 : decode cX12_isRowLet 35 = .ok (.iconst 0, 1) := by decide +kernel
theorem dX12_isRowLet_36 : decode cX12_isRowLet 36 = .ok (.istore 4, 2) := by decide +kernel
theorem dX12_isRowLet_38 : decode cX12_isRowLet 38 = .ok (.iconst 0, 1) := by decide +kernel
theorem dX12_isRowLet_39 : decode cX12_isRowLet 39 = .ok (.istore 5, 2) := by decide +kernel
theorem dX12_isRowLet_41 : decode cX12_isRowLet 41 = .ok (.iload 5, 2) := by decide +kernel
theorem dX12_isRowLet_43 : decode cX12_isRowLet 43 = .ok (.aload_n 0, 1) := by decide +kernel
theorem dX12_isRowLet_44 : decode cX12_isRowLet 44 = .ok (.getfield 329, 3) := by decide +kernel
theorem dX12_isRowLet_47 : decode cX12_isRowLet 47 = .ok (.if_icmp .ge 76, 3) := by decide +kernel
theorem dX12_isRowLet_50 : decode cX12_isRowLet 50 = .ok (.iload 5, 2) := by decide +kernel
theorem dX12_isRowLet_52 : decode cX12_isRowLet 52 = .ok (.iload_n 1, 1) := by decide +kernel
theorem dX12_isRowLet_53 : decode cX12_isRowLet 53 = .ok (.if_icmp .eq 64, 3) := by decide +kernel
theorem dX12_isRowLet_56 : decode cX12_isRowLet 56 = .ok (.iload 5, 2) := by decide +kernel
theorem dX12_isRowLet_58 : decode cX12_isRowLet 58 = .ok (.iload_n 2, 1) := by decide +kernel
theorem dX12_isRowLet_59 : decode cX12_isRowLet 59 = .ok (.if_icmp .eq 58, 3) := by decide +kernel
theorem dX12_isRowLet_62 : decode cX12_isRowLet 62 = .ok (.iload 5, 2) := by decide +kernel
theorem dX12_isRowLet_64 : decode cX12_isRowLet 64 = .ok (.iload_n 3, 1) := by decide +kernel
theorem dX12_isRowLet_65 : decode cX12_isRowLet 65 = .ok (.if_icmp .ne 6, 3) := by decide +kernel
theorem dX12_isRowLet_68 : decode cX12_isRowLet 68 = .ok (.goto 49, 3) := by decide +kernel
theorem dX12_isRowLet_71 : decode cX12_isRowLet 71 = .ok (.iload 4, 2) := by decide +kernel
theorem dX12_isRowLet_73 : decode cX12_isRowLet 73 = .ok (.ifCond .eq 41, 3) := by decide +kernel
theorem dX12_isRowLet_76 : decode cX12_isRowLet 76 = .ok (.aload_n 0, 1) := by decide +kernel
theorem dX12_isRowLet_77 : decode cX12_isRowLet 77 = .ok (.iload_n 1, 1) := by decide +kernel
theorem dX12_isRowLet_78 : decode cX12_isRowLet 78 = .ok (.iload 5, 2) := by decide +kernel
theorem dX12_isRowLet_80 : decode cX12_isRowLet 80 = .ok (.invokevirtual 442, 3) := by decide +kernel
theorem dX12_isRowLet_83 : decode cX12_isRowLet 83 = .ok (.ifCond .eq 31, 3) := by decide +kernel
theorem dX12_isRowLet_86 : decode cX12_isRowLet 86 = .ok (.aload_n 0, 1) := by decide +kernel
theorem dX12_isRowLet_87 : decode cX12_isRowLet 87 = .ok (.iload_n 2, 1) := by decide +kernel
theorem dX12_isRowLet_88 : decode cX12_isRowLet 88 = .ok (.iload 5, 2) := by decide +kernel
theorem dX12_isRowLet_90 : decode cX12_isRowLet 90 = .ok (.invokevirtual 442, 3) := by decide +kernel
theorem dX12_isRowLet_93 : decode cX12_isRowLet 93 = .ok (.ifCond .eq 21, 3) := by decide +kernel
theorem dX12_isRowLet_96 : decode cX12_isRowLet 96 = .ok (.iload_n 3, 1) := by decide +kernel
theorem dX12_isRowLet_97 : decode cX12_isRowLet 97 = .ok (.ifCond .lt 13, 3) := by decide +kernel
theorem dX12_isRowLet_100 : decode cX12_isRowLet 100 = .ok (.aload_n 0, 1) := by decide +kernel
theorem dX12_isRowLet_101 : decode cX12_isRowLet 101 = .ok (.iload_n 3, 1) := by decide +kernel
theorem dX12_isRowLet_102 : decode cX12_isRowLet 102 = .ok (.iload 5, 2) := by decide +kernel
theorem dX12_isRowLet_104 : decode cX12_isRowLet 104 = .ok (.invokevirtual 442, 3) := by decide +kernel
theorem dX12_isRowLet_107 : decode cX12_isRowLet 107 = .ok (.ifCond .eq 7, 3) := by decide +kernel
theorem dX12_isRowLet_110 : decode cX12_isRowLet 110 = .ok (.iconst 1, 1) := by decide +kernel
theorem dX12_isRowLet_111 : decode cX12_isRowLet 111 = .ok (.goto 4, 3) := by decide +kernel
theorem dX12_isRowLet_114 : decode cX12_isRowLet 114 = .ok (.iconst 0, 1) := by decide +kernel
theorem dX12_isRowLet_115 : decode cX12_isRowLet 115 = .ok (.istore 4, 2) := by decide +kernel
theorem dX12_isRowLet_117 : decode cX12_isRowLet 117 = .ok (.iinc 5 1, 3) := by decide +kernel
theorem dX12_isRowLet_120 : decode cX12_isRowLet 120 = .ok (.goto (-79), 3) := by decide +kernel
theorem dX12_isRowLet_123 : decode cX12_isRowLet 123 = .ok (.iload 4, 2) := by decide +kernel
theorem dX12_isRowLet_125 : decode cX12_isRowLet 125 = .ok (.ireturn, 1) := by decide +kernel
theorem dX12_rowOf_0 : decode cX12_rowOf 0 = .ok (.sipush 144, 3) := by decide +kernel
theorem dX12_rowOf_3 : decode cX12_rowOf 3 = .ok (.iload_n 2, 1) := by decide +kernel
theorem dX12_rowOf_4 : decode cX12_rowOf 4 = .ok (.imul, 1) := by decide +kernel
theorem dX12_rowOf_5 : decode cX12_rowOf 5 = .ok (.bipush 12, 2) := by decide +kernel
theorem dX12_rowOf_7 : decode cX12_rowOf 7 = .ok (.iload_n 0, 1) := by decide +kernel
theorem dX12_rowOf_8 : decode cX12_rowOf 8 = .ok (.imul, 1) := by decide +kernel
theorem dX12_rowOf_9 : decode cX12_rowOf 9 = .ok (.iadd, 1) := by decide +kernel
theorem dX12_rowOf_10 : decode cX12_rowOf 10 = .ok (.iload_n 1, 1) := by decide +kernel
theorem dX12_rowOf_11 : decode cX12_rowOf 11 = .ok (.iadd, 1) := by decide +kernel
theorem dX12_rowOf_12 : decode cX12_rowOf 12 = .ok (.ireturn, 1) := by decide +kernel
theorem dX12_plays_0 : decode cX12_plays 0 = .ok (.aload_n 0, 1) := by decide +kernel
theorem dX12_plays_1 : decode cX12_plays 1 = .ok (.aload_n 0, 1) := by decide +kernel
theorem dX12_plays_2 : decode cX12_plays 2 = .ok (.getfield 107, 3) := by decide +kernel
theorem dX12_plays_5 : decode cX12_plays 5 = .ok (.iload_n 1, 1) := by decide +kernel
theorem dX12_plays_6 : decode cX12_plays 6 = .ok (.iaload, 1) := by decide +kernel
theorem dX12_plays_7 : decode cX12_plays 7 = .ok (.putfield 445, 3) := by decide +kernel
theorem dX12_plays_10 : decode cX12_plays 10 = .ok (.aload_n 0, 1) := by decide +kernel
theorem dX12_plays_11 : decode cX12_plays 11 = .ok (.aload_n 0, 1) := by decide +kernel
theorem dX12_plays_12 : decode cX12_plays 12 = .ok (.getfield 107, 3) := by decide +kernel
theorem dX12_plays_15 : decode cX12_plays 15 = .ok (.iload_n 2, 1) := by decide +kernel
theorem dX12_plays_16 : decode cX12_plays 16 = .ok (.iaload, 1) := by decide +kernel
theorem dX12_plays_17 : decode cX12_plays 17 = .ok (.putfield 448, 3) := by decide +kernel
theorem dX12_plays_20 : decode cX12_plays 20 = .ok (.aload_n 0, 1) := by decide +kernel
theorem dX12_plays_21 : decode cX12_plays 21 = .ok (.iload_n 3, 1) := by decide +kernel
theorem dX12_plays_22 : decode cX12_plays 22 = .ok (.ifCond .ge 7, 3) := by decide +kernel
theorem dX12_plays_25 : decode cX12_plays 25 = .ok (.iconst 0, 1) := by decide +kernel
theorem dX12_plays_26 : decode cX12_plays 26 = .ok (.goto 9, 3) := by decide +kernel
theorem dX12_plays_29 : decode cX12_plays 29 = .ok (.aload_n 0, 1) := by decide +kernel
theorem dX12_plays_30 : decode cX12_plays 30 = .ok (.getfield 107, 3) := by decide +kernel
theorem dX12_plays_33 : decode cX12_plays 33 = .ok (.iload_n 3, 1) := by decide +kernel
theorem dX12_plays_34 : decode cX12_plays 34 = .ok (.iaload, 1) := by decide +kernel
theorem dX12_plays_35 : decode cX12_plays 35 = .ok (.putfield 451, 3) := by decide +kernel
theorem dX12_plays_38 : decode cX12_plays 38 = .ok (.iconst 0, 1) := by decide +kernel
theorem dX12_plays_39 : decode cX12_plays 39 = .ok (.istore 4, 2) := by decide +kernel
theorem dX12_plays_41 : decode cX12_plays 41 = .ok (.iload 4, 2) := by decide +kernel
theorem dX12_plays_43 : decode cX12_plays 43 = .ok (.aload_n 0, 1) := by decide +kernel
theorem dX12_plays_44 : decode cX12_plays 44 = .ok (.getfield 272, 3) := by decide +kernel
theorem dX12_plays_47 : decode cX12_plays 47 = .ok (.if_icmp .ge 167, 3) := by decide +kernel
theorem dX12_plays_50 : decode cX12_plays 50 = .ok (.iconst 0, 1) := by decide +kernel
theorem dX12_plays_51 : decode cX12_plays 51 = .ok (.istore 5, 2) := by decide +kernel
theorem dX12_plays_53 : decode cX12_plays 53 = .ok (.iload 5, 2) := by decide +kernel
theorem dX12_plays_55 : decode cX12_plays 55 = .ok (.aload_n 0, 1) := by decide +kernel
theorem dX12_plays_56 : decode cX12_plays 56 = .ok (.getfield 272, 3) := by decide +kernel
theorem dX12_plays_59 : decode cX12_plays 59 = .ok (.if_icmp .ge 149, 3) := by decide +kernel
theorem dX12_plays_62 : decode cX12_plays 62 = .ok (.iconst 0, 1) := by decide +kernel
theorem dX12_plays_63 : decode cX12_plays 63 = .ok (.istore 6, 2) := by decide +kernel
theorem dX12_plays_65 : decode cX12_plays 65 = .ok (.iload 6, 2) := by decide +kernel
theorem dX12_plays_67 : decode cX12_plays 67 = .ok (.iload_n 3, 1) := by decide +kernel
theorem dX12_plays_68 : decode cX12_plays 68 = .ok (.ifCond .ge 7, 3) := by decide +kernel
theorem dX12_plays_71 : decode cX12_plays 71 = .ok (.iconst 1, 1) := by decide +kernel
theorem dX12_plays_72 : decode cX12_plays 72 = .ok (.goto 7, 3) := by decide +kernel
theorem dX12_plays_75 : decode cX12_plays 75 = .ok (.aload_n 0, 1) := by decide +kernel
theorem dX12_plays_76 : decode cX12_plays 76 = .ok (.getfield 272, 3) := by decide +kernel
theorem dX12_plays_79 : decode cX12_plays 79 = .ok (.if_icmp .ge 123, 3) := by decide +kernel
theorem dX12_plays_82 : decode cX12_plays 82 = .ok (.aload_n 0, 1) := by decide +kernel
theorem dX12_plays_83 : decode cX12_plays 83 = .ok (.getfield 107, 3) := by decide +kernel
theorem dX12_plays_86 : decode cX12_plays 86 = .ok (.iload_n 1, 1) := by decide +kernel
theorem dX12_plays_87 : decode cX12_plays 87 = .ok (.iload 4, 2) := by decide +kernel
theorem dX12_plays_89 : decode cX12_plays 89 = .ok (.iastore, 1) := by decide +kernel
theorem dX12_plays_90 : decode cX12_plays 90 = .ok (.aload_n 0, 1) := by decide +kernel
theorem dX12_plays_91 : decode cX12_plays 91 = .ok (.getfield 107, 3) := by decide +kernel
theorem dX12_plays_94 : decode cX12_plays 94 = .ok (.iload_n 2, 1) := by decide +kernel
theorem dX12_plays_95 : decode cX12_plays 95 = .ok (.iload 5, 2) := by decide +kernel
theorem dX12_plays_97 : decode cX12_plays 97 = .ok (.iastore, 1) := by decide +kernel
theorem dX12_plays_98 : decode cX12_plays 98 = .ok (.iload_n 3, 1) := by decide +kernel
theorem dX12_plays_99 : decode cX12_plays 99 = .ok (.ifCond .lt 11, 3) := by decide +kernel
theorem dX12_plays_102 : decode cX12_plays 102 = .ok (.aload_n 0, 1) := by decide +kernel
theorem dX12_plays_103 : decode cX12_plays 103 = .ok (.getfield 107, 3) := by decide +kernel
theorem dX12_plays_106 : decode cX12_plays 106 = .ok (.iload_n 3, 1) := by decide +kernel
theorem dX12_plays_107 : decode cX12_plays 107 = .ok (.iload 6, 2) := by decide +kernel
theorem dX12_plays_109 : decode cX12_plays 109 = .ok (.iastore, 1) := by decide +kernel
theorem dX12_plays_110 : decode cX12_plays 110 = .ok (.iload 4, 2) := by decide +kernel
theorem dX12_plays_112 : decode cX12_plays 112 = .ok (.iload 5, 2) := by decide +kernel
theorem dX12_plays_114 : decode cX12_plays 114 = .ok (.iload 6, 2) := by decide +kernel
theorem dX12_plays_116 : decode cX12_plays 116 = .ok (.invokestatic 454, 3) := by decide +kernel
theorem dX12_plays_119 : decode cX12_plays 119 = .ok (.istore 7, 2) := by decide +kernel
theorem dX12_plays_121 : decode cX12_plays 121 = .ok (.aload_n 0, 1) := by decide +kernel
theorem dX12_plays_122 : decode cX12_plays 122 = .ok (.getfield 134, 3) := by decide +kernel
theorem dX12_plays_125 : decode cX12_plays 125 = .ok (.iload 7, 2) := by decide +kernel
theorem dX12_plays_127 : decode cX12_plays 127 = .ok (.aload_n 0, 1) := by decide +kernel
theorem dX12_plays_128 : decode cX12_plays 128 = .ok (.iload_n 1, 1) := by decide +kernel
theorem dX12_plays_129 : decode cX12_plays 129 = .ok (.iload_n 2, 1) := by decide +kernel
theorem dX12_plays_130 : decode cX12_plays 130 = .ok (.iload_n 3, 1) := by decide +kernel
theorem dX12_plays_131 : decode cX12_plays 131 = .ok (.invokevirtual 458, 3) := by decide +kernel
theorem dX12_plays_134 : decode cX12_plays 134 = .ok (.bastore, 1) := by decide +kernel
theorem dX12_plays_135 : decode cX12_plays 135 = .ok (.aload_n 0, 1) := by decide +kernel
theorem dX12_plays_136 : decode cX12_plays 136 = .ok (.getfield 134, 3) := by decide +kernel
theorem dX12_plays_139 : decode cX12_plays 139 = .ok (.iload 7, 2) := by decide +kernel
theorem dX12_plays_141 : decode cX12_plays 141 = .ok (.baload, 1) := by decide +kernel
theorem dX12_plays_142 : decode cX12_plays 142 = .ok (.ifCond .ne 6, 3) := by decide +kernel
theorem dX12_plays_145 : decode cX12_plays 145 = .ok (.goto 51, 3) := by decide +kernel
theorem dX12_plays_148 : decode cX12_plays 148 = .ok (.aload_n 0, 1) := by decide +kernel
theorem dX12_plays_149 : decode cX12_plays 149 = .ok (.invokevirtual 407, 3) := by decide +kernel
theorem dX12_plays_152 : decode cX12_plays 152 = .ok (.aload_n 0, 1) := by decide +kernel
theorem dX12_plays_153 : decode cX12_plays 153 = .ok (.getfield 137, 3) := by decide +kernel
theorem dX12_plays_156 : decode cX12_plays 156 = .ok (.iload 7, 2) := by decide +kernel
theorem dX12_plays_158 : decode cX12_plays 158 = .ok (.aload_n 0, 1) := by decide +kernel
theorem dX12_plays_159 : decode cX12_plays 159 = .ok (.iload_n 1, 1) := by decide +kernel
theorem dX12_plays_160 : decode cX12_plays 160 = .ok (.invokevirtual 400, 3) := by decide +kernel
theorem dX12_plays_163 : decode cX12_plays 163 = .ok (.lastore, 1) := by decide +kernel
theorem dX12_plays_164 : decode cX12_plays 164 = .ok (.aload_n 0, 1) := by decide +kernel
theorem dX12_plays_165 : decode cX12_plays 165 = .ok (.getfield 140, 3) := by decide +kernel
theorem dX12_plays_168 : decode cX12_plays 168 = .ok (.iload 7, 2) := by decide +kernel
theorem dX12_plays_170 : decode cX12_plays 170 = .ok (.aload_n 0, 1) := by decide +kernel
theorem dX12_plays_171 : decode cX12_plays 171 = .ok (.iload_n 2, 1) := by decide +kernel
theorem dX12_plays_172 : decode cX12_plays 172 = .ok (.invokevirtual 400, 3) := by decide +kernel
theorem dX12_plays_175 : decode cX12_plays 175 = .ok (.lastore, 1) := by decide +kernel
theorem dX12_plays_176 : decode cX12_plays 176 = .ok (.aload_n 0, 1) := by decide +kernel
theorem dX12_plays_177 : decode cX12_plays 177 = .ok (.getfield 143, 3) := by decide +kernel
theorem dX12_plays_180 : decode cX12_plays 180 = .ok (.iload 7, 2) := by decide +kernel
theorem dX12_plays_182 : decode cX12_plays 182 = .ok (.iload_n 3, 1) := by decide +kernel
theorem dX12_plays_183 : decode cX12_plays 183 = .ok (.ifCond .ge 7, 3) := by decide +kernel
theorem dX12_plays_186 : decode cX12_plays 186 = .ok (.lconst 0, 1) := by decide +kernel
theorem dX12_plays_187 : decode cX12_plays 187 = .ok (.goto 8, 3) := by decide +kernel
theorem dX12_plays_190 : decode cX12_plays 190 = .ok (.aload_n 0, 1) := by decide +kernel
theorem dX12_plays_191 : decode cX12_plays 191 = .ok (.iload_n 3, 1) := by decide +kernel
theorem dX12_plays_192 : decode cX12_plays 192 = .ok (.invokevirtual 400, 3) := by decide +kernel
theorem dX12_plays_195 : decode cX12_plays 195 = .ok (.lastore, 1) := by decide +kernel
theorem dX12_plays_196 : decode cX12_plays 196 = .ok (.iinc 6 1, 3) := by decide +kernel
theorem dX12_plays_199 : decode cX12_plays 199 = .ok (.goto (-134), 3) := by decide +kernel
theorem dX12_plays_202 : decode cX12_plays 202 = .ok (.iinc 5 1, 3) := by decide +kernel
theorem dX12_plays_205 : decode cX12_plays 205 = .ok (.goto (-152), 3) := by decide +kernel
theorem dX12_plays_208 : decode cX12_plays 208 = .ok (.iinc 4 1, 3) := by decide +kernel
theorem dX12_plays_211 : decode cX12_plays 211 = .ok (.goto (-170), 3) := by decide +kernel
theorem dX12_plays_214 : decode cX12_plays 214 = .ok (.aload_n 0, 1) := by decide +kernel
theorem dX12_plays_215 : decode cX12_plays 215 = .ok (.getfield 107, 3) := by decide +kernel
theorem dX12_plays_218 : decode cX12_plays 218 = .ok (.iload_n 1, 1) := by decide +kernel
theorem dX12_plays_219 : decode cX12_plays 219 = .ok (.aload_n 0, 1) := by decide +kernel
theorem dX12_plays_220 : decode cX12_plays 220 = .ok (.getfield 445, 3) := by decide +kernel
theorem dX12_plays_223 : decode cX12_plays 223 = .ok (.iastore, 1) := by decide +kernel
theorem dX12_plays_224 : decode cX12_plays 224 = .ok (.aload_n 0, 1) := by decide +kernel
theorem dX12_plays_225 : decode cX12_plays 225 = .ok (.getfield 107, 3) := by decide +kernel
theorem dX12_plays_228 : decode cX12_plays 228 = .ok (.iload_n 2, 1) := by decide +kernel
theorem dX12_plays_229 : decode cX12_plays 229 = .ok (.aload_n 0, 1) := by decide +kernel
theorem dX12_plays_230 : decode cX12_plays 230 = .ok (.getfield 448, 3) := by decide +kernel
theorem dX12_plays_233 : decode cX12_plays 233 = .ok (.iastore, 1) := by decide +kernel
theorem dX12_plays_234 : decode cX12_plays 234 = .ok (.iload_n 3, 1) := by decide +kernel
theorem dX12_plays_235 : decode cX12_plays 235 = .ok (.ifCond .lt 13, 3) := by decide +kernel
theorem dX12_plays_238 : decode cX12_plays 238 = .ok (.aload_n 0, 1) := by decide +kernel
theorem dX12_plays_239 : decode cX12_plays 239 = .ok (.getfield 107, 3) := by decide +kernel
theorem dX12_plays_242 : decode cX12_plays 242 = .ok (.iload_n 3, 1) := by decide +kernel
theorem dX12_plays_243 : decode cX12_plays 243 = .ok (.aload_n 0, 1) := by decide +kernel
theorem dX12_plays_244 : decode cX12_plays 244 = .ok (.getfield 451, 3) := by decide +kernel
theorem dX12_plays_247 : decode cX12_plays 247 = .ok (.iastore, 1) := by decide +kernel
theorem dX12_plays_248 : decode cX12_plays 248 = .ok (.return_, 1) := by decide +kernel
theorem dX12_isRest_0 : decode cX12_isRest 0 = .ok (.iload_n 1, 1) := by decide +kernel
theorem dX12_isRest_1 : decode cX12_isRest 1 = .ok (.iload_n 2, 1) := by decide +kernel
theorem dX12_isRest_2 : decode cX12_isRest 2 = .ok (.iload_n 3, 1) := by decide +kernel
theorem dX12_isRest_3 : decode cX12_isRest 3 = .ok (.invokestatic 454, 3) := by decide +kernel
theorem dX12_isRest_6 : decode cX12_isRest 6 = .ok (.istore 5, 2) := by decide +kernel
theorem dX12_isRest_8 : decode cX12_isRest 8 = .ok (.aload_n 0, 1) := by decide +kernel
theorem dX12_isRest_9 : decode cX12_isRest 9 = .ok (.getfield 134, 3) := by decide +kernel
theorem dX12_isRest_12 : decode cX12_isRest 12 = .ok (.iload 5, 2) := by decide +kernel
theorem dX12_isRest_14 : decode cX12_isRest 14 = .ok (.baload, 1) := by decide +kernel
theorem dX12_isRest_15 : decode cX12_isRest 15 = .ok (.ifCond .ne 5, 3) := by decide +kernel
theorem dX12_isRest_18 : decode cX12_isRest 18 = .ok (.iconst 0, 1) := by decide +kernel
theorem dX12_isRest_19 : decode cX12_isRest 19 = .ok (.ireturn, 1) := by decide +kernel
theorem dX12_isRest_20 : decode cX12_isRest 20 = .ok (.iconst 0, 1) := by decide +kernel
theorem dX12_isRest_21 : decode cX12_isRest 21 = .ok (.istore 6, 2) := by decide +kernel
theorem dX12_isRest_23 : decode cX12_isRest 23 = .ok (.iload 6, 2) := by decide +kernel
theorem dX12_isRest_25 : decode cX12_isRest 25 = .ok (.aload_n 0, 1) := by decide +kernel
theorem dX12_isRest_26 : decode cX12_isRest 26 = .ok (.getfield 272, 3) := by decide +kernel
theorem dX12_isRest_29 : decode cX12_isRest 29 = .ok (.if_icmp .ge 131, 3) := by decide +kernel
theorem dX12_isRest_32 : decode cX12_isRest 32 = .ok (.iload 6, 2) := by decide +kernel
theorem dX12_isRest_34 : decode cX12_isRest 34 = .ok (.iload_n 2, 1) := by decide +kernel
theorem dX12_isRest_35 : decode cX12_isRest 35 = .ok (.iload_n 3, 1) := by decide +kernel
theorem dX12_isRest_36 : decode cX12_isRest 36 = .ok (.invokestatic 454, 3) := by decide +kernel
theorem dX12_isRest_39 : decode cX12_isRest 39 = .ok (.istore 7, 2) := by decide +kernel
theorem dX12_isRest_41 : decode cX12_isRest 41 = .ok (.aload_n 0, 1) := by decide +kernel
theorem dX12_isRest_42 : decode cX12_isRest 42 = .ok (.getfield 134, 3) := by decide +kernel
theorem dX12_isRest_45 : decode cX12_isRest 45 = .ok (.iload 7, 2) := by decide +kernel
theorem dX12_isRest_47 : decode cX12_isRest 47 = .ok (.baload, 1) := by decide +kernel
theorem dX12_isRest_48 : decode cX12_isRest 48 = .ok (.ifCond .eq 23, 3) := by decide +kernel
theorem dX12_isRest_51 : decode cX12_isRest 51 = .ok (.aload_n 0, 1) := by decide +kernel
theorem dX12_isRest_52 : decode cX12_isRest 52 = .ok (.getfield 137, 3) := by decide +kernel
theorem dX12_isRest_55 : decode cX12_isRest 55 = .ok (.iload 7, 2) := by decide +kernel
theorem dX12_isRest_57 : decode cX12_isRest 57 = .ok (.laload, 1) := by decide +kernel
theorem dX12_isRest_58 : decode cX12_isRest 58 = .ok (.aload_n 0, 1) := by decide +kernel
theorem dX12_isRest_59 : decode cX12_isRest 59 = .ok (.getfield 137, 3) := by decide +kernel
theorem dX12_isRest_62 : decode cX12_isRest 62 = .ok (.iload 5, 2) := by decide +kernel
theorem dX12_isRest_64 : decode cX12_isRest 64 = .ok (.laload, 1) := by decide +kernel
theorem dX12_isRest_65 : decode cX12_isRest 65 = .ok (.lcmp, 1) := by decide +kernel
theorem dX12_isRest_66 : decode cX12_isRest 66 = .ok (.ifCond .le 5, 3) := by decide +kernel
theorem dX12_isRest_69 : decode cX12_isRest 69 = .ok (.iconst 0, 1) := by decide +kernel
theorem dX12_isRest_70 : decode cX12_isRest 70 = .ok (.ireturn, 1) := by decide +kernel
theorem dX12_isRest_71 : decode cX12_isRest 71 = .ok (.iload_n 1, 1) := by decide +kernel
theorem dX12_isRest_72 : decode cX12_isRest 72 = .ok (.iload 6, 2) := by decide +kernel
theorem dX12_isRest_74 : decode cX12_isRest 74 = .ok (.iload_n 3, 1) := by decide +kernel
theorem dX12_isRest_75 : decode cX12_isRest 75 = .ok (.invokestatic 454, 3) := by decide +kernel
theorem dX12_isRest_78 : decode cX12_isRest 78 = .ok (.istore 7, 2) := by decide +kernel
theorem dX12_isRest_80 : decode cX12_isRest 80 = .ok (.aload_n 0, 1) := by decide +kernel
theorem dX12_isRest_81 : decode cX12_isRest 81 = .ok (.getfield 134, 3) := by decide +kernel
theorem dX12_isRest_84 : decode cX12_isRest 84 = .ok (.iload 7, 2) := by decide +kernel
theorem dX12_isRest_86 : decode cX12_isRest 86 = .ok (.baload, 1) := by decide +kernel
theorem dX12_isRest_87 : decode cX12_isRest 87 = .ok (.ifCond .eq 23, 3) := by decide +kernel
theorem dX12_isRest_90 : decode cX12_isRest 90 = .ok (.aload_n 0, 1) := by decide +kernel
theorem dX12_isRest_91 : decode cX12_isRest 91 = .ok (.getfield 140, 3) := by decide +kernel
theorem dX12_isRest_94 : decode cX12_isRest 94 = .ok (.iload 7, 2) := by decide +kernel
theorem dX12_isRest_96 : decode cX12_isRest 96 = .ok (.laload, 1) := by decide +kernel
theorem dX12_isRest_97 : decode cX12_isRest 97 = .ok (.aload_n 0, 1) := by decide +kernel
theorem dX12_isRest_98 : decode cX12_isRest 98 = .ok (.getfield 140, 3) := by decide +kernel
theorem dX12_isRest_101 : decode cX12_isRest 101 = .ok (.iload 5, 2) := by decide +kernel
theorem dX12_isRest_103 : decode cX12_isRest 103 = .ok (.laload, 1) := by decide +kernel
theorem dX12_isRest_104 : decode cX12_isRest 104 = .ok (.lcmp, 1) := by decide +kernel
theorem dX12_isRest_105 : decode cX12_isRest 105 = .ok (.ifCond .le 5, 3) := by decide +kernel
theorem dX12_isRest_108 : decode cX12_isRest 108 = .ok (.iconst 0, 1) := by decide +kernel
theorem dX12_isRest_109 : decode cX12_isRest 109 = .ok (.ireturn, 1) := by decide +kernel
theorem dX12_isRest_110 : decode cX12_isRest 110 = .ok (.iload_n 1, 1) := by decide +kernel
theorem dX12_isRest_111 : decode cX12_isRest 111 = .ok (.iload_n 2, 1) := by decide +kernel
theorem dX12_isRest_112 : decode cX12_isRest 112 = .ok (.iload 6, 2) := by decide +kernel
theorem dX12_isRest_114 : decode cX12_isRest 114 = .ok (.invokestatic 454, 3) := by decide +kernel
theorem dX12_isRest_117 : decode cX12_isRest 117 = .ok (.istore 7, 2) := by decide +kernel
theorem dX12_isRest_119 : decode cX12_isRest 119 = .ok (.iload 4, 2) := by decide +kernel
theorem dX12_isRest_121 : decode cX12_isRest 121 = .ok (.ifCond .eq 33, 3) := by decide +kernel
theorem dX12_isRest_124 : decode cX12_isRest 124 = .ok (.aload_n 0, 1) := by decide +kernel
theorem dX12_isRest_125 : decode cX12_isRest 125 = .ok (.getfield 134, 3) := by decide +kernel
theorem dX12_isRest_128 : decode cX12_isRest 128 = .ok (.iload 7, 2) := by decide +kernel
theorem dX12_isRest_130 : decode cX12_isRest 130 = .ok (.baload, 1) := by decide +kernel
theorem dX12_isRest_131 : decode cX12_isRest 131 = .ok (.ifCond .eq 23, 3) := by decide +kernel
theorem dX12_isRest_134 : decode cX12_isRest 134 = .ok (.aload_n 0, 1) := by decide +kernel
theorem dX12_isRest_135 : decode cX12_isRest 135 = .ok (.getfield 143, 3) := by decide +kernel
theorem dX12_isRest_138 : decode cX12_isRest 138 = .ok (.iload 7, 2) := by decide +kernel
theorem dX12_isRest_140 : decode cX12_isRest 140 = .ok (.laload, 1) := by decide +kernel
theorem dX12_isRest_141 : decode cX12_isRest 141 = .ok (.aload_n 0, 1) := by decide +kernel
theorem dX12_isRest_142 : decode cX12_isRest 142 = .ok (.getfield 143, 3) := by decide +kernel
theorem dX12_isRest_145 : decode cX12_isRest 145 = .ok (.iload 5, 2) := by decide +kernel
theorem dX12_isRest_147 : decode cX12_isRest 147 = .ok (.laload, 1) := by decide +kernel
theorem dX12_isRest_148 : decode cX12_isRest 148 = .ok (.lcmp, 1) := by decide +kernel
theorem dX12_isRest_149 : decode cX12_isRest 149 = .ok (.ifCond .le 5, 3) := by decide +kernel
theorem dX12_isRest_152 : decode cX12_isRest 152 = .ok (.iconst 0, 1) := by decide +kernel
theorem dX12_isRest_153 : decode cX12_isRest 153 = .ok (.ireturn, 1) := by decide +kernel
theorem dX12_isRest_154 : decode cX12_isRest 154 = .ok (.iinc 6 1, 3) := by decide +kernel
theorem dX12_isRest_157 : decode cX12_isRest 157 = .ok (.goto (-134), 3) := by decide +kernel
theorem dX12_isRest_160 : decode cX12_isRest 160 = .ok (.iconst 1, 1) := by decide +kernel
theorem dX12_isRest_161 : decode cX12_isRest 161 = .ok (.ireturn, 1) := by decide +kernel
theorem dX12_areTwo_0 : decode cX12_areTwo 0 = .ok (.aload_n 0, 1) := by decide +kernel
theorem dX12_areTwo_1 : decode cX12_areTwo 1 = .ok (.iload_n 1, 1) := by decide +kernel
theorem dX12_areTwo_2 : decode cX12_areTwo 2 = .ok (.invokevirtual 404, 3) := by decide +kernel
theorem dX12_areTwo_5 : decode cX12_areTwo 5 = .ok (.ifCond .eq 20, 3) := by decide +kernel
theorem dX12_areTwo_8 : decode cX12_areTwo 8 = .ok (.aload_n 0, 1) := by decide +kernel
theorem dX12_areTwo_9 : decode cX12_areTwo 9 = .ok (.iload_n 2, 1) := by decide +kernel
theorem dX12_areTwo_10 : decode cX12_areTwo 10 = .ok (.invokevirtual 404, 3) := by decide +kernel
theorem dX12_areTwo_13 : decode cX12_areTwo 13 = .ok (.ifCond .eq 12, 3) := by decide +kernel
theorem dX12_areTwo_16 : decode cX12_areTwo 16 = .ok (.iload_n 1, 1) := by decide +kernel
theorem dX12_areTwo_17 : decode cX12_areTwo 17 = .ok (.iload_n 2, 1) := by decide +kernel
theorem dX12_areTwo_18 : decode cX12_areTwo 18 = .ok (.if_icmp .eq 7, 3) := by decide +kernel
theorem dX12_areTwo_21 : decode cX12_areTwo 21 = .ok (.iconst 1, 1) := by decide +kernel
theorem dX12_areTwo_22 : decode cX12_areTwo 22 = .ok (.goto 4, 3) := by decide +kernel
theorem dX12_areTwo_25 : decode cX12_areTwo 25 = .ok (.iconst 0, 1) := by decide +kernel
theorem dX12_areTwo_26 : decode cX12_areTwo 26 = .ok (.ireturn, 1) := by decide +kernel
theorem dX12_rests_0 : decode cX12_rests 0 = .ok (.aload_n 0, 1) := by decide +kernel
theorem dX12_rests_1 : decode cX12_rests 1 = .ok (.iload_n 1, 1) := by decide +kernel
theorem dX12_rests_2 : decode cX12_rests 2 = .ok (.iload_n 2, 1) := by decide +kernel
theorem dX12_rests_3 : decode cX12_rests 3 = .ok (.invokevirtual 461, 3) := by decide +kernel
theorem dX12_rests_6 : decode cX12_rests 6 = .ok (.ifCond .eq 32, 3) := by decide +kernel
theorem dX12_rests_9 : decode cX12_rests 9 = .ok (.iload_n 3, 1) := by decide +kernel
theorem dX12_rests_10 : decode cX12_rests 10 = .ok (.iconst (-1), 1) := by decide +kernel
theorem dX12_rests_11 : decode cX12_rests 11 = .ok (.if_icmp .eq 21, 3) := by decide +kernel
theorem dX12_rests_14 : decode cX12_rests 14 = .ok (.aload_n 0, 1) := by decide +kernel
theorem dX12_rests_15 : decode cX12_rests 15 = .ok (.iload_n 3, 1) := by decide +kernel
theorem dX12_rests_16 : decode cX12_rests 16 = .ok (.invokevirtual 404, 3) := by decide +kernel
theorem dX12_rests_19 : decode cX12_rests 19 = .ok (.ifCond .eq 19, 3) := by decide +kernel
theorem dX12_rests_22 : decode cX12_rests 22 = .ok (.iload_n 3, 1) := by decide +kernel
theorem dX12_rests_23 : decode cX12_rests 23 = .ok (.iload_n 1, 1) := by decide +kernel
theorem dX12_rests_24 : decode cX12_rests 24 = .ok (.if_icmp .eq 14, 3) := by decide +kernel
theorem dX12_rests_27 : decode cX12_rests 27 = .ok (.iload_n 3, 1) := by decide +kernel
theorem dX12_rests_28 : decode cX12_rests 28 = .ok (.iload_n 2, 1) := by decide +kernel
theorem dX12_rests_29 : decode cX12_rests 29 = .ok (.if_icmp .eq 9, 3) := by decide +kernel
theorem dX12_rests_32 : decode cX12_rests 32 = .ok (.iload 4, 2) := by decide +kernel
theorem dX12_rests_34 : decode cX12_rests 34 = .ok (.iconst (-1), 1) := by decide +kernel
theorem dX12_rests_35 : decode cX12_rests 35 = .ok (.if_icmp .ge 5, 3) := by decide +kernel
theorem dX12_rests_38 : decode cX12_rests 38 = .ok (.iconst (-1), 1) := by decide +kernel
theorem dX12_rests_39 : decode cX12_rests 39 = .ok (.ireturn, 1) := by decide +kernel
theorem dX12_rests_40 : decode cX12_rests 40 = .ok (.aload_n 0, 1) := by decide +kernel
theorem dX12_rests_41 : decode cX12_rests 41 = .ok (.iload_n 1, 1) := by decide +kernel
theorem dX12_rests_42 : decode cX12_rests 42 = .ok (.iload_n 2, 1) := by decide +kernel
theorem dX12_rests_43 : decode cX12_rests 43 = .ok (.iload_n 3, 1) := by decide +kernel
theorem dX12_rests_44 : decode cX12_rests 44 = .ok (.invokevirtual 464, 3) := by decide +kernel
theorem dX12_rests_47 : decode cX12_rests 47 = .ok (.iconst 0, 1) := by decide +kernel
theorem dX12_rests_48 : decode cX12_rests 48 = .ok (.istore 5, 2) := by decide +kernel
theorem dX12_rests_50 : decode cX12_rests 50 = .ok (.iconst 0, 1) := by decide +kernel
theorem dX12_rests_51 : decode cX12_rests 51 = .ok (.istore 6, 2) := by decide +kernel
theorem dX12_rests_53 : decode cX12_rests 53 = .ok (.iload 6, 2) := by decide +kernel
theorem dX12_rests_55 : decode cX12_rests 55 = .ok (.aload_n 0, 1) := by decide +kernel
theorem dX12_rests_56 : decode cX12_rests 56 = .ok (.getfield 272, 3) := by decide +kernel
theorem dX12_rests_59 : decode cX12_rests 59 = .ok (.if_icmp .ge 104, 3) := by decide +kernel
theorem dX12_rests_62 : decode cX12_rests 62 = .ok (.iconst 0, 1) := by decide +kernel
theorem dX12_rests_63 : decode cX12_rests 63 = .ok (.istore 7, 2) := by decide +kernel
theorem dX12_rests_65 : decode cX12_rests 65 = .ok (.iload 7, 2) := by decide +kernel
theorem dX12_rests_67 : decode cX12_rests 67 = .ok (.aload_n 0, 1) := by decide +kernel
theorem dX12_rests_68 : decode cX12_rests 68 = .ok (.getfield 272, 3) := by decide +kernel
theorem dX12_rests_71 : decode cX12_rests 71 = .ok (.if_icmp .ge 86, 3) := by decide +kernel
theorem dX12_rests_74 : decode cX12_rests 74 = .ok (.iconst 0, 1) := by decide +kernel
theorem dX12_rests_75 : decode cX12_rests 75 = .ok (.istore 8, 2) := by decide +kernel
theorem dX12_rests_77 : decode cX12_rests 77 = .ok (.iload 8, 2) := by decide +kernel
theorem dX12_rests_79 : decode cX12_rests 79 = .ok (.iload_n 3, 1) := by decide +kernel
theorem dX12_rests_80 : decode cX12_rests 80 = .ok (.ifCond .ge 7, 3) := by decide +kernel
theorem dX12_rests_83 : decode cX12_rests 83 = .ok (.iconst 1, 1) := by decide +kernel
theorem dX12_rests_84 : decode cX12_rests 84 = .ok (.goto 7, 3) := by decide +kernel
theorem dX12_rests_87 : decode cX12_rests 87 = .ok (.aload_n 0, 1) := by decide +kernel
theorem dX12_rests_88 : decode cX12_rests 88 = .ok (.getfield 272, 3) := by decide +kernel
theorem dX12_rests_91 : decode cX12_rests 91 = .ok (.if_icmp .ge 60, 3) := by decide +kernel
theorem dX12_rests_94 : decode cX12_rests 94 = .ok (.aload_n 0, 1) := by decide +kernel
theorem dX12_rests_95 : decode cX12_rests 95 = .ok (.iload 6, 2) := by decide +kernel
theorem dX12_rests_97 : decode cX12_rests 97 = .ok (.iload 7, 2) := by decide +kernel
theorem dX12_rests_99 : decode cX12_rests 99 = .ok (.iload 8, 2) := by decide +kernel
theorem dX12_rests_101 : decode cX12_rests 101 = .ok (.iload_n 3, 1) := by decide +kernel
theorem dX12_rests_102 : decode cX12_rests 102 = .ok (.ifCond .lt 7, 3) := by decide +kernel
theorem dX12_rests_105 : decode cX12_rests 105 = .ok (.iconst 1, 1) := by decide +kernel
theorem dX12_rests_106 : decode cX12_rests 106 = .ok (.goto 4, 3) := by decide +kernel
theorem dX12_rests_109 : decode cX12_rests 109 = .ok (.iconst 0, 1) := by decide +kernel
theorem dX12_rests_110 : decode cX12_rests 110 = .ok (.invokevirtual 468, 3) := by decide +kernel
theorem dX12_rests_113 : decode cX12_rests 113 = .ok (.ifCond .ne 6, 3) := by decide +kernel
theorem dX12_rests_116 : decode cX12_rests 116 = .ok (.goto 29, 3) := by decide +kernel
theorem dX12_rests_119 : decode cX12_rests 119 = .ok (.iload 5, 2) := by decide +kernel
theorem dX12_rests_121 : decode cX12_rests 121 = .ok (.iload 4, 2) := by decide +kernel
theorem dX12_rests_123 : decode cX12_rests 123 = .ok (.if_icmp .ne 19, 3) := by decide +kernel
theorem dX12_rests_126 : decode cX12_rests 126 = .ok (.sipush 256, 3) := by decide +kernel
theorem dX12_rests_129 : decode cX12_rests 129 = .ok (.iload 6, 2) := by decide +kernel
theorem dX12_rests_131 : decode cX12_rests 131 = .ok (.imul, 1) := by decide +kernel
theorem dX12_rests_132 : decode cX12_rests 132 = .ok (.bipush 16, 2) := by decide +kernel
theorem dX12_rests_134 : decode cX12_rests 134 = .ok (.iload 7, 2) := by decide +kernel
theorem dX12_rests_136 : decode cX12_rests 136 = .ok (.imul, 1) := by decide +kernel
theorem dX12_rests_137 : decode cX12_rests 137 = .ok (.iadd, 1) := by decide +kernel
theorem dX12_rests_138 : decode cX12_rests 138 = .ok (.iload 8, 2) := by decide +kernel
theorem dX12_rests_140 : decode cX12_rests 140 = .ok (.iadd, 1) := by decide +kernel
theorem dX12_rests_141 : decode cX12_rests 141 = .ok (.ireturn, 1) := by decide +kernel
theorem dX12_rests_142 : decode cX12_rests 142 = .ok (.iinc 5 1, 3) := by decide +kernel
theorem dX12_rests_145 : decode cX12_rests 145 = .ok (.iinc 8 1, 3) := by decide +kernel
theorem dX12_rests_148 : decode cX12_rests 148 = .ok (.goto (-71), 3) := by decide +kernel
theorem dX12_rests_151 : decode cX12_rests 151 = .ok (.iinc 7 1, 3) := by decide +kernel
theorem dX12_rests_154 : decode cX12_rests 154 = .ok (.goto (-89), 3) := by decide +kernel
theorem dX12_rests_157 : decode cX12_rests 157 = .ok (.iinc 6 1, 3) := by decide +kernel
theorem dX12_rests_160 : decode cX12_rests 160 = .ok (.goto (-107), 3) := by decide +kernel
theorem dX12_rests_163 : decode cX12_rests 163 = .ok (.iload 4, 2) := by decide +kernel
theorem dX12_rests_165 : decode cX12_rests 165 = .ok (.iconst (-1), 1) := by decide +kernel
theorem dX12_rests_166 : decode cX12_rests 166 = .ok (.if_icmp .ne 8, 3) := by decide +kernel
theorem dX12_rests_169 : decode cX12_rests 169 = .ok (.iload 5, 2) := by decide +kernel
theorem dX12_rests_171 : decode cX12_rests 171 = .ok (.goto 4, 3) := by decide +kernel
theorem dX12_rests_174 : decode cX12_rests 174 = .ok (.iconst (-1), 1) := by decide +kernel
theorem dX12_rests_175 : decode cX12_rests 175 = .ok (.ireturn, 1) := by decide +kernel
theorem dX12_isCorner_0 : decode cX12_isCorner 0 = .ok (.iload_n 1, 1) := by decide +kernel
theorem dX12_isCorner_1 : decode cX12_isCorner 1 = .ok (.ifCond .lt 15, 3) := by decide +kernel
theorem dX12_isCorner_4 : decode cX12_isCorner 4 = .ok (.iload_n 1, 1) := by decide +kernel
theorem dX12_isCorner_5 : decode cX12_isCorner 5 = .ok (.aload_n 0, 1) := by decide +kernel
theorem dX12_isCorner_6 : decode cX12_isCorner 6 = .ok (.getfield 272, 3) := by decide +kernel
theorem dX12_isCorner_9 : decode cX12_isCorner 9 = .ok (.if_icmp .ge 7, 3) := by decide +kernel
theorem dX12_isCorner_12 : decode cX12_isCorner 12 = .ok (.iconst 1, 1) := by decide +kernel
theorem dX12_isCorner_13 : decode cX12_isCorner 13 = .ok (.goto 4, 3) := by decide +kernel
theorem dX12_isCorner_16 : decode cX12_isCorner 16 = .ok (.iconst 0, 1) := by decide +kernel
theorem dX12_isCorner_17 : decode cX12_isCorner 17 = .ok (.ireturn, 1) := by decide +kernel
theorem dX12_divisor_0 : decode cX12_divisor 0 = .ok (.lload_n 0, 1) := by decide +kernel
theorem dX12_divisor_1 : decode cX12_divisor 1 = .ok (.lconst 0, 1) := by decide +kernel
theorem dX12_divisor_2 : decode cX12_divisor 2 = .ok (.lcmp, 1) := by decide +kernel
theorem dX12_divisor_3 : decode cX12_divisor 3 = .ok (.ifCond .ge 8, 3) := by decide +kernel
theorem dX12_divisor_6 : decode cX12_divisor 6 = .ok (.lload_n 0, 1) := by decide +kernel
theorem dX12_divisor_7 : decode cX12_divisor 7 = .ok (.lneg, 1) := by decide +kernel
theorem dX12_divisor_8 : decode cX12_divisor 8 = .ok (.goto 4, 3) := by decide +kernel
theorem dX12_divisor_11 : decode cX12_divisor 11 = .ok (.lload_n 0, 1) := by decide +kernel
theorem dX12_divisor_12 : decode cX12_divisor 12 = .ok (.lstore 4, 2) := by decide +kernel
theorem dX12_divisor_14 : decode cX12_divisor 14 = .ok (.lload_n 2, 1) := by decide +kernel
theorem dX12_divisor_15 : decode cX12_divisor 15 = .ok (.lconst 0, 1) := by decide +kernel
theorem dX12_divisor_16 : decode cX12_divisor 16 = .ok (.lcmp, 1) := by decide +kernel
theorem dX12_divisor_17 : decode cX12_divisor 17 = .ok (.ifCond .ge 8, 3) := by decide +kernel
theorem dX12_divisor_20 : decode cX12_divisor 20 = .ok (.lload_n 2, 1) := by decide +kernel
theorem dX12_divisor_21 : decode cX12_divisor 21 = .ok (.lneg, 1) := by decide +kernel
theorem dX12_divisor_22 : decode cX12_divisor 22 = .ok (.goto 4, 3) := by decide +kernel
theorem dX12_divisor_25 : decode cX12_divisor 25 = .ok (.lload_n 2, 1) := by decide +kernel
theorem dX12_divisor_26 : decode cX12_divisor 26 = .ok (.lstore 6, 2) := by decide +kernel
theorem dX12_divisor_28 : decode cX12_divisor 28 = .ok (.lload 6, 2) := by decide +kernel
theorem dX12_divisor_30 : decode cX12_divisor 30 = .ok (.lconst 0, 1) := by decide +kernel
theorem dX12_divisor_31 : decode cX12_divisor 31 = .ok (.lcmp, 1) := by decide +kernel
theorem dX12_divisor_32 : decode cX12_divisor 32 = .ok (.ifCond .le 21, 3) := by decide +kernel
