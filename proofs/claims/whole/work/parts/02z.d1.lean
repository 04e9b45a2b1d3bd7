theorem dX0_init_0 : decode cX0_init 0 = .ok (.aload_n 0, 1) := by decide +kernel
theorem dX0_init_1 : decode cX0_init 1 = .ok (.invokespecial 3, 3) := by decide +kernel
theorem dX0_init_4 : decode cX0_init 4 = .ok (.aload_n 0, 1) := by decide +kernel
theorem dX0_init_5 : decode cX0_init 5 = .ok (.iconst 4, 1) := by decide +kernel
theorem dX0_init_6 : decode cX0_init 6 = .ok (.newarray .int, 2) := by decide +kernel
theorem dX0_init_8 : decode cX0_init 8 = .ok (.putfield 9, 3) := by decide +kernel
theorem dX0_init_11 : decode cX0_init 11 = .ok (.aload_n 0, 1) := by decide +kernel
theorem dX0_init_12 : decode cX0_init 12 = .ok (.iconst 4, 1) := by decide +kernel
theorem dX0_init_13 : decode cX0_init 13 = .ok (.newarray .int, 2) := by decide +kernel
theorem dX0_init_15 : decode cX0_init 15 = .ok (.putfield 15, 3) := by decide +kernel
theorem dX0_init_18 : decode cX0_init 18 = .ok (.aload_n 0, 1) := by decide +kernel
theorem dX0_init_19 : decode cX0_init 19 = .ok (.iconst 4, 1) := by decide +kernel
theorem dX0_init_20 : decode cX0_init 20 = .ok (.newarray .int, 2) := by decide +kernel
theorem dX0_init_22 : decode cX0_init 22 = .ok (.putfield 18, 3) := by decide +kernel
theorem dX0_init_25 : decode cX0_init 25 = .ok (.aload_n 0, 1) := by decide +kernel
theorem dX0_init_26 : decode cX0_init 26 = .ok (.iconst 4, 1) := by decide +kernel
theorem dX0_init_27 : decode cX0_init 27 = .ok (.newarray .int, 2) := by decide +kernel
theorem dX0_init_29 : decode cX0_init 29 = .ok (.putfield 21, 3) := by decide +kernel
theorem dX0_init_32 : decode cX0_init 32 = .ok (.aload_n 0, 1) := by decide +kernel
theorem dX0_init_33 : decode cX0_init 33 = .ok (.iconst 4, 1) := by decide +kernel
theorem dX0_init_34 : decode cX0_init 34 = .ok (.newarray .int, 2) := by decide +kernel
theorem dX0_init_36 : decode cX0_init 36 = .ok (.putfield 24, 3) := by decide +kernel
theorem dX0_init_39 : decode cX0_init 39 = .ok (.aload_n 0, 1) := by decide +kernel
theorem dX0_init_40 : decode cX0_init 40 = .ok (.iconst 0, 1) := by decide +kernel
theorem dX0_init_41 : decode cX0_init 41 = .ok (.putfield 27, 3) := by decide +kernel
theorem dX0_init_44 : decode cX0_init 44 = .ok (.aload_n 0, 1) := by decide +kernel
theorem dX0_init_45 : decode cX0_init 45 = .ok (.iconst (-1), 1) := by decide +kernel
theorem dX0_init_46 : decode cX0_init 46 = .ok (.putfield 31, 3) := by decide +kernel
theorem dX0_init_49 : decode cX0_init 49 = .ok (.return_, 1) := by decide +kernel
theorem dX0_has_0 : decode cX0_has 0 = .ok (.iload_n 1, 1) := by decide +kernel
theorem dX0_has_1 : decode cX0_has 1 = .ok (.ifCond .lt 15, 3) := by decide +kernel
theorem dX0_has_4 : decode cX0_has 4 = .ok (.iload_n 1, 1) := by decide +kernel
theorem dX0_has_5 : decode cX0_has 5 = .ok (.aload_n 0, 1) := by decide +kernel
theorem dX0_has_6 : decode cX0_has 6 = .ok (.getfield 27, 3) := by decide +kernel
theorem dX0_has_9 : decode cX0_has 9 = .ok (.if_icmp .ge 7, 3) := by decide +kernel
theorem dX0_has_12 : decode cX0_has 12 = .ok (.iconst 1, 1) := by decide +kernel
theorem dX0_has_13 : decode cX0_has 13 = .ok (.goto 4, 3) := by decide +kernel
theorem dX0_has_16 : decode cX0_has 16 = .ok (.iconst 0, 1) := by decide +kernel
theorem dX0_has_17 : decode cX0_has 17 = .ok (.ireturn, 1) := by decide +kernel
theorem dX0_clear_0 : decode cX0_clear 0 = .ok (.aload_n 0, 1) := by decide +kernel
theorem dX0_clear_1 : decode cX0_clear 1 = .ok (.iconst 0, 1) := by decide +kernel
theorem dX0_clear_2 : decode cX0_clear 2 = .ok (.putfield 27, 3) := by decide +kernel
theorem dX0_clear_5 : decode cX0_clear 5 = .ok (.aload_n 0, 1) := by decide +kernel
theorem dX0_clear_6 : decode cX0_clear 6 = .ok (.iconst (-1), 1) := by decide +kernel
theorem dX0_clear_7 : decode cX0_clear 7 = .ok (.putfield 31, 3) := by decide +kernel
theorem dX0_clear_10 : decode cX0_clear 10 = .ok (.return_, 1) := by decide +kernel
theorem dX0_copyFrom_0 : decode cX0_copyFrom 0 = .ok (.aload_n 1, 1) := by decide +kernel
theorem dX0_copyFrom_1 : decode cX0_copyFrom 1 = .ok (.getfield 9, 3) := by decide +kernel
theorem dX0_copyFrom_4 : decode cX0_copyFrom 4 = .ok (.iconst 0, 1) := by decide +kernel
theorem dX0_copyFrom_5 : decode cX0_copyFrom 5 = .ok (.aload_n 0, 1) := by decide +kernel
theorem dX0_copyFrom_6 : decode cX0_copyFrom 6 = .ok (.getfield 9, 3) := by decide +kernel
theorem dX0_copyFrom_9 : decode cX0_copyFrom 9 = .ok (.iconst 0, 1) := by decide +kernel
theorem dX0_copyFrom_10 : decode cX0_copyFrom 10 = .ok (.iconst 4, 1) := by decide +kernel
theorem dX0_copyFrom_11 : decode cX0_copyFrom 11 = .ok (.invokestatic 34, 3) := by decide +kernel
theorem dX0_copyFrom_14 : decode cX0_copyFrom 14 = .ok (.aload_n 1, 1) := by decide +kernel
theorem dX0_copyFrom_15 : decode cX0_copyFrom 15 = .ok (.getfield 15, 3) := by decide +kernel
theorem dX0_copyFrom_18 : decode cX0_copyFrom 18 = .ok (.iconst 0, 1) := by decide +kernel
theorem dX0_copyFrom_19 : decode cX0_copyFrom 19 = .ok (.aload_n 0, 1) := by decide +kernel
theorem dX0_copyFrom_20 : decode cX0_copyFrom 20 = .ok (.getfield 15, 3) := by decide +kernel
theorem dX0_copyFrom_23 : decode cX0_copyFrom 23 = .ok (.iconst 0, 1) := by decide +kernel
theorem dX0_copyFrom_24 : decode cX0_copyFrom 24 = .ok (.iconst 4, 1) := by decide +kernel
theorem dX0_copyFrom_25 : decode cX0_copyFrom 25 = .ok (.invokestatic 34, 3) := by decide +kernel
theorem dX0_copyFrom_28 : decode cX0_copyFrom 28 = .ok (.aload_n 1, 1) := by decide +kernel
theorem dX0_copyFrom_29 : decode cX0_copyFrom 29 = .ok (.getfield 18, 3) := by decide +kernel
theorem dX0_copyFrom_32 : decode cX0_copyFrom 32 = .ok (.iconst 0, 1) := by decide +kernel
theorem dX0_copyFrom_33 : decode cX0_copyFrom 33 = .ok (.aload_n 0, 1) := by decide +kernel
theorem dX0_copyFrom_34 : decode cX0_copyFrom 34 = .ok (.getfield 18, 3) := by decide +kernel
theorem dX0_copyFrom_37 : decode cX0_copyFrom 37 = .ok (.iconst 0, 1) := by decide +kernel
theorem dX0_copyFrom_38 : decode cX0_copyFrom 38 = .ok (.iconst 4, 1) := by decide +kernel
theorem dX0_copyFrom_39 : decode cX0_copyFrom 39 = .ok (.invokestatic 34, 3) := by decide +kernel
theorem dX0_copyFrom_42 : decode cX0_copyFrom 42 = .ok (.aload_n 1, 1) := by decide +kernel
theorem dX0_copyFrom_43 : decode cX0_copyFrom 43 = .ok (.getfield 21, 3) := by decide +kernel
theorem dX0_copyFrom_46 : decode cX0_copyFrom 46 = .ok (.iconst 0, 1) := by decide +kernel
theorem dX0_copyFrom_47 : decode cX0_copyFrom 47 = .ok (.aload_n 0, 1) := by decide +kernel
theorem dX0_copyFrom_48 : decode cX0_copyFrom 48 = .ok (.getfield 21, 3) := by decide +kernel
theorem dX0_copyFrom_51 : decode cX0_copyFrom 51 = .ok (.iconst 0, 1) := by decide +kernel
theorem dX0_copyFrom_52 : decode cX0_copyFrom 52 = .ok (.iconst 4, 1) := by decide +kernel
theorem dX0_copyFrom_53 : decode cX0_copyFrom 53 = .ok (.invokestatic 34, 3) := by decide +kernel
theorem dX0_copyFrom_56 : decode cX0_copyFrom 56 = .ok (.aload_n 1, 1) := by decide +kernel
theorem dX0_copyFrom_57 : decode cX0_copyFrom 57 = .ok (.getfield 24, 3) := by decide +kernel
theorem dX0_copyFrom_60 : decode cX0_copyFrom 60 = .ok (.iconst 0, 1) := by decide +kernel
theorem dX0_copyFrom_61 : decode cX0_copyFrom 61 = .ok (.aload_n 0, 1) := by decide +kernel
theorem dX0_copyFrom_62 : decode cX0_copyFrom 62 = .ok (.getfield 24, 3) := by decide +kernel
theorem dX0_copyFrom_65 : decode cX0_copyFrom 65 = .ok (.iconst 0, 1) := by decide +kernel
theorem dX0_copyFrom_66 : decode cX0_copyFrom 66 = .ok (.iconst 4, 1) := by decide +kernel
theorem dX0_copyFrom_67 : decode cX0_copyFrom 67 = .ok (.invokestatic 34, 3) := by decide +kernel
theorem dX0_copyFrom_70 : decode cX0_copyFrom 70 = .ok (.aload_n 0, 1) := by decide +kernel
theorem dX0_copyFrom_71 : decode cX0_copyFrom 71 = .ok (.aload_n 1, 1) := by decide +kernel
theorem dX0_copyFrom_72 : decode cX0_copyFrom 72 = .ok (.getfield 27, 3) := by decide +kernel
theorem dX0_copyFrom_75 : decode cX0_copyFrom 75 = .ok (.putfield 27, 3) := by decide +kernel
theorem dX0_copyFrom_78 : decode cX0_copyFrom 78 = .ok (.aload_n 0, 1) := by decide +kernel
theorem dX0_copyFrom_79 : decode cX0_copyFrom 79 = .ok (.aload_n 1, 1) := by decide +kernel
theorem dX0_copyFrom_80 : decode cX0_copyFrom 80 = .ok (.getfield 31, 3) := by decide +kernel
theorem dX0_copyFrom_83 : decode cX0_copyFrom 83 = .ok (.putfield 31, 3) := by decide +kernel
theorem dX0_copyFrom_86 : decode cX0_copyFrom 86 = .ok (.return_, 1) := by decide +kernel
theorem dX2_init_0 : decode cX2_init 0 = .ok (.aload_n 0, 1) := by decide +kernel
theorem dX2_init_1 : decode cX2_init 1 = .ok (.invokespecial 3, 3) := by decide +kernel
theorem dX2_init_4 : decode cX2_init 4 = .ok (.aload_n 0, 1) := by decide +kernel
theorem dX2_init_5 : decode cX2_init 5 = .ok (.bipush 9, 2) := by decide +kernel
theorem dX2_init_7 : decode cX2_init 7 = .ok (.newarray .int, 2) := by decide +kernel
theorem dX2_init_9 : decode cX2_init 9 = .ok (.putfield 9, 3) := by decide +kernel
theorem dX2_init_12 : decode cX2_init 12 = .ok (.aload_n 0, 1) := by decide +kernel
theorem dX2_init_13 : decode cX2_init 13 = .ok (.bipush 9, 2) := by decide +kernel
theorem dX2_init_15 : decode cX2_init 15 = .ok (.newarray .int, 2) := by decide +kernel
theorem dX2_init_17 : decode cX2_init 17 = .ok (.putfield 15, 3) := by decide +kernel
theorem dX2_init_20 : decode cX2_init 20 = .ok (.aload_n 0, 1) := by decide +kernel
theorem dX2_init_21 : decode cX2_init 21 = .ok (.bipush 9, 2) := by decide +kernel
theorem dX2_init_23 : decode cX2_init 23 = .ok (.newarray .int, 2) := by decide +kernel
theorem dX2_init_25 : decode cX2_init 25 = .ok (.putfield 18, 3) := by decide +kernel
theorem dX2_init_28 : decode cX2_init 28 = .ok (.aload_n 0, 1) := by decide +kernel
theorem dX2_init_29 : decode cX2_init 29 = .ok (.bipush 108, 2) := by decide +kernel
theorem dX2_init_31 : decode cX2_init 31 = .ok (.newarray .int, 2) := by decide +kernel
theorem dX2_init_33 : decode cX2_init 33 = .ok (.putfield 21, 3) := by decide +kernel
theorem dX2_init_36 : decode cX2_init 36 = .ok (.aload_n 0, 1) := by decide +kernel
theorem dX2_init_37 : decode cX2_init 37 = .ok (.bipush 108, 2) := by decide +kernel
theorem dX2_init_39 : decode cX2_init 39 = .ok (.newarray .int, 2) := by decide +kernel
theorem dX2_init_41 : decode cX2_init 41 = .ok (.putfield 24, 3) := by decide +kernel
theorem dX2_init_44 : decode cX2_init 44 = .ok (.aload_n 0, 1) := by decide +kernel
theorem dX2_init_45 : decode cX2_init 45 = .ok (.bipush 108, 2) := by decide +kernel
theorem dX2_init_47 : decode cX2_init 47 = .ok (.newarray .int, 2) := by decide +kernel
theorem dX2_init_49 : decode cX2_init 49 = .ok (.putfield 27, 3) := by decide +kernel
theorem dX2_init_52 : decode cX2_init 52 = .ok (.aload_n 0, 1) := by decide +kernel
theorem dX2_init_53 : decode cX2_init 53 = .ok (.iconst 0, 1) := by decide +kernel
theorem dX2_init_54 : decode cX2_init 54 = .ok (.putfield 30, 3) := by decide +kernel
theorem dX2_init_57 : decode cX2_init 57 = .ok (.return_, 1) := by decide +kernel
theorem dX2_clearNext_0 : decode cX2_clearNext 0 = .ok (.aload_n 0, 1) := by decide +kernel
theorem dX2_clearNext_1 : decode cX2_clearNext 1 = .ok (.getfield 9, 3) := by decide +kernel
theorem dX2_clearNext_4 : decode cX2_clearNext 4 = .ok (.aload_n 0, 1) := by decide +kernel
theorem dX2_clearNext_5 : decode cX2_clearNext 5 = .ok (.getfield 30, 3) := by decide +kernel
theorem dX2_clearNext_8 : decode cX2_clearNext 8 = .ok (.iconst 0, 1) := by decide +kernel
theorem dX2_clearNext_9 : decode cX2_clearNext 9 = .ok (.iastore, 1) := by decide +kernel
theorem dX2_clearNext_10 : decode cX2_clearNext 10 = .ok (.aload_n 0, 1) := by decide +kernel
theorem dX2_clearNext_11 : decode cX2_clearNext 11 = .ok (.getfield 15, 3) := by decide +kernel
theorem dX2_clearNext_14 : decode cX2_clearNext 14 = .ok (.aload_n 0, 1) := by decide +kernel
theorem dX2_clearNext_15 : decode cX2_clearNext 15 = .ok (.getfield 30, 3) := by decide +kernel
theorem dX2_clearNext_18 : decode cX2_clearNext 18 = .ok (.iconst (-1), 1) := by decide +kernel
theorem dX2_clearNext_19 : decode cX2_clearNext 19 = .ok (.iastore, 1) := by decide +kernel
theorem dX2_clearNext_20 : decode cX2_clearNext 20 = .ok (.aload_n 0, 1) := by decide +kernel
theorem dX2_clearNext_21 : decode cX2_clearNext 21 = .ok (.getfield 18, 3) := by decide +kernel
theorem dX2_clearNext_24 : decode cX2_clearNext 24 = .ok (.aload_n 0, 1) := by decide +kernel
theorem dX2_clearNext_25 : decode cX2_clearNext 25 = .ok (.getfield 30, 3) := by decide +kernel
theorem dX2_clearNext_28 : decode cX2_clearNext 28 = .ok (.iconst 0, 1) := by decide +kernel
theorem dX2_clearNext_29 : decode cX2_clearNext 29 = .ok (.iastore, 1) := by decide +kernel
theorem dX2_clearNext_30 : decode cX2_clearNext 30 = .ok (.return_, 1) := by decide +kernel
theorem dX2_addChange_0 : decode cX2_addChange 0 = .ok (.aload_n 0, 1) := by decide +kernel
theorem dX2_addChange_1 : decode cX2_addChange 1 = .ok (.getfield 18, 3) := by decide +kernel
theorem dX2_addChange_4 : decode cX2_addChange 4 = .ok (.aload_n 0, 1) := by decide +kernel
theorem dX2_addChange_5 : decode cX2_addChange 5 = .ok (.getfield 30, 3) := by decide +kernel
theorem dX2_addChange_8 : decode cX2_addChange 8 = .ok (.iaload, 1) := by decide +kernel
theorem dX2_addChange_9 : decode cX2_addChange 9 = .ok (.bipush 12, 2) := by decide +kernel
theorem dX2_addChange_11 : decode cX2_addChange 11 = .ok (.if_icmp .lt 4, 3) := by decide +kernel
theorem dX2_addChange_14 : decode cX2_addChange 14 = .ok (.return_, 1) := by decide +kernel
theorem dX2_addChange_15 : decode cX2_addChange 15 = .ok (.bipush 12, 2) := by decide +kernel
theorem dX2_addChange_17 : decode cX2_addChange 17 = .ok (.aload_n 0, 1) := by decide +kernel
theorem dX2_addChange_18 : decode cX2_addChange 18 = .ok (.getfield 30, 3) := by decide +kernel
theorem dX2_addChange_21 : decode cX2_addChange 21 = .ok (.imul, 1) := by decide +kernel
theorem dX2_addChange_22 : decode cX2_addChange 22 = .ok (.aload_n 0, 1) := by decide +kernel
theorem dX2_addChange_23 : decode cX2_addChange 23 = .ok (.getfield 18, 3) := by decide +kernel
theorem dX2_addChange_26 : decode cX2_addChange 26 = .ok (.aload_n 0, 1) := by decide +kernel
theorem dX2_addChange_27 : decode cX2_addChange 27 = .ok (.getfield 30, 3) := by decide +kernel
theorem dX2_addChange_30 : decode cX2_addChange 30 = .ok (.iaload, 1) := by decide +kernel
theorem dX2_addChange_31 : decode cX2_addChange 31 = .ok (.iadd, 1) := by decide +kernel
theorem dX2_addChange_32 : decode cX2_addChange 32 = .ok (.istore 4, 2) := by decide +kernel
theorem dX2_addChange_34 : decode cX2_addChange 34 = .ok (.aload_n 0, 1) := by decide +kernel
theorem dX2_addChange_35 : decode cX2_addChange 35 = .ok (.getfield 21, 3) := by decide +kernel
theorem dX2_addChange_38 : decode cX2_addChange 38 = .ok (.iload 4, 2) := by decide +kernel
theorem dX2_addChange_40 : decode cX2_addChange 40 = .ok (.iload_n 1, 1) := by decide +kernel
theorem dX2_addChange_41 : decode cX2_addChange 41 = .ok (.iastore, 1) := by decide +kernel
theorem dX2_addChange_42 : decode cX2_addChange 42 = .ok (.aload_n 0, 1) := by decide +kernel
theorem dX2_addChange_43 : decode cX2_addChange 43 = .ok (.getfield 24, 3) := by decide +kernel
theorem dX2_addChange_46 : decode cX2_addChange 46 = .ok (.iload 4, 2) := by decide +kernel
theorem dX2_addChange_48 : decode cX2_addChange 48 = .ok (.iload_n 2, 1) := by decide +kernel
theorem dX2_addChange_49 : decode cX2_addChange 49 = .ok (.iastore, 1) := by decide +kernel
theorem dX2_addChange_50 : decode cX2_addChange 50 = .ok (.aload_n 0, 1) := by decide +kernel
theorem dX2_addChange_51 : decode cX2_addChange 51 = .ok (.getfield 27, 3) := by decide +kernel
theorem dX2_addChange_54 : decode cX2_addChange 54 = .ok (.iload 4, 2) := by decide +kernel
theorem dX2_addChange_56 : decode cX2_addChange 56 = .ok (.iload_n 3, 1) := by decide +kernel
theorem dX2_addChange_57 : decode cX2_addChange 57 = .ok (.iastore, 1) := by decide +kernel
theorem dX2_addChange_58 : decode cX2_addChange 58 = .ok (.aload_n 0, 1) := by decide +kernel
theorem dX2_addChange_59 : decode cX2_addChange 59 = .ok (.getfield 18, 3) := by decide +kernel
theorem dX2_addChange_62 : decode cX2_addChange 62 = .ok (.aload_n 0, 1) := by decide +kernel
theorem dX2_addChange_63 : decode cX2_addChange 63 = .ok (.getfield 30, 3) := by decide +kernel
theorem dX2_addChange_66 : decode cX2_addChange 66 = .ok (.dup2, 1) := by decide +kernel
theorem dX2_addChange_67 : decode cX2_addChange 67 = .ok (.iaload, 1) := by decide +kernel
theorem dX2_addChange_68 : decode cX2_addChange 68 = .ok (.iconst 1, 1) := by decide +kernel
theorem dX2_addChange_69 : decode cX2_addChange 69 = .ok (.iadd, 1) := by decide +kernel
theorem dX2_addChange_70 : decode cX2_addChange 70 = .ok (.iastore, 1) := by decide +kernel
theorem dX2_addChange_71 : decode cX2_addChange 71 = .ok (.return_, 1) := by decide +kernel
theorem dX2_firstChange_0 : decode cX2_firstChange 0 = .ok (.bipush 12, 2) := by decide +kernel
theorem dX2_firstChange_2 : decode cX2_firstChange 2 = .ok (.iload_n 1, 1) := by decide +kernel
theorem dX2_firstChange_3 : decode cX2_firstChange 3 = .ok (.imul, 1) := by decide +kernel
theorem dX2_firstChange_4 : decode cX2_firstChange 4 = .ok (.ireturn, 1) := by decide +kernel
theorem dX9_init_0 : decode cX9_init 0 = .ok (.aload_n 0, 1) := by decide +kernel
theorem dX9_init_1 : decode cX9_init 1 = .ok (.invokespecial 3, 3) := by decide +kernel
theorem dX9_init_4 : decode cX9_init 4 = .ok (.aload_n 0, 1) := by decide +kernel
theorem dX9_init_5 : decode cX9_init 5 = .ok (.bipush 72, 2) := by decide +kernel
theorem dX9_init_7 : decode cX9_init 7 = .ok (.newarray .int, 2) := by decide +kernel
theorem dX9_init_9 : decode cX9_init 9 = .ok (.putfield 9, 3) := by decide +kernel
theorem dX9_init_12 : decode cX9_init 12 = .ok (.aload_n 0, 1) := by decide +kernel
theorem dX9_init_13 : decode cX9_init 13 = .ok (.bipush 12, 2) := by decide +kernel
theorem dX9_init_15 : decode cX9_init 15 = .ok (.newarray .int, 2) := by decide +kernel
theorem dX9_init_17 : decode cX9_init 17 = .ok (.putfield 15, 3) := by decide +kernel
theorem dX9_init_20 : decode cX9_init 20 = .ok (.aload_n 0, 1) := by decide +kernel
theorem dX9_init_21 : decode cX9_init 21 = .ok (.bipush 12, 2) := by decide +kernel
theorem dX9_init_23 : decode cX9_init 23 = .ok (.newarray .int, 2) := by decide +kernel
theorem dX9_init_25 : decode cX9_init 25 = .ok (.putfield 18, 3) := by decide +kernel
theorem dX9_init_28 : decode cX9_init 28 = .ok (.aload_n 0, 1) := by decide +kernel
theorem dX9_init_29 : decode cX9_init 29 = .ok (.bipush 36, 2) := by decide +kernel
theorem dX9_init_31 : decode cX9_init 31 = .ok (.newarray .int, 2) := by decide +kernel
theorem dX9_init_33 : decode cX9_init 33 = .ok (.putfield 21, 3) := by decide +kernel
theorem dX9_init_36 : decode cX9_init 36 = .ok (.aload_n 0, 1) := by decide +kernel
theorem dX9_init_37 : decode cX9_init 37 = .ok (.bipush 16, 2) := by decide +kernel
theorem dX9_init_39 : decode cX9_init 39 = .ok (.newarray .int, 2) := by decide +kernel
theorem dX9_init_41 : decode cX9_init 41 = .ok (.putfield 24, 3) := by decide +kernel
theorem dX9_init_44 : decode cX9_init 44 = .ok (.aload_n 0, 1) := by decide +kernel
theorem dX9_init_45 : decode cX9_init 45 = .ok (.bipush 16, 2) := by decide +kernel
theorem dX9_init_47 : decode cX9_init 47 = .ok (.newarray .int, 2) := by decide +kernel
theorem dX9_init_49 : decode cX9_init 49 = .ok (.putfield 27, 3) := by decide +kernel
theorem dX9_init_52 : decode cX9_init 52 = .ok (.aload_n 0, 1) := by decide +kernel
theorem dX9_init_53 : decode cX9_init 53 = .ok (.bipush 16, 2) := by decide +kernel
theorem dX9_init_55 : decode cX9_init 55 = .ok (.newarray .int, 2) := by decide +kernel
theorem dX9_init_57 : decode cX9_init 57 = .ok (.putfield 30, 3) := by decide +kernel
theorem dX9_init_60 : decode cX9_init 60 = .ok (.aload_n 0, 1) := by decide +kernel
theorem dX9_init_61 : decode cX9_init 61 = .ok (.bipush 16, 2) := by decide +kernel
theorem dX9_init_63 : decode cX9_init 63 = .ok (.newarray .int, 2) := by decide +kernel
theorem dX9_init_65 : decode cX9_init 65 = .ok (.putfield 33, 3) := by decide +kernel
theorem dX9_init_68 : decode cX9_init 68 = .ok (.aload_n 0, 1) := by decide +kernel
theorem dX9_init_69 : decode cX9_init 69 = .ok (.iconst 0, 1) := by decide +kernel
theorem dX9_init_70 : decode cX9_init 70 = .ok (.putfield 36, 3) := by decide +kernel
theorem dX9_init_73 : decode cX9_init 73 = .ok (.aload_n 0, 1) := by decide +kernel
theorem dX9_init_74 : decode cX9_init 74 = .ok (.iconst 0, 1) := by decide +kernel
theorem dX9_init_75 : decode cX9_init 75 = .ok (.putfield 40, 3) := by decide +kernel
theorem dX9_init_78 : decode cX9_init 78 = .ok (.aload_n 0, 1) := by decide +kernel
theorem dX9_init_79 : decode cX9_init 79 = .ok (.iconst 1, 1) := by decide +kernel
theorem dX9_init_80 : decode cX9_init 80 = .ok (.putfield 43, 3) := by decide +kernel
theorem dX9_init_83 : decode cX9_init 83 = .ok (.aload_n 0, 1) := by decide +kernel
theorem dX9_init_84 : decode cX9_init 84 = .ok (.sipush 9999, 3) := by decide +kernel
theorem dX9_init_87 : decode cX9_init 87 = .ok (.putfield 46, 3) := by decide +kernel
theorem dX9_init_90 : decode cX9_init 90 = .ok (.aload_n 0, 1) := by decide +kernel
theorem dX9_init_91 : decode cX9_init 91 = .ok (.bipush 10, 2) := by decide +kernel
theorem dX9_init_93 : decode cX9_init 93 = .ok (.putfield 49, 3) := by decide +kernel
theorem dX9_init_96 : decode cX9_init 96 = .ok (.aload_n 0, 1) := by decide +kernel
theorem dX9_init_97 : decode cX9_init 97 = .ok (.bipush 10, 2) := by decide +kernel
theorem dX9_init_99 : decode cX9_init 99 = .ok (.putfield 52, 3) := by decide +kernel
theorem dX9_init_102 : decode cX9_init 102 = .ok (.aload_n 0, 1) := by decide +kernel
theorem dX9_init_103 : decode cX9_init 103 = .ok (.iconst 0, 1) := by decide +kernel
theorem dX9_init_104 : decode cX9_init 104 = .ok (.putfield 55, 3) := by decide +kernel
theorem dX9_init_107 : decode cX9_init 107 = .ok (.return_, 1) := by decide +kernel
theorem dX9_clear_0 : decode cX9_clear 0 = .ok (.aload_n 0, 1) := by decide +kernel
theorem dX9_clear_1 : decode cX9_clear 1 = .ok (.getfield 18, 3) := by decide +kernel
theorem dX9_clear_4 : decode cX9_clear 4 = .ok (.iconst 0, 1) := by decide +kernel
theorem dX9_clear_5 : decode cX9_clear 5 = .ok (.invokestatic 58, 3) := by decide +kernel
theorem dX9_clear_8 : decode cX9_clear 8 = .ok (.aload_n 0, 1) := by decide +kernel
theorem dX9_clear_9 : decode cX9_clear 9 = .ok (.getfield 21, 3) := by decide +kernel
theorem dX9_clear_12 : decode cX9_clear 12 = .ok (.iconst 0, 1) := by decide +kernel
theorem dX9_clear_13 : decode cX9_clear 13 = .ok (.invokestatic 58, 3) := by decide +kernel
theorem dX9_clear_16 : decode cX9_clear 16 = .ok (.aload_n 0, 1) := by decide +kernel
theorem dX9_clear_17 : decode cX9_clear 17 = .ok (.getfield 33, 3) := by decide +kernel
theorem dX9_clear_20 : decode cX9_clear 20 = .ok (.iconst 0, 1) := by decide +kernel
theorem dX9_clear_21 : decode cX9_clear 21 = .ok (.invokestatic 58, 3) := by decide +kernel
theorem dX9_clear_24 : decode cX9_clear 24 = .ok (.aload_n 0, 1) := by decide +kernel
theorem dX9_clear_25 : decode cX9_clear 25 = .ok (.iconst 0, 1) := by decide +kernel
theorem dX9_clear_26 : decode cX9_clear 26 = .ok (.putfield 36, 3) := by decide +kernel
theorem dX9_clear_29 : decode cX9_clear 29 = .ok (.aload_n 0, 1) := by decide +kernel
theorem dX9_clear_30 : decode cX9_clear 30 = .ok (.iconst 0, 1) := by decide +kernel
theorem dX9_clear_31 : decode cX9_clear 31 = .ok (.putfield 40, 3) := by decide +kernel
theorem dX9_clear_34 : decode cX9_clear 34 = .ok (.aload_n 0, 1) := by decide +kernel
theorem dX9_clear_35 : decode cX9_clear 35 = .ok (.iconst 1, 1) := by decide +kernel
theorem dX9_clear_36 : decode cX9_clear 36 = .ok (.putfield 43, 3) := by decide +kernel
theorem dX9_clear_39 : decode cX9_clear 39 = .ok (.aload_n 0, 1) := by decide +kernel
theorem dX9_clear_40 : decode cX9_clear 40 = .ok (.sipush 9999, 3) := by decide +kernel
theorem dX9_clear_43 : decode cX9_clear 43 = .ok (.putfield 46, 3) := by decide +kernel
theorem dX9_clear_46 : decode cX9_clear 46 = .ok (.aload_n 0, 1) := by decide +kernel
theorem dX9_clear_47 : decode cX9_clear 47 = .ok (.bipush 10, 2) := by decide +kernel
theorem dX9_clear_49 : decode cX9_clear 49 = .ok (.putfield 49, 3) := by decide +kernel
theorem dX9_clear_52 : decode cX9_clear 52 = .ok (.aload_n 0, 1) := by decide +kernel
theorem dX9_clear_53 : decode cX9_clear 53 = .ok (.bipush 10, 2) := by decide +kernel
theorem dX9_clear_55 : decode cX9_clear 55 = .ok (.putfield 52, 3) := by decide +kernel
theorem dX9_clear_58 : decode cX9_clear 58 = .ok (.aload_n 0, 1) := by decide +kernel
theorem dX9_clear_59 : decode cX9_clear 59 = .ok (.iconst 0, 1) := by decide +kernel
theorem dX9_clear_60 : decode cX9_clear 60 = .ok (.putfield 55, 3) := by decide +kernel
theorem dX9_clear_63 : decode cX9_clear 63 = .ok (.return_, 1) := by decide +kernel
theorem dX9_copyFrom_0 : decode cX9_copyFrom 0 = .ok (.aload_n 1, 1) := by decide +kernel
theorem dX9_copyFrom_1 : decode cX9_copyFrom 1 = .ok (.getfield 9, 3) := by decide +kernel
theorem dX9_copyFrom_4 : decode cX9_copyFrom 4 = .ok (.iconst 0, 1) := by decide +kernel
theorem dX9_copyFrom_5 : decode cX9_copyFrom 5 = .ok (.aload_n 0, 1) := by decide +kernel
theorem dX9_copyFrom_6 : decode cX9_copyFrom 6 = .ok (.getfield 9, 3) := by decide +kernel
theorem dX9_copyFrom_9 : decode cX9_copyFrom 9 = .ok (.iconst 0, 1) := by decide +kernel
theorem dX9_copyFrom_10 : decode cX9_copyFrom 10 = .ok (.aload_n 0, 1) := by decide +kernel
theorem dX9_copyFrom_11 : decode cX9_copyFrom 11 = .ok (.getfield 9, 3) := by decide +kernel
theorem dX9_copyFrom_14 : decode cX9_copyFrom 14 = .ok (.arraylength, 1) := by decide +kernel
theorem dX9_copyFrom_15 : decode cX9_copyFrom 15 = .ok (.invokestatic 64, 3) := by decide +kernel
theorem dX9_copyFrom_18 : decode cX9_copyFrom 18 = .ok (.aload_n 1, 1) := by decide +kernel
theorem dX9_copyFrom_19 : decode cX9_copyFrom 19 = .ok (.getfield 15, 3) := by decide +kernel
theorem dX9_copyFrom_22 : decode cX9_copyFrom 22 = .ok (.iconst 0, 1) := by decide +kernel
theorem dX9_copyFrom_23 : decode cX9_copyFrom 23 = .ok (.aload_n 0, 1) := by decide +kernel
theorem dX9_copyFrom_24 : decode cX9_copyFrom 24 = .ok (.getfield 15, 3) := by decide +kernel
theorem dX9_copyFrom_27 : decode cX9_copyFrom 27 = .ok (.iconst 0, 1) := by decide +kernel
theorem dX9_copyFrom_28 : decode cX9_copyFrom 28 = .ok (.bipush 12, 2) := by decide +kernel
theorem dX9_copyFrom_30 : decode cX9_copyFrom 30 = .ok (.invokestatic 64, 3) := by decide +kernel
theorem dX9_copyFrom_33 : decode cX9_copyFrom 33 = .ok (.aload_n 1, 1) := by decide +kernel
theorem dX9_copyFrom_34 : decode cX9_copyFrom 34 = .ok (.getfield 18, 3) := by decide +kernel
theorem dX9_copyFrom_37 : decode cX9_copyFrom 37 = .ok (.iconst 0, 1) := by decide +kernel
theorem dX9_copyFrom_38 : decode cX9_copyFrom 38 = .ok (.aload_n 0, 1) := by decide +kernel
theorem dX9_copyFrom_39 : decode cX9_copyFrom 39 = .ok (.getfield 18, 3) := by decide +kernel
theorem dX9_copyFrom_42 : decode cX9_copyFrom 42 = .ok (.iconst 0, 1) := by decide +kernel
theorem dX9_copyFrom_43 : decode cX9_copyFrom 43 = .ok (.bipush 12, 2) := by decide +kernel
theorem dX9_copyFrom_45 : decode cX9_copyFrom 45 = .ok (.invokestatic 64, 3) := by decide +kernel
theorem dX9_copyFrom_48 : decode cX9_copyFrom 48 = .ok (.aload_n 1, 1) := by decide +kernel
theorem dX9_copyFrom_49 : decode cX9_copyFrom 49 = .ok (.getfield 21, 3) := by decide +kernel
theorem dX9_copyFrom_52 : decode cX9_copyFrom 52 = .ok (.iconst 0, 1) := by decide +kernel
theorem dX9_copyFrom_53 : decode cX9_copyFrom 53 = .ok (.aload_n 0, 1) := by decide +kernel
theorem dX9_copyFrom_54 : decode cX9_copyFrom 54 = .ok (.getfield 21, 3) := by decide +kernel
theorem dX9_copyFrom_57 : decode cX9_copyFrom 57 = .ok (.iconst 0, 1) := by decide +kernel
theorem dX9_copyFrom_58 : decode cX9_copyFrom 58 = .ok (.aload_n 0, 1) := by decide +kernel
theorem dX9_copyFrom_59 : decode cX9_copyFrom 59 = .ok (.getfield 21, 3) := by decide +kernel
theorem dX9_copyFrom_62 : decode cX9_copyFrom 62 = .ok (.arraylength, 1) := by decide +kernel
theorem dX9_copyFrom_63 : decode cX9_copyFrom 63 = .ok (.invokestatic 64, 3) := by decide +kernel
theorem dX9_copyFrom_66 : decode cX9_copyFrom 66 = .ok (.aload_n 1, 1) := by decide +kernel
theorem dX9_copyFrom_67 : decode cX9_copyFrom 67 = .ok (.getfield 24, 3) := by decide +kernel
theorem dX9_copyFrom_70 : decode cX9_copyFrom 70 = .ok (.iconst 0, 1) := by decide +kernel
theorem dX9_copyFrom_71 : decode cX9_copyFrom 71 = .ok (.aload_n 0, 1) := by decide +kernel
theorem dX9_copyFrom_72 : decode cX9_copyFrom 72 = .ok (.getfield 24, 3) := by decide +kernel
theorem dX9_copyFrom_75 : decode cX9_copyFrom 75 = .ok (.iconst 0, 1) := by decide +kernel
theorem dX9_copyFrom_76 : decode cX9_copyFrom 76 = .ok (.bipush 16, 2) := by decide +kernel
theorem dX9_copyFrom_78 : decode cX9_copyFrom 78 = .ok (.invokestatic 64, 3) := by decide +kernel
theorem dX9_copyFrom_81 : decode cX9_copyFrom 81 = .ok (.aload_n 1, 1) := by decide +kernel
theorem dX9_copyFrom_82 : decode cX9_copyFrom 82 = .ok (.getfield 27, 3) := by decide +kernel
theorem dX9_copyFrom_85 : decode cX9_copyFrom 85 = .ok (.iconst 0, 1) := by decide +kernel
theorem dX9_copyFrom_86 : decode cX9_copyFrom 86 = .ok (.aload_n 0, 1) := by decide +kernel
theorem dX9_copyFrom_87 : decode cX9_copyFrom 87 = .ok (.getfield 27, 3) := by decide +kernel
theorem dX9_copyFrom_90 : decode cX9_copyFrom 90 = .ok (.iconst 0, 1) := by decide +kernel
theorem dX9_copyFrom_91 : decode cX9_copyFrom 91 = .ok (.bipush 16, 2) := by decide +kernel
theorem dX9_copyFrom_93 : decode cX9_copyFrom 93 = .ok (.invokestatic 64, 3) := by decide +kernel
theorem dX9_copyFrom_96 : decode cX9_copyFrom 96 = .ok (.aload_n 1, 1) := by decide +kernel
theorem dX9_copyFrom_97 : decode cX9_copyFrom 97 = .ok (.getfield 30, 3) := by decide +kernel
theorem dX9_copyFrom_100 : decode cX9_copyFrom 100 = .ok (.iconst 0, 1) := by decide +kernel
theorem dX9_copyFrom_101 : decode cX9_copyFrom 101 = .ok (.aload_n 0, 1) := by decide +kernel
theorem dX9_copyFrom_102 : decode cX9_copyFrom 102 = .ok (.getfield 30, 3) := by decide +kernel
theorem dX9_copyFrom_105 : decode cX9_copyFrom 105 = .ok (.iconst 0, 1) := by decide +kernel
theorem dX9_copyFrom_106 : decode cX9_copyFrom 106 = .ok (.bipush 16, 2) := by decide +kernel
theorem dX9_copyFrom_108 : decode cX9_copyFrom 108 = .ok (.invokestatic 64, 3) := by decide +kernel
theorem dX9_copyFrom_111 : decode cX9_copyFrom 111 = .ok (.aload_n 1, 1) := by decide +kernel
theorem dX9_copyFrom_112 : decode cX9_copyFrom 112 = .ok (.getfield 33, 3) := by decide +kernel
theorem dX9_copyFrom_115 : decode cX9_copyFrom 115 = .ok (.iconst 0, 1) := by decide +kernel
theorem dX9_copyFrom_116 : decode cX9_copyFrom 116 = .ok (.aload_n 0, 1) := by decide +kernel
theorem dX9_copyFrom_117 : decode cX9_copyFrom 117 = .ok (.getfield 33, 3) := by decide +kernel
theorem dX9_copyFrom_120 : decode cX9_copyFrom 120 = .ok (.iconst 0, 1) := by decide +kernel
theorem dX9_copyFrom_121 : decode cX9_copyFrom 121 = .ok (.bipush 16, 2) := by decide +kernel
theorem dX9_copyFrom_123 : decode cX9_copyFrom 123 = .ok (.invokestatic 64, 3) := by decide +kernel
theorem dX9_copyFrom_126 : decode cX9_copyFrom 126 = .ok (.aload_n 0, 1) := by decide +kernel
theorem dX9_copyFrom_127 : decode cX9_copyFrom 127 = .ok (.aload_n 1, 1) := by decide +kernel
theorem dX9_copyFrom_128 : decode cX9_copyFrom 128 = .ok (.getfield 36, 3) := by decide +kernel
theorem dX9_copyFrom_131 : decode cX9_copyFrom 131 = .ok (.putfield 36, 3) := by decide +kernel
theorem dX9_copyFrom_134 : decode cX9_copyFrom 134 = .ok (.aload_n 0, 1) := by decide +kernel
theorem dX9_copyFrom_135 : decode cX9_copyFrom 135 = .ok (.aload_n 1, 1) := by decide +kernel
theorem dX9_copyFrom_136 : decode cX9_copyFrom 136 = .ok (.getfield 40, 3) := by decide +kernel
theorem dX9_copyFrom_139 : decode cX9_copyFrom 139 = .ok (.putfield 40, 3) := by decide +kernel
theorem dX9_copyFrom_142 : decode cX9_copyFrom 142 = .ok (.aload_n 0, 1) := by decide +kernel
theorem dX9_copyFrom_143 : decode cX9_copyFrom 143 = .ok (.aload_n 1, 1) := by decide +kernel
theorem dX9_copyFrom_144 : decode cX9_copyFrom 144 = .ok (.getfield 43, 3) := by decide +kernel
theorem dX9_copyFrom_147 : decode cX9_copyFrom 147 = .ok (.putfield 43, 3) := by decide +kernel
theorem dX9_copyFrom_150 : decode cX9_copyFrom 150 = .ok (.aload_n 0, 1) := by decide +kernel
theorem dX9_copyFrom_151 : decode cX9_copyFrom 151 = .ok (.aload_n 1, 1) := by decide +kernel
theorem dX9_copyFrom_152 : decode cX9_copyFrom 152 = .ok (.getfield 46, 3) := by decide +kernel
theorem dX9_copyFrom_155 : decode cX9_copyFrom 155 = .ok (.putfield 46, 3) := by decide +kernel
theorem dX9_copyFrom_158 : decode cX9_copyFrom 158 = .ok (.aload_n 0, 1) := by decide +kernel
theorem dX9_copyFrom_159 : decode cX9_copyFrom 159 = .ok (.aload_n 1, 1) := by decide +kernel
theorem dX9_copyFrom_160 : decode cX9_copyFrom 160 = .ok (.getfield 49, 3) := by decide +kernel
theorem dX9_copyFrom_163 : decode cX9_copyFrom 163 = .ok (.putfield 49, 3) := by decide +kernel
theorem dX9_copyFrom_166 : decode cX9_copyFrom 166 = .ok (.aload_n 0, 1) := by decide +kernel
theorem dX9_copyFrom_167 : decode cX9_copyFrom 167 = .ok (.aload_n 1, 1) := by decide +kernel
theorem dX9_copyFrom_168 : decode cX9_copyFrom 168 = .ok (.getfield 52, 3) := by decide +kernel
theorem dX9_copyFrom_171 : decode cX9_copyFrom 171 = .ok (.putfield 52, 3) := by decide +kernel
theorem dX9_copyFrom_174 : decode cX9_copyFrom 174 = .ok (.aload_n 0, 1) := by decide +kernel
theorem dX9_copyFrom_175 : decode cX9_copyFrom 175 = .ok (.aload_n 1, 1) := by decide +kernel
theorem dX9_copyFrom_176 : decode cX9_copyFrom 176 = .ok (.getfield 55, 3) := by decide +kernel
theorem dX9_copyFrom_179 : decode cX9_copyFrom 179 = .ok (.putfield 55, 3) := by decide +kernel
theorem dX9_copyFrom_182 : decode cX9_copyFrom 182 = .ok (.return_, 1) := by decide +kernel
theorem dX9_plainTold_0 : decode cX9_plainTold 0 = .ok (.iload_n 1, 1) := by decide +kernel
theorem dX9_plainTold_1 : decode cX9_plainTold 1 = .ok (.tableswitch 78 0 6 #[43, 48, 53, 58, 63, 68, 73], 43) := by decide +kernel
theorem dX9_plainTold_44 : decode cX9_plainTold 44 = .ok (.aload_n 0, 1) := by decide +kernel
theorem dX9_plainTold_45 : decode cX9_plainTold 45 = .ok (.getfield 36, 3) := by decide +kernel
theorem dX9_plainTold_48 : decode cX9_plainTold 48 = .ok (.ireturn, 1) := by decide +kernel
theorem dX9_plainTold_49 : decode cX9_plainTold 49 = .ok (.aload_n 0, 1) := by decide +kernel
theorem dX9_plainTold_50 : decode cX9_plainTold 50 = .ok (.getfield 40, 3) := by decide +kernel
theorem dX9_plainTold_53 : decode cX9_plainTold 53 = .ok (.ireturn, 1) := by decide +kernel
theorem dX9_plainTold_54 : decode cX9_plainTold 54 = .ok (.aload_n 0, 1) := by decide +kernel
theorem dX9_plainTold_55 : decode cX9_plainTold 55 = .ok (.getfield 43, 3) := by decide +kernel
theorem dX9_plainTold_58 : decode cX9_plainTold 58 = .ok (.ireturn, 1) := by decide +kernel
theorem dX9_plainTold_59 : decode cX9_plainTold 59 = .ok (.aload_n 0, 1) := by decide +kernel
theorem dX9_plainTold_60 : decode cX9_plainTold 60 = .ok (.getfield 46, 3) := by decide +kernel
theorem dX9_plainTold_63 : decode cX9_plainTold 63 = .ok (.ireturn, 1) := by decide +kernel
theorem dX9_plainTold_64 : decode cX9_plainTold 64 = .ok (.aload_n 0, 1) := by decide +kernel
theorem dX9_plainTold_65 : decode cX9_plainTold 65 = .ok (.getfield 49, 3) := by decide +kernel
theorem dX9_plainTold_68 : decode cX9_plainTold 68 = .ok (.ireturn, 1) := by decide +kernel
theorem dX9_plainTold_69 : decode cX9_plainTold 69 = .ok (.aload_n 0, 1) := by decide +kernel
theorem dX9_plainTold_70 : decode cX9_plainTold 70 = .ok (.getfield 52, 3) := by decide +kernel
theorem dX9_plainTold_73 : decode cX9_plainTold 73 = .ok (.ireturn, 1) := by decide +kernel
theorem dX9_plainTold_74 : decode cX9_plainTold 74 = .ok (.aload_n 0, 1) := by decide +kernel
theorem dX9_plainTold_75 : decode cX9_plainTold 75 = .ok (.getfield 55, 3) := by decide +kernel
theorem dX9_plainTold_78 : decode cX9_plainTold 78 = .ok (.ireturn, 1) := by decide +kernel
theorem dX9_plainTold_79 : decode cX9_plainTold 79 = .ok (.iconst (-1), 1) := by decide +kernel
theorem dX9_plainTold_80 : decode cX9_plainTold 80 = .ok (.ireturn, 1) := by decide +kernel
theorem dX9_streetTold_0 : decode cX9_streetTold 0 = .ok (.iload_n 2, 1) := by decide +kernel
theorem dX9_streetTold_1 : decode cX9_streetTold 1 = .ok (.tableswitch 48 0 2 #[27, 34, 41], 27) := by decide +kernel
theorem dX9_streetTold_28 : decode cX9_streetTold 28 = .ok (.aload_n 0, 1) := by decide +kernel
theorem dX9_streetTold_29 : decode cX9_streetTold 29 = .ok (.getfield 24, 3) := by decide +kernel
theorem dX9_streetTold_32 : decode cX9_streetTold 32 = .ok (.iload_n 1, 1) := by decide +kernel
theorem dX9_streetTold_33 : decode cX9_streetTold 33 = .ok (.iaload, 1) := by decide +kernel
theorem dX9_streetTold_34 : decode cX9_streetTold 34 = .ok (.ireturn, 1) := by decide +kernel
theorem dX9_streetTold_35 : decode cX9_streetTold 35 = .ok (.aload_n 0, 1) := by decide +kernel
theorem dX9_streetTold_36 : decode cX9_streetTold 36 = .ok (.getfield 27, 3) := by decide +kernel
theorem dX9_streetTold_39 : decode cX9_streetTold 39 = .ok (.iload_n 1, 1) := by decide +kernel
theorem dX9_streetTold_40 : decode cX9_streetTold 40 = .ok (.iaload, 1) := by decide +kernel
theorem dX9_streetTold_41 : decode cX9_streetTold 41 = .ok (.ireturn, 1) := by decide +kernel
theorem dX9_streetTold_42 : decode cX9_streetTold 42 = .ok (.aload_n 0, 1) := by decide +kernel
theorem dX9_streetTold_43 : decode cX9_streetTold 43 = .ok (.getfield 30, 3) := by decide +kernel
theorem dX9_streetTold_46 : decode cX9_streetTold 46 = .ok (.iload_n 1, 1) := by decide +kernel
theorem dX9_streetTold_47 : decode cX9_streetTold 47 = .ok (.iaload, 1) := by decide +kernel
theorem dX9_streetTold_48 : decode cX9_streetTold 48 = .ok (.ireturn, 1) := by decide +kernel
theorem dX9_streetTold_49 : decode cX9_streetTold 49 = .ok (.aload_n 0, 1) := by decide +kernel
theorem dX9_streetTold_50 : decode cX9_streetTold 50 = .ok (.getfield 33, 3) := by decide +kernel
theorem dX9_streetTold_53 : decode cX9_streetTold 53 = .ok (.iload_n 1, 1) := by decide +kernel
theorem dX9_streetTold_54 : decode cX9_streetTold 54 = .ok (.iaload, 1) := by decide +kernel
theorem dX9_streetTold_55 : decode cX9_streetTold 55 = .ok (.ireturn, 1) := by decide +kernel
theorem dX9_isCorner_0 : decode cX9_isCorner 0 = .ok (.iload_n 1, 1) := by decide +kernel
theorem dX9_isCorner_1 : decode cX9_isCorner 1 = .ok (.ifCond .lt 15, 3) := by decide +kernel
theorem dX9_isCorner_4 : decode cX9_isCorner 4 = .ok (.iload_n 1, 1) := by decide +kernel
theorem dX9_isCorner_5 : decode cX9_isCorner 5 = .ok (.aload_n 0, 1) := by decide +kernel
theorem dX9_isCorner_6 : decode cX9_isCorner 6 = .ok (.getfield 36, 3) := by decide +kernel
theorem dX9_isCorner_9 : decode cX9_isCorner 9 = .ok (.if_icmp .ge 7, 3) := by decide +kernel
theorem dX9_isCorner_12 : decode cX9_isCorner 12 = .ok (.iconst 1, 1) := by decide +kernel
theorem dX9_isCorner_13 : decode cX9_isCorner 13 = .ok (.goto 4, 3) := by decide +kernel
theorem dX9_isCorner_16 : decode cX9_isCorner 16 = .ok (.iconst 0, 1) := by decide +kernel
theorem dX9_isCorner_17 : decode cX9_isCorner 17 = .ok (.ireturn, 1) := by decide +kernel
theorem dX9_isSpot_0 : decode cX9_isSpot 0 = .ok (.iload_n 1, 1) := by decide +kernel
theorem dX9_isSpot_1 : decode cX9_isSpot 1 = .ok (.bipush 100, 2) := by decide +kernel
theorem dX9_isSpot_3 : decode cX9_isSpot 3 = .ok (.if_icmp .ge 9, 3) := by decide +kernel
theorem dX9_isSpot_6 : decode cX9_isSpot 6 = .ok (.aload_n 0, 1) := by decide +kernel
theorem dX9_isSpot_7 : decode cX9_isSpot 7 = .ok (.iload_n 1, 1) := by decide +kernel
theorem dX9_isSpot_8 : decode cX9_isSpot 8 = .ok (.invokevirtual 70, 3) := by decide +kernel
theorem dX9_isSpot_11 : decode cX9_isSpot 11 = .ok (.ireturn, 1) := by decide +kernel
theorem dX9_isSpot_12 : decode cX9_isSpot 12 = .ok (.iload_n 1, 1) := by decide +kernel
theorem dX9_isSpot_13 : decode cX9_isSpot 13 = .ok (.invokestatic 74, 3) := by decide +kernel
theorem dX9_isSpot_16 : decode cX9_isSpot 16 = .ok (.istore_n 2, 1) := by decide +kernel
theorem dX9_isSpot_17 : decode cX9_isSpot 17 = .ok (.iload_n 2, 1) := by decide +kernel
theorem dX9_isSpot_18 : decode cX9_isSpot 18 = .ok (.aload_n 0, 1) := by decide +kernel
theorem dX9_isSpot_19 : decode cX9_isSpot 19 = .ok (.getfield 40, 3) := by decide +kernel
theorem dX9_isSpot_22 : decode cX9_isSpot 22 = .ok (.if_icmp .ge 27, 3) := by decide +kernel
theorem dX9_isSpot_25 : decode cX9_isSpot 25 = .ok (.iload_n 1, 1) := by decide +kernel
theorem dX9_isSpot_26 : decode cX9_isSpot 26 = .ok (.invokestatic 78, 3) := by decide +kernel
theorem dX9_isSpot_29 : decode cX9_isSpot 29 = .ok (.ifCond .le 20, 3) := by decide +kernel
theorem dX9_isSpot_32 : decode cX9_isSpot 32 = .ok (.iload_n 1, 1) := by decide +kernel
theorem dX9_isSpot_33 : decode cX9_isSpot 33 = .ok (.invokestatic 78, 3) := by decide +kernel
theorem dX9_isSpot_36 : decode cX9_isSpot 36 = .ok (.aload_n 0, 1) := by decide +kernel
theorem dX9_isSpot_37 : decode cX9_isSpot 37 = .ok (.getfield 30, 3) := by decide +kernel
theorem dX9_isSpot_40 : decode cX9_isSpot 40 = .ok (.iload_n 2, 1) := by decide +kernel
theorem dX9_isSpot_41 : decode cX9_isSpot 41 = .ok (.iaload, 1) := by decide +kernel
theorem dX9_isSpot_42 : decode cX9_isSpot 42 = .ok (.if_icmp .ge 7, 3) := by decide +kernel
theorem dX9_isSpot_45 : decode cX9_isSpot 45 = .ok (.iconst 1, 1) := by decide +kernel
theorem dX9_isSpot_46 : decode cX9_isSpot 46 = .ok (.goto 4, 3) := by decide +kernel
theorem dX9_isSpot_49 : decode cX9_isSpot 49 = .ok (.iconst 0, 1) := by decide +kernel
theorem dX9_isSpot_50 : decode cX9_isSpot 50 = .ok (.ireturn, 1) := by decide +kernel
theorem dX9_hasStreet_0 : decode cX9_hasStreet 0 = .ok (.iconst 0, 1) := by decide +kernel
theorem dX9_hasStreet_1 : decode cX9_hasStreet 1 = .ok (.istore_n 3, 1) := by decide +kernel
theorem dX9_hasStreet_2 : decode cX9_hasStreet 2 = .ok (.iload_n 3, 1) := by decide +kernel
theorem dX9_hasStreet_3 : decode cX9_hasStreet 3 = .ok (.aload_n 0, 1) := by decide +kernel
theorem dX9_hasStreet_4 : decode cX9_hasStreet 4 = .ok (.getfield 40, 3) := by decide +kernel
theorem dX9_hasStreet_7 : decode cX9_hasStreet 7 = .ok (.if_icmp .ge 21, 3) := by decide +kernel
theorem dX9_hasStreet_10 : decode cX9_hasStreet 10 = .ok (.aload_n 0, 1) := by decide +kernel
theorem dX9_hasStreet_11 : decode cX9_hasStreet 11 = .ok (.iload_n 3, 1) := by decide +kernel
theorem dX9_hasStreet_12 : decode cX9_hasStreet 12 = .ok (.iload_n 1, 1) := by decide +kernel
theorem dX9_hasStreet_13 : decode cX9_hasStreet 13 = .ok (.iload_n 2, 1) := by decide +kernel
theorem dX9_hasStreet_14 : decode cX9_hasStreet 14 = .ok (.invokevirtual 81, 3) := by decide +kernel
theorem dX9_hasStreet_17 : decode cX9_hasStreet 17 = .ok (.ifCond .eq 5, 3) := by decide +kernel
theorem dX9_hasStreet_20 : decode cX9_hasStreet 20 = .ok (.iconst 1, 1) := by decide +kernel
theorem dX9_hasStreet_21 : decode cX9_hasStreet 21 = .ok (.ireturn, 1) := by decide +kernel
theorem dX9_hasStreet_22 : decode cX9_hasStreet 22 = .ok (.iinc 3 1, 3) := by decide +kernel
theorem dX9_hasStreet_25 : decode cX9_hasStreet 25 = .ok (.goto (-23), 3) := by decide +kernel
theorem dX9_hasStreet_28 : decode cX9_hasStreet 28 = .ok (.iconst 0, 1) := by decide +kernel
theorem dX9_hasStreet_29 : decode cX9_hasStreet 29 = .ok (.ireturn, 1) := by decide +kernel
theorem dX9_joins_0 : decode cX9_joins 0 = .ok (.aload_n 0, 1) := by decide +kernel
theorem dX9_joins_1 : decode cX9_joins 1 = .ok (.getfield 24, 3) := by decide +kernel
theorem dX9_joins_4 : decode cX9_joins 4 = .ok (.iload_n 1, 1) := by decide +kernel
theorem dX9_joins_5 : decode cX9_joins 5 = .ok (.iaload, 1) := by decide +kernel
theorem dX9_joins_6 : decode cX9_joins 6 = .ok (.iload_n 2, 1) := by decide +kernel
theorem dX9_joins_7 : decode cX9_joins 7 = .ok (.if_icmp .ne 13, 3) := by decide +kernel
theorem dX9_joins_10 : decode cX9_joins 10 = .ok (.aload_n 0, 1) := by decide +kernel
theorem dX9_joins_11 : decode cX9_joins 11 = .ok (.getfield 27, 3) := by decide +kernel
theorem dX9_joins_14 : decode cX9_joins 14 = .ok (.iload_n 1, 1) := by decide +kernel
theorem dX9_joins_15 : decode cX9_joins 15 = .ok (.iaload, 1) := by decide +kernel
theorem dX9_joins_16 : decode cX9_joins 16 = .ok (.iload_n 3, 1) := by decide +kernel
theorem dX9_joins_17 : decode cX9_joins 17 = .ok (.if_icmp .eq 23, 3) := by decide +kernel
theorem dX9_joins_20 : decode cX9_joins 20 = .ok (.aload_n 0, 1) := by decide +kernel
theorem dX9_joins_21 : decode cX9_joins 21 = .ok (.getfield 24, 3) := by decide +kernel
theorem dX9_joins_24 : decode cX9_joins 24 = .ok (.iload_n 1, 1) := by decide +kernel
theorem dX9_joins_25 : decode cX9_joins 25 = .ok (.iaload, 1) := by decide +kernel
theorem dX9_joins_26 : decode cX9_joins 26 = .ok (.iload_n 3, 1) := by decide +kernel
theorem dX9_joins_27 : decode cX9_joins 27 = .ok (.if_icmp .ne 17, 3) := by decide +kernel
theorem dX9_joins_30 : decode cX9_joins 30 = .ok (.aload_n 0, 1) := by decide +kernel
theorem dX9_joins_31 : decode cX9_joins 31 = .ok (.getfield 27, 3) := by decide +kernel
theorem dX9_joins_34 : decode cX9_joins 34 = .ok (.iload_n 1, 1) := by decide +kernel
theorem dX9_joins_35 : decode cX9_joins 35 = .ok (.iaload, 1) := by decide +kernel
theorem dX9_joins_36 : decode cX9_joins 36 = .ok (.iload_n 2, 1) := by decide +kernel
theorem dX9_joins_37 : decode cX9_joins 37 = .ok (.if_icmp .ne 7, 3) := by decide +kernel
theorem dX9_joins_40 : decode cX9_joins 40 = .ok (.iconst 1, 1) := by decide +kernel
theorem dX9_joins_41 : decode cX9_joins 41 = .ok (.goto 4, 3) := by decide +kernel
theorem dX9_joins_44 : decode cX9_joins 44 = .ok (.iconst 0, 1) := by decide +kernel
theorem dX9_joins_45 : decode cX9_joins 45 = .ok (.ireturn, 1) := by decide +kernel
theorem dX9_spotOn_0 : decode cX9_spotOn 0 = .ok (.bipush 100, 2) := by decide +kernel
theorem dX9_spotOn_2 : decode cX9_spotOn 2 = .ok (.bipush 20, 2) := by decide +kernel
theorem dX9_spotOn_4 : decode cX9_spotOn 4 = .ok (.iload_n 0, 1) := by decide +kernel
theorem dX9_spotOn_5 : decode cX9_spotOn 5 = .ok (.imul, 1) := by decide +kernel
theorem dX9_spotOn_6 : decode cX9_spotOn 6 = .ok (.iadd, 1) := by decide +kernel
theorem dX9_spotOn_7 : decode cX9_spotOn 7 = .ok (.iload_n 1, 1) := by decide +kernel
theorem dX9_spotOn_8 : decode cX9_spotOn 8 = .ok (.iadd, 1) := by decide +kernel
theorem dX9_spotOn_9 : decode cX9_spotOn 9 = .ok (.ireturn, 1) := by decide +kernel
theorem dX9_streetOf_0 : decode cX9_streetOf 0 = .ok (.iload_n 0, 1) := by decide +kernel
theorem dX9_streetOf_1 : decode cX9_streetOf 1 = .ok (.bipush 100, 2) := by decide +kernel
theorem dX9_streetOf_3 : decode cX9_streetOf 3 = .ok (.isub, 1) := by decide +kernel
theorem dX9_streetOf_4 : decode cX9_streetOf 4 = .ok (.bipush 20, 2) := by decide +kernel
theorem dX9_streetOf_6 : decode cX9_streetOf 6 = .ok (.idiv, 1) := by decide +kernel
theorem dX9_streetOf_7 : decode cX9_streetOf 7 = .ok (.ireturn, 1) := by decide +kernel
theorem dX9_placeOf_0 : decode cX9_placeOf 0 = .ok (.iload_n 0, 1) := by decide +kernel
theorem dX9_placeOf_1 : decode cX9_placeOf 1 = .ok (.bipush 100, 2) := by decide +kernel
theorem dX9_placeOf_3 : decode cX9_placeOf 3 = .ok (.isub, 1) := by decide +kernel
theorem dX9_placeOf_4 : decode cX9_placeOf 4 = .ok (.bipush 20, 2) := by decide +kernel
theorem dX9_placeOf_6 : decode cX9_placeOf 6 = .ok (.irem, 1) := by decide +kernel
theorem dX9_placeOf_7 : decode cX9_placeOf 7 = .ok (.ireturn, 1) := by decide +kernel
theorem dX7_init_0 : decode cX7_init 0 = .ok (.aload_n 0, 1) := by decide +kernel
theorem dX7_init_1 : decode cX7_init 1 = .ok (.invokespecial 3, 3) := by decide +kernel
theorem dX7_init_4 : decode cX7_init 4 = .ok (.aload_n 0, 1) := by decide +kernel
theorem dX7_init_5 : decode cX7_init 5 = .ok (.sipush 144, 3) := by decide +kernel
theorem dX7_init_8 : decode cX7_init 8 = .ok (.newarray .int, 2) := by decide +kernel
theorem dX7_init_10 : decode cX7_init 10 = .ok (.putfield 9, 3) := by decide +kernel
theorem dX7_init_13 : decode cX7_init 13 = .ok (.aload_n 0, 1) := by decide +kernel
theorem dX7_init_14 : decode cX7_init 14 = .ok (.bipush 16, 2) := by decide +kernel
theorem dX7_init_16 : decode cX7_init 16 = .ok (.newarray .boolean, 2) := by decide +kernel
theorem dX7_init_18 : decode cX7_init 18 = .ok (.putfield 15, 3) := by decide +kernel
theorem dX7_init_21 : decode cX7_init 21 = .ok (.aload_n 0, 1) := by decide +kernel
theorem dX7_init_22 : decode cX7_init 22 = .ok (.bipush 12, 2) := by decide +kernel
theorem dX7_init_24 : decode cX7_init 24 = .ok (.newarray .int, 2) := by decide +kernel
theorem dX7_init_26 : decode cX7_init 26 = .ok (.putfield 19, 3) := by decide +kernel
theorem dX7_init_29 : decode cX7_init 29 = .ok (.aload_n 0, 1) := by decide +kernel
theorem dX7_init_30 : decode cX7_init 30 = .ok (.bipush 12, 2) := by decide +kernel
theorem dX7_init_32 : decode cX7_init 32 = .ok (.newarray .int, 2) := by decide +kernel
theorem dX7_init_34 : decode cX7_init 34 = .ok (.putfield 22, 3) := by decide +kernel
theorem dX7_init_37 : decode cX7_init 37 = .ok (.aload_n 0, 1) := by decide +kernel
theorem dX7_init_38 : decode cX7_init 38 = .ok (.bipush 12, 2) := by decide +kernel
theorem dX7_init_40 : decode cX7_init 40 = .ok (.newarray .int, 2) := by decide +kernel
theorem dX7_init_42 : decode cX7_init 42 = .ok (.putfield 25, 3) := by decide +kernel
theorem dX7_init_45 : decode cX7_init 45 = .ok (.aload_n 0, 1) := by decide +kernel
theorem dX7_init_46 : decode cX7_init 46 = .ok (.iconst 0, 1) := by decide +kernel
theorem dX7_init_47 : decode cX7_init 47 = .ok (.putfield 28, 3) := by decide +kernel
theorem dX7_init_50 : decode cX7_init 50 = .ok (.aload_n 0, 1) := by decide +kernel
theorem dX7_init_51 : decode cX7_init 51 = .ok (.iconst 0, 1) := by decide +kernel
theorem dX7_init_52 : decode cX7_init 52 = .ok (.putfield 32, 3) := by decide +kernel
theorem dX7_init_55 : decode cX7_init 55 = .ok (.aload_n 0, 1) := by decide +kernel
theorem dX7_init_56 : decode cX7_init 56 = .ok (.iconst (-1), 1) := by decide +kernel
theorem dX7_init_57 : decode cX7_init 57 = .ok (.putfield 35, 3) := by decide +kernel
theorem dX7_init_60 : decode cX7_init 60 = .ok (.aload_n 0, 1) := by decide +kernel
theorem dX7_init_61 : decode cX7_init 61 = .ok (.aload_n 1, 1) := by decide +kernel
theorem dX7_init_62 : decode cX7_init 62 = .ok (.putfield 38, 3) := by decide +kernel
theorem dX7_init_65 : decode cX7_init 65 = .ok (.return_, 1) := by decide +kernel
theorem dX7_lay_0 : decode cX7_lay 0 = .ok (.iconst 0, 1) := by decide +kernel
theorem dX7_lay_1 : decode cX7_lay 1 = .ok (.istore_n 3, 1) := by decide +kernel
theorem dX7_lay_2 : decode cX7_lay 2 = .ok (.iload_n 3, 1) := by decide +kernel
theorem dX7_lay_3 : decode cX7_lay 3 = .ok (.bipush 16, 2) := by decide +kernel
theorem dX7_lay_5 : decode cX7_lay 5 = .ok (.if_icmp .ge 16, 3) := by decide +kernel
theorem dX7_lay_8 : decode cX7_lay 8 = .ok (.aload_n 0, 1) := by decide +kernel
theorem dX7_lay_9 : decode cX7_lay 9 = .ok (.getfield 15, 3) := by decide +kernel
theorem dX7_lay_12 : decode cX7_lay 12 = .ok (.iload_n 3, 1) := by decide +kernel
theorem dX7_lay_13 : decode cX7_lay 13 = .ok (.iconst 0, 1) := by decide +kernel
theorem dX7_lay_14 : decode cX7_lay 14 = .ok (.bastore, 1) := by decide +kernel
theorem dX7_lay_15 : decode cX7_lay 15 = .ok (.iinc 3 1, 3) := by decide +kernel
theorem dX7_lay_18 : decode cX7_lay 18 = .ok (.goto (-16), 3) := by decide +kernel
theorem dX7_lay_21 : decode cX7_lay 21 = .ok (.aload_n 0, 1) := by decide +kernel
theorem dX7_lay_22 : decode cX7_lay 22 = .ok (.iconst 0, 1) := by decide +kernel
theorem dX7_lay_23 : decode cX7_lay 23 = .ok (.putfield 28, 3) := by decide +kernel
theorem dX7_lay_26 : decode cX7_lay 26 = .ok (.aload_n 0, 1) := by decide +kernel
theorem dX7_lay_27 : decode cX7_lay 27 = .ok (.iconst 0, 1) := by decide +kernel
theorem dX7_lay_28 : decode cX7_lay 28 = .ok (.putfield 32, 3) := by decide +kernel
theorem dX7_lay_31 : decode cX7_lay 31 = .ok (.aload_n 0, 1) := by decide +kernel
theorem dX7_lay_32 : decode cX7_lay 32 = .ok (.iconst (-1), 1) := by decide +kernel
theorem dX7_lay_33 : decode cX7_lay 33 = .ok (.putfield 35, 3) := by decide +kernel
theorem dX7_lay_36 : decode cX7_lay 36 = .ok (.iload_n 2, 1) := by decide +kernel
theorem dX7_lay_37 : decode cX7_lay 37 = .ok (.ifCond .lt 37, 3) := by decide +kernel
theorem dX7_lay_40 : decode cX7_lay 40 = .ok (.iload_n 2, 1) := by decide +kernel
theorem dX7_lay_41 : decode cX7_lay 41 = .ok (.aload_n 1, 1) := by decide +kernel
theorem dX7_lay_42 : decode cX7_lay 42 = .ok (.getfield 42, 3) := by decide +kernel
theorem dX7_lay_45 : decode cX7_lay 45 = .ok (.if_icmp .ge 29, 3) := by decide +kernel
theorem dX7_lay_48 : decode cX7_lay 48 = .ok (.aload_n 0, 1) := by decide +kernel
theorem dX7_lay_49 : decode cX7_lay 49 = .ok (.aload_n 1, 1) := by decide +kernel
theorem dX7_lay_50 : decode cX7_lay 50 = .ok (.getfield 47, 3) := by decide +kernel
theorem dX7_lay_53 : decode cX7_lay 53 = .ok (.iload_n 2, 1) := by decide +kernel
theorem dX7_lay_54 : decode cX7_lay 54 = .ok (.iaload, 1) := by decide +kernel
theorem dX7_lay_55 : decode cX7_lay 55 = .ok (.putfield 32, 3) := by decide +kernel
theorem dX7_lay_58 : decode cX7_lay 58 = .ok (.aload_n 0, 1) := by decide +kernel
theorem dX7_lay_59 : decode cX7_lay 59 = .ok (.aload_n 1, 1) := by decide +kernel
theorem dX7_lay_60 : decode cX7_lay 60 = .ok (.getfield 49, 3) := by decide +kernel
theorem dX7_lay_63 : decode cX7_lay 63 = .ok (.iload_n 2, 1) := by decide +kernel
theorem dX7_lay_64 : decode cX7_lay 64 = .ok (.iaload, 1) := by decide +kernel
theorem dX7_lay_65 : decode cX7_lay 65 = .ok (.putfield 35, 3) := by decide +kernel
theorem dX7_lay_68 : decode cX7_lay 68 = .ok (.aload_n 0, 1) := by decide +kernel
theorem dX7_lay_69 : decode cX7_lay 69 = .ok (.aload_n 1, 1) := by decide +kernel
theorem dX7_lay_70 : decode cX7_lay 70 = .ok (.iload_n 2, 1) := by decide +kernel
theorem dX7_lay_71 : decode cX7_lay 71 = .ok (.invokevirtual 51, 3) := by decide +kernel
theorem dX7_lay_74 : decode cX7_lay 74 = .ok (.aload_n 0, 1) := by decide +kernel
theorem dX7_lay_75 : decode cX7_lay 75 = .ok (.invokevirtual 55, 3) := by decide +kernel
theorem dX7_lay_78 : decode cX7_lay 78 = .ok (.aload_n 0, 1) := by decide +kernel
theorem dX7_lay_79 : decode cX7_lay 79 = .ok (.invokevirtual 58, 3) := by decide +kernel
theorem dX7_lay_82 : decode cX7_lay 82 = .ok (.return_, 1) := by decide +kernel
theorem dX7_change_0 : decode cX7_change 0 = .ok (.aload_n 1, 1) := by decide +kernel
theorem dX7_change_1 : decode cX7_change 1 = .ok (.iload_n 2, 1) := by decide +kernel
theorem dX7_change_2 : decode cX7_change 2 = .ok (.invokevirtual 61, 3) := by decide +kernel
theorem dX7_change_5 : decode cX7_change 5 = .ok (.istore_n 3, 1) := by decide +kernel
theorem dX7_change_6 : decode cX7_change 6 = .ok (.iconst 0, 1) := by decide +kernel
theorem dX7_change_7 : decode cX7_change 7 = .ok (.istore 4, 2) := by decide +kernel
theorem dX7_change_9 : decode cX7_change 9 = .ok (.iload 4, 2) := by decide +kernel
theorem dX7_change_11 : decode cX7_change 11 = .ok (.aload_n 1, 1) := by decide +kernel
theorem dX7_change_12 : decode cX7_change 12 = .ok (.getfield 65, 3) := by decide +kernel
theorem dX7_change_15 : decode cX7_change 15 = .ok (.iload_n 2, 1) := by decide +kernel
theorem dX7_change_16 : decode cX7_change 16 = .ok (.iaload, 1) := by decide +kernel
theorem dX7_change_17 : decode cX7_change 17 = .ok (.if_icmp .ge 116, 3) := by decide +kernel
theorem dX7_change_20 : decode cX7_change 20 = .ok (.aload_n 1, 1) := by decide +kernel
theorem dX7_change_21 : decode cX7_change 21 = .ok (.getfield 68, 3) := by decide +kernel
theorem dX7_change_24 : decode cX7_change 24 = .ok (.iload_n 3, 1) := by decide +kernel
theorem dX7_change_25 : decode cX7_change 25 = .ok (.iload 4, 2) := by decide +kernel
theorem dX7_change_27 : decode cX7_change 27 = .ok (.iadd, 1) := by decide +kernel
theorem dX7_change_28 : decode cX7_change 28 = .ok (.iaload, 1) := by decide +kernel
theorem dX7_change_29 : decode cX7_change 29 = .ok (.istore 5, 2) := by decide +kernel
theorem dX7_change_31 : decode cX7_change 31 = .ok (.iload 5, 2) := by decide +kernel
theorem dX7_change_33 : decode cX7_change 33 = .ok (.ifCond .ne 28, 3) := by decide +kernel
theorem dX7_change_36 : decode cX7_change 36 = .ok (.aload_n 0, 1) := by decide +kernel
theorem dX7_change_37 : decode cX7_change 37 = .ok (.aload_n 1, 1) := by decide +kernel
theorem dX7_change_38 : decode cX7_change 38 = .ok (.getfield 71, 3) := by decide +kernel
theorem dX7_change_41 : decode cX7_change 41 = .ok (.iload_n 3, 1) := by decide +kernel
theorem dX7_change_42 : decode cX7_change 42 = .ok (.iload 4, 2) := by decide +kernel
theorem dX7_change_44 : decode cX7_change 44 = .ok (.iadd, 1) := by decide +kernel
theorem dX7_change_45 : decode cX7_change 45 = .ok (.iaload, 1) := by decide +kernel
theorem dX7_change_46 : decode cX7_change 46 = .ok (.aload_n 1, 1) := by decide +kernel
theorem dX7_change_47 : decode cX7_change 47 = .ok (.getfield 74, 3) := by decide +kernel
theorem dX7_change_50 : decode cX7_change 50 = .ok (.iload_n 3, 1) := by decide +kernel
theorem dX7_change_51 : decode cX7_change 51 = .ok (.iload 4, 2) := by decide +kernel
theorem dX7_change_53 : decode cX7_change 53 = .ok (.iadd, 1) := by decide +kernel
theorem dX7_change_54 : decode cX7_change 54 = .ok (.iaload, 1) := by decide +kernel
theorem dX7_change_55 : decode cX7_change 55 = .ok (.invokevirtual 77, 3) := by decide +kernel
theorem dX7_change_58 : decode cX7_change 58 = .ok (.goto 69, 3) := by decide +kernel
theorem dX7_change_61 : decode cX7_change 61 = .ok (.aload_n 0, 1) := by decide +kernel
theorem dX7_change_62 : decode cX7_change 62 = .ok (.getfield 28, 3) := by decide +kernel
theorem dX7_change_65 : decode cX7_change 65 = .ok (.bipush 12, 2) := by decide +kernel
theorem dX7_change_67 : decode cX7_change 67 = .ok (.if_icmp .ge 60, 3) := by decide +kernel
theorem dX7_change_70 : decode cX7_change 70 = .ok (.aload_n 0, 1) := by decide +kernel
theorem dX7_change_71 : decode cX7_change 71 = .ok (.getfield 19, 3) := by decide +kernel
theorem dX7_change_74 : decode cX7_change 74 = .ok (.aload_n 0, 1) := by decide +kernel
theorem dX7_change_75 : decode cX7_change 75 = .ok (.getfield 28, 3) := by decide +kernel
theorem dX7_change_78 : decode cX7_change 78 = .ok (.aload_n 1, 1) := by decide +kernel
theorem dX7_change_79 : decode cX7_change 79 = .ok (.getfield 71, 3) := by decide +kernel
theorem dX7_change_82 : decode cX7_change 82 = .ok (.iload_n 3, 1) := by decide +kernel
theorem dX7_change_83 : decode cX7_change 83 = .ok (.iload 4, 2) := by decide +kernel
theorem dX7_change_85 : decode cX7_change 85 = .ok (.iadd, 1) := by decide +kernel
theorem dX7_change_86 : decode cX7_change 86 = .ok (.iaload, 1) := by decide +kernel
theorem dX7_change_87 : decode cX7_change 87 = .ok (.iastore, 1) := by decide +kernel
theorem dX7_change_88 : decode cX7_change 88 = .ok (.aload_n 0, 1) := by decide +kernel
theorem dX7_change_89 : decode cX7_change 89 = .ok (.getfield 22, 3) := by decide +kernel
theorem dX7_change_92 : decode cX7_change 92 = .ok (.aload_n 0, 1) := by decide +kernel
theorem dX7_change_93 : decode cX7_change 93 = .ok (.getfield 28, 3) := by decide +kernel
theorem dX7_change_96 : decode cX7_change 96 = .ok (.aload_n 1, 1) := by decide +kernel
theorem dX7_change_97 : decode cX7_change 97 = .ok (.getfield 74, 3) := by decide +kernel
theorem dX7_change_100 : decode cX7_change 100 = .ok (.iload_n 3, 1) := by decide +kernel
theorem dX7_change_101 : decode cX7_change 101 = .ok (.iload 4, 2) := by decide +kernel
theorem dX7_change_103 : decode cX7_change 103 = .ok (.iadd, 1) := by decide +kernel
theorem dX7_change_104 : decode cX7_change 104 = .ok (.iaload, 1) := by decide +kernel
theorem dX7_change_105 : decode cX7_change 105 = .ok (.iastore, 1) := by decide +kernel
theorem dX7_change_106 : decode cX7_change 106 = .ok (.aload_n 0, 1) := by decide +kernel
theorem dX7_change_107 : decode cX7_change 107 = .ok (.getfield 25, 3) := by decide +kernel
theorem dX7_change_110 : decode cX7_change 110 = .ok (.aload_n 0, 1) := by decide +kernel
theorem dX7_change_111 : decode cX7_change 111 = .ok (.getfield 28, 3) := by decide +kernel
theorem dX7_change_114 : decode cX7_change 114 = .ok (.iload 5, 2) := by decide +kernel
theorem dX7_change_116 : decode cX7_change 116 = .ok (.iastore, 1) := by decide +kernel
theorem dX7_change_117 : decode cX7_change 117 = .ok (.aload_n 0, 1) := by decide +kernel
theorem dX7_change_118 : decode cX7_change 118 = .ok (.dup, 1) := by decide +kernel
theorem dX7_change_119 : decode cX7_change 119 = .ok (.getfield 28, 3) := by decide +kernel
theorem dX7_change_122 : decode cX7_change 122 = .ok (.iconst 1, 1) := by decide +kernel
theorem dX7_change_123 : decode cX7_change 123 = .ok (.iadd, 1) := by decide +kernel
theorem dX7_change_124 : decode cX7_change 124 = .ok (.putfield 28, 3) := by decide +kernel
theorem dX7_change_127 : decode cX7_change 127 = .ok (.iinc 4 1, 3) := by decide +kernel
theorem dX7_change_130 : decode cX7_change 130 = .ok (.goto (-121), 3) := by decide +kernel
theorem dX7_change_133 : decode cX7_change 133 = .ok (.return_, 1) := by decide +kernel
theorem dX7_shutBetween_0 : decode cX7_shutBetween 0 = .ok (.iconst 0, 1) := by decide +kernel
theorem dX7_shutBetween_1 : decode cX7_shutBetween 1 = .ok (.istore_n 3, 1) := by decide +kernel
theorem dX7_shutBetween_2 : decode cX7_shutBetween 2 = .ok (.iload_n 3, 1) := by decide +kernel
theorem dX7_shutBetween_3 : decode cX7_shutBetween 3 = .ok (.aload_n 0, 1) := by decide +kernel
theorem dX7_shutBetween_4 : decode cX7_shutBetween 4 = .ok (.getfield 38, 3) := by decide +kernel
theorem dX7_shutBetween_7 : decode cX7_shutBetween 7 = .ok (.getfield 81, 3) := by decide +kernel
theorem dX7_shutBetween_10 : decode cX7_shutBetween 10 = .ok (.if_icmp .ge 29, 3) := by decide +kernel
theorem dX7_shutBetween_13 : decode cX7_shutBetween 13 = .ok (.aload_n 0, 1) := by decide +kernel
theorem dX7_shutBetween_14 : decode cX7_shutBetween 14 = .ok (.getfield 38, 3) := by decide +kernel
theorem dX7_shutBetween_17 : decode cX7_shutBetween 17 = .ok (.iload_n 3, 1) := by decide +kernel
theorem dX7_shutBetween_18 : decode cX7_shutBetween 18 = .ok (.iload_n 1, 1) := by decide +kernel
theorem dX7_shutBetween_19 : decode cX7_shutBetween 19 = .ok (.iload_n 2, 1) := by decide +kernel
theorem dX7_shutBetween_20 : decode cX7_shutBetween 20 = .ok (.invokevirtual 86, 3) := by decide +kernel
theorem dX7_shutBetween_23 : decode cX7_shutBetween 23 = .ok (.ifCond .eq 10, 3) := by decide +kernel
theorem dX7_shutBetween_26 : decode cX7_shutBetween 26 = .ok (.aload_n 0, 1) := by decide +kernel
theorem dX7_shutBetween_27 : decode cX7_shutBetween 27 = .ok (.getfield 15, 3) := by decide +kernel
theorem dX7_shutBetween_30 : decode cX7_shutBetween 30 = .ok (.iload_n 3, 1) := by decide +kernel
theorem dX7_shutBetween_31 : decode cX7_shutBetween 31 = .ok (.iconst 1, 1) := by decide +kernel
theorem dX7_shutBetween_32 : decode cX7_shutBetween 32 = .ok (.bastore, 1) := by decide +kernel
theorem dX7_shutBetween_33 : decode cX7_shutBetween 33 = .ok (.iinc 3 1, 3) := by decide +kernel
theorem dX7_shutBetween_36 : decode cX7_shutBetween 36 = .ok (.goto (-34), 3) := by decide +kernel
theorem dX7_shutBetween_39 : decode cX7_shutBetween 39 = .ok (.iconst 0, 1) := by decide +kernel
theorem dX7_shutBetween_40 : decode cX7_shutBetween 40 = .ok (.istore_n 3, 1) := by decide +kernel
theorem dX7_shutBetween_41 : decode cX7_shutBetween 41 = .ok (.iload_n 3, 1) := by decide +kernel
theorem dX7_shutBetween_42 : decode cX7_shutBetween 42 = .ok (.aload_n 0, 1) := by decide +kernel
theorem dX7_shutBetween_43 : decode cX7_shutBetween 43 = .ok (.getfield 28, 3) := by decide +kernel
theorem dX7_shutBetween_46 : decode cX7_shutBetween 46 = .ok (.if_icmp .ge 69, 3) := by decide +kernel
theorem dX7_shutBetween_49 : decode cX7_shutBetween 49 = .ok (.aload_n 0, 1) := by decide +kernel
theorem dX7_shutBetween_50 : decode cX7_shutBetween 50 = .ok (.getfield 19, 3) := by decide +kernel
theorem dX7_shutBetween_53 : decode cX7_shutBetween 53 = .ok (.iload_n 3, 1) := by decide +kernel
theorem dX7_shutBetween_54 : decode cX7_shutBetween 54 = .ok (.iaload, 1) := by decide +kernel
theorem dX7_shutBetween_55 : decode cX7_shutBetween 55 = .ok (.iload_n 1, 1) := by decide +kernel
theorem dX7_shutBetween_56 : decode cX7_shutBetween 56 = .ok (.if_icmp .ne 17, 3) := by decide +kernel
theorem dX7_shutBetween_59 : decode cX7_shutBetween 59 = .ok (.aload_n 0, 1) := by decide +kernel
theorem dX7_shutBetween_60 : decode cX7_shutBetween 60 = .ok (.getfield 22, 3) := by decide +kernel
theorem dX7_shutBetween_63 : decode cX7_shutBetween 63 = .ok (.iload_n 3, 1) := by decide +kernel
theorem dX7_shutBetween_64 : decode cX7_shutBetween 64 = .ok (.iaload, 1) := by decide +kernel
theorem dX7_shutBetween_65 : decode cX7_shutBetween 65 = .ok (.iload_n 2, 1) := by decide +kernel
theorem dX7_shutBetween_66 : decode cX7_shutBetween 66 = .ok (.if_icmp .ne 7, 3) := by decide +kernel
theorem dX7_shutBetween_69 : decode cX7_shutBetween 69 = .ok (.iconst 1, 1) := by decide +kernel
theorem dX7_shutBetween_70 : decode cX7_shutBetween 70 = .ok (.goto 4, 3) := by decide +kernel
theorem dX7_shutBetween_73 : decode cX7_shutBetween 73 = .ok (.iconst 0, 1) := by decide +kernel
theorem dX7_shutBetween_74 : decode cX7_shutBetween 74 = .ok (.istore 4, 2) := by decide +kernel
theorem dX7_shutBetween_76 : decode cX7_shutBetween 76 = .ok (.iload 4, 2) := by decide +kernel
theorem dX7_shutBetween_78 : decode cX7_shutBetween 78 = .ok (.ifCond .ne 23, 3) := by decide +kernel
theorem dX7_shutBetween_81 : decode cX7_shutBetween 81 = .ok (.aload_n 0, 1) := by decide +kernel
theorem dX7_shutBetween_82 : decode cX7_shutBetween 82 = .ok (.getfield 19, 3) := by decide +kernel
theorem dX7_shutBetween_85 : decode cX7_shutBetween 85 = .ok (.iload_n 3, 1) := by decide +kernel
theorem dX7_shutBetween_86 : decode cX7_shutBetween 86 = .ok (.iaload, 1) := by decide +kernel
theorem dX7_shutBetween_87 : decode cX7_shutBetween 87 = .ok (.iload_n 2, 1) := by decide +kernel
theorem dX7_shutBetween_88 : decode cX7_shutBetween 88 = .ok (.if_icmp .ne 21, 3) := by decide +kernel
theorem dX7_shutBetween_91 : decode cX7_shutBetween 91 = .ok (.aload_n 0, 1) := by decide +kernel
theorem dX7_shutBetween_92 : decode cX7_shutBetween 92 = .ok (.getfield 22, 3) := by decide +kernel
theorem dX7_shutBetween_95 : decode cX7_shutBetween 95 = .ok (.iload_n 3, 1) := by decide +kernel
theorem dX7_shutBetween_96 : decode cX7_shutBetween 96 = .ok (.iaload, 1) := by decide +kernel
theorem dX7_shutBetween_97 : decode cX7_shutBetween 97 = .ok (.iload_n 1, 1) := by decide +kernel
theorem dX7_shutBetween_98 : decode cX7_shutBetween 98 = .ok (.if_icmp .ne 11, 3) := by decide +kernel
theorem dX7_shutBetween_101 : decode cX7_shutBetween 101 = .ok (.aload_n 0, 1) := by decide +kernel
theorem dX7_shutBetween_102 : decode cX7_shutBetween 102 = .ok (.getfield 25, 3) := by decide +kernel
theorem dX7_shutBetween_105 : decode cX7_shutBetween 105 = .ok (.iload_n 3, 1) := by decide +kernel
theorem dX7_shutBetween_106 : decode cX7_shutBetween 106 = .ok (.ldc 90, 2) := by decide +kernel
theorem dX7_shutBetween_108 : decode cX7_shutBetween 108 = .ok (.iastore, 1) := by decide +kernel
theorem dX7_shutBetween_109 : decode cX7_shutBetween 109 = .ok (.iinc 3 1, 3) := by decide +kernel
theorem dX7_shutBetween_112 : decode cX7_shutBetween 112 = .ok (.goto (-71), 3) := by decide +kernel
theorem dX7_shutBetween_115 : decode cX7_shutBetween 115 = .ok (.return_, 1) := by decide +kernel
theorem dX7_joinNeighbours_0 : decode cX7_joinNeighbours 0 = .ok (.aload_n 0, 1) := by decide +kernel
theorem dX7_joinNeighbours_1 : decode cX7_joinNeighbours 1 = .ok (.getfield 9, 3) := by decide +kernel
theorem dX7_joinNeighbours_4 : decode cX7_joinNeighbours 4 = .ok (.ldc 90, 2) := by decide +kernel
theorem dX7_joinNeighbours_6 : decode cX7_joinNeighbours 6 = .ok (.invokestatic 91, 3) := by decide +kernel
theorem dX7_joinNeighbours_9 : decode cX7_joinNeighbours 9 = .ok (.iconst 0, 1) := by decide +kernel
theorem dX7_joinNeighbours_10 : decode cX7_joinNeighbours 10 = .ok (.istore_n 1, 1) := by decide +kernel
theorem dX7_joinNeighbours_11 : decode cX7_joinNeighbours 11 = .ok (.iload_n 1, 1) := by decide +kernel
theorem dX7_joinNeighbours_12 : decode cX7_joinNeighbours 12 = .ok (.aload_n 0, 1) := by decide +kernel
theorem dX7_joinNeighbours_13 : decode cX7_joinNeighbours 13 = .ok (.getfield 38, 3) := by decide +kernel
theorem dX7_joinNeighbours_16 : decode cX7_joinNeighbours 16 = .ok (.getfield 97, 3) := by decide +kernel
theorem dX7_joinNeighbours_19 : decode cX7_joinNeighbours 19 = .ok (.if_icmp .ge 21, 3) := by decide +kernel
theorem dX7_joinNeighbours_22 : decode cX7_joinNeighbours 22 = .ok (.aload_n 0, 1) := by decide +kernel
theorem dX7_joinNeighbours_23 : decode cX7_joinNeighbours 23 = .ok (.getfield 9, 3) := by decide +kernel
theorem dX7_joinNeighbours_26 : decode cX7_joinNeighbours 26 = .ok (.bipush 12, 2) := by decide +kernel
theorem dX7_joinNeighbours_28 : decode cX7_joinNeighbours 28 = .ok (.iload_n 1, 1) := by decide +kernel
theorem dX7_joinNeighbours_29 : decode cX7_joinNeighbours 29 = .ok (.imul, 1) := by decide +kernel
theorem dX7_joinNeighbours_30 : decode cX7_joinNeighbours 30 = .ok (.iload_n 1, 1) := by decide +kernel
theorem dX7_joinNeighbours_31 : decode cX7_joinNeighbours 31 = .ok (.iadd, 1) := by decide +kernel
theorem dX7_joinNeighbours_32 : decode cX7_joinNeighbours 32 = .ok (.iconst 0, 1) := by decide +kernel
theorem dX7_joinNeighbours_33 : decode cX7_joinNeighbours 33 = .ok (.iastore, 1) := by decide +kernel
theorem dX7_joinNeighbours_34 : decode cX7_joinNeighbours 34 = .ok (.iinc 1 1, 3) := by decide +kernel
theorem dX7_joinNeighbours_37 : decode cX7_joinNeighbours 37 = .ok (.goto (-26), 3) := by decide +kernel
theorem dX7_joinNeighbours_40 : decode cX7_joinNeighbours 40 = .ok (.iconst 0, 1) := by decide +kernel
theorem dX7_joinNeighbours_41 : decode cX7_joinNeighbours 41 = .ok (.istore_n 1, 1) := by decide +kernel
theorem dX7_joinNeighbours_42 : decode cX7_joinNeighbours 42 = .ok (.iload_n 1, 1) := by decide +kernel
theorem dX7_joinNeighbours_43 : decode cX7_joinNeighbours 43 = .ok (.aload_n 0, 1) := by decide +kernel
theorem dX7_joinNeighbours_44 : decode cX7_joinNeighbours 44 = .ok (.getfield 38, 3) := by decide +kernel
theorem dX7_joinNeighbours_47 : decode cX7_joinNeighbours 47 = .ok (.getfield 81, 3) := by decide +kernel
theorem dX7_joinNeighbours_50 : decode cX7_joinNeighbours 50 = .ok (.if_icmp .ge 49, 3) := by decide +kernel
theorem dX7_joinNeighbours_53 : decode cX7_joinNeighbours 53 = .ok (.aload_n 0, 1) := by decide +kernel
theorem dX7_joinNeighbours_54 : decode cX7_joinNeighbours 54 = .ok (.getfield 15, 3) := by decide +kernel
theorem dX7_joinNeighbours_57 : decode cX7_joinNeighbours 57 = .ok (.iload_n 1, 1) := by decide +kernel
theorem dX7_joinNeighbours_58 : decode cX7_joinNeighbours 58 = .ok (.baload, 1) := by decide +kernel
theorem dX7_joinNeighbours_59 : decode cX7_joinNeighbours 59 = .ok (.ifCond .ne 34, 3) := by decide +kernel
theorem dX7_joinNeighbours_62 : decode cX7_joinNeighbours 62 = .ok (.aload_n 0, 1) := by decide +kernel
theorem dX7_joinNeighbours_63 : decode cX7_joinNeighbours 63 = .ok (.aload_n 0, 1) := by decide +kernel
theorem dX7_joinNeighbours_64 : decode cX7_joinNeighbours 64 = .ok (.getfield 38, 3) := by decide +kernel
theorem dX7_joinNeighbours_67 : decode cX7_joinNeighbours 67 = .ok (.getfield 100, 3) := by decide +kernel
theorem dX7_joinNeighbours_70 : decode cX7_joinNeighbours 70 = .ok (.iload_n 1, 1) := by decide +kernel
theorem dX7_joinNeighbours_71 : decode cX7_joinNeighbours 71 = .ok (.iaload, 1) := by decide +kernel
theorem dX7_joinNeighbours_72 : decode cX7_joinNeighbours 72 = .ok (.aload_n 0, 1) := by decide +kernel
theorem dX7_joinNeighbours_73 : decode cX7_joinNeighbours 73 = .ok (.getfield 38, 3) := by decide +kernel
theorem dX7_joinNeighbours_76 : decode cX7_joinNeighbours 76 = .ok (.getfield 103, 3) := by decide +kernel
theorem dX7_joinNeighbours_79 : decode cX7_joinNeighbours 79 = .ok (.iload_n 1, 1) := by decide +kernel
theorem dX7_joinNeighbours_80 : decode cX7_joinNeighbours 80 = .ok (.iaload, 1) := by decide +kernel
theorem dX7_joinNeighbours_81 : decode cX7_joinNeighbours 81 = .ok (.aload_n 0, 1) := by decide +kernel
theorem dX7_joinNeighbours_82 : decode cX7_joinNeighbours 82 = .ok (.getfield 38, 3) := by decide +kernel
theorem dX7_joinNeighbours_85 : decode cX7_joinNeighbours 85 = .ok (.getfield 106, 3) := by decide +kernel
theorem dX7_joinNeighbours_88 : decode cX7_joinNeighbours 88 = .ok (.iload_n 1, 1) := by decide +kernel
theorem dX7_joinNeighbours_89 : decode cX7_joinNeighbours 89 = .ok (.iaload, 1) := by decide +kernel
theorem dX7_joinNeighbours_90 : decode cX7_joinNeighbours 90 = .ok (.invokevirtual 107, 3) := by decide +kernel
theorem dX7_joinNeighbours_93 : decode cX7_joinNeighbours 93 = .ok (.iinc 1 1, 3) := by decide +kernel
theorem dX7_joinNeighbours_96 : decode cX7_joinNeighbours 96 = .ok (.goto (-54), 3) := by decide +kernel
theorem dX7_joinNeighbours_99 : decode cX7_joinNeighbours 99 = .ok (.iconst 0, 1) := by decide +kernel
theorem dX7_joinNeighbours_100 : decode cX7_joinNeighbours 100 = .ok (.istore_n 1, 1) := by decide +kernel
theorem dX7_joinNeighbours_101 : decode cX7_joinNeighbours 101 = .ok (.iload_n 1, 1) := by decide +kernel
theorem dX7_joinNeighbours_102 : decode cX7_joinNeighbours 102 = .ok (.aload_n 0, 1) := by decide +kernel
theorem dX7_joinNeighbours_103 : decode cX7_joinNeighbours 103 = .ok (.getfield 28, 3) := by decide +kernel
theorem dX7_joinNeighbours_106 : decode cX7_joinNeighbours 106 = .ok (.if_icmp .ge 31, 3) := by decide +kernel
theorem dX7_joinNeighbours_109 : decode cX7_joinNeighbours 109 = .ok (.aload_n 0, 1) := by decide +kernel
theorem dX7_joinNeighbours_110 : decode cX7_joinNeighbours 110 = .ok (.aload_n 0, 1) := by decide +kernel
theorem dX7_joinNeighbours_111 : decode cX7_joinNeighbours 111 = .ok (.getfield 19, 3) := by decide +kernel
theorem dX7_joinNeighbours_114 : decode cX7_joinNeighbours 114 = .ok (.iload_n 1, 1) := by decide +kernel
theorem dX7_joinNeighbours_115 : decode cX7_joinNeighbours 115 = .ok (.iaload, 1) := by decide +kernel
theorem dX7_joinNeighbours_116 : decode cX7_joinNeighbours 116 = .ok (.aload_n 0, 1) := by decide +kernel
theorem dX7_joinNeighbours_117 : decode cX7_joinNeighbours 117 = .ok (.getfield 22, 3) := by decide +kernel
theorem dX7_joinNeighbours_120 : decode cX7_joinNeighbours 120 = .ok (.iload_n 1, 1) := by decide +kernel
theorem dX7_joinNeighbours_121 : decode cX7_joinNeighbours 121 = .ok (.iaload, 1) := by decide +kernel
theorem dX7_joinNeighbours_122 : decode cX7_joinNeighbours 122 = .ok (.aload_n 0, 1) := by decide +kernel
theorem dX7_joinNeighbours_123 : decode cX7_joinNeighbours 123 = .ok (.getfield 25, 3) := by decide +kernel
theorem dX7_joinNeighbours_126 : decode cX7_joinNeighbours 126 = .ok (.iload_n 1, 1) := by decide +kernel
theorem dX7_joinNeighbours_127 : decode cX7_joinNeighbours 127 = .ok (.iaload, 1) := by decide +kernel
theorem dX7_joinNeighbours_128 : decode cX7_joinNeighbours 128 = .ok (.invokevirtual 107, 3) := by decide +kernel
theorem dX7_joinNeighbours_131 : decode cX7_joinNeighbours 131 = .ok (.iinc 1 1, 3) := by decide +kernel
theorem dX7_joinNeighbours_134 : decode cX7_joinNeighbours 134 = .ok (.goto (-33), 3) := by decide +kernel
theorem dX7_joinNeighbours_137 : decode cX7_joinNeighbours 137 = .ok (.return_, 1) := by decide +kernel
theorem dX7_join_0 : decode cX7_join 0 = .ok (.iload_n 3, 1) := by decide +kernel
theorem dX7_join_1 : decode cX7_join 1 = .ok (.aload_n 0, 1) := by decide +kernel
theorem dX7_join_2 : decode cX7_join 2 = .ok (.getfield 9, 3) := by decide +kernel
theorem dX7_join_5 : decode cX7_join 5 = .ok (.bipush 12, 2) := by decide +kernel
theorem dX7_join_7 : decode cX7_join 7 = .ok (.iload_n 1, 1) := by decide +kernel
theorem dX7_join_8 : decode cX7_join 8 = .ok (.imul, 1) := by decide +kernel
theorem dX7_join_9 : decode cX7_join 9 = .ok (.iload_n 2, 1) := by decide +kernel
theorem dX7_join_10 : decode cX7_join 10 = .ok (.iadd, 1) := by decide +kernel
theorem dX7_join_11 : decode cX7_join 11 = .ok (.iaload, 1) := by decide +kernel
theorem dX7_join_12 : decode cX7_join 12 = .ok (.if_icmp .ge 27, 3) := by decide +kernel
theorem dX7_join_15 : decode cX7_join 15 = .ok (.aload_n 0, 1) := by decide +kernel
theorem dX7_join_16 : decode cX7_join 16 = .ok (.getfield 9, 3) := by decide +kernel
theorem dX7_join_19 : decode cX7_join 19 = .ok (.bipush 12, 2) := by decide +kernel
theorem dX7_join_21 : decode cX7_join 21 = .ok (.iload_n 1, 1) := by decide +kernel
theorem dX7_join_22 : decode cX7_join 22 = .ok (.imul, 1) := by decide +kernel
theorem dX7_join_23 : decode cX7_join 23 = .ok (.iload_n 2, 1) := by decide +kernel
theorem dX7_join_24 : decode cX7_join 24 = .ok (.iadd, 1) := by decide +kernel
theorem dX7_join_25 : decode cX7_join 25 = .ok (.iload_n 3, 1) := by decide +kernel
theorem dX7_join_26 : decode cX7_join 26 = .ok (.iastore, 1) := by decide +kernel
theorem dX7_join_27 : decode cX7_join 27 = .ok (.aload_n 0, 1) := by decide +kernel
theorem dX7_join_28 : decode cX7_join 28 = .ok (.getfield 9, 3) := by decide +kernel
theorem dX7_join_31 : decode cX7_join 31 = .ok (.bipush 12, 2) := by decide +kernel
theorem dX7_join_33 : decode cX7_join 33 = .ok (.iload_n 2, 1) := by decide +kernel
theorem dX7_join_34 : decode cX7_join 34 = .ok (.imul, 1) := by decide +kernel
theorem dX7_join_35 : decode cX7_join 35 = .ok (.iload_n 1, 1) := by decide +kernel
theorem dX7_join_36 : decode cX7_join 36 = .ok (.iadd, 1) := by decide +kernel
theorem dX7_join_37 : decode cX7_join 37 = .ok (.iload_n 3, 1) := by decide +kernel
theorem dX7_join_38 : decode cX7_join 38 = .ok (.iastore, 1) := by decide +kernel
theorem dX7_join_39 : decode cX7_join 39 = .ok (.return_, 1) := by decide +kernel
theorem dX7_joinAll_0 : decode cX7_joinAll 0 = .ok (.iconst 0, 1) := by decide +kernel
theorem dX7_joinAll_1 : decode cX7_joinAll 1 = .ok (.istore_n 1, 1) := by decide +kernel
theorem dX7_joinAll_2 : decode cX7_joinAll 2 = .ok (.iload_n 1, 1) := by decide +kernel
theorem dX7_joinAll_3 : decode cX7_joinAll 3 = .ok (.aload_n 0, 1) := by decide +kernel
theorem dX7_joinAll_4 : decode cX7_joinAll 4 = .ok (.getfield 38, 3) := by decide +kernel
theorem dX7_joinAll_7 : decode cX7_joinAll 7 = .ok (.getfield 97, 3) := by decide +kernel
theorem dX7_joinAll_10 : decode cX7_joinAll 10 = .ok (.if_icmp .ge 114, 3) := by decide +kernel
theorem dX7_joinAll_13 : decode cX7_joinAll 13 = .ok (.iconst 0, 1) := by decide +kernel
theorem dX7_joinAll_14 : decode cX7_joinAll 14 = .ok (.istore_n 2, 1) := by decide +kernel
theorem dX7_joinAll_15 : decode cX7_joinAll 15 = .ok (.iload_n 2, 1) := by decide +kernel
theorem dX7_joinAll_16 : decode cX7_joinAll 16 = .ok (.aload_n 0, 1) := by decide +kernel
theorem dX7_joinAll_17 : decode cX7_joinAll 17 = .ok (.getfield 38, 3) := by decide +kernel
theorem dX7_joinAll_20 : decode cX7_joinAll 20 = .ok (.getfield 97, 3) := by decide +kernel
theorem dX7_joinAll_23 : decode cX7_joinAll 23 = .ok (.if_icmp .ge 95, 3) := by decide +kernel
theorem dX7_joinAll_26 : decode cX7_joinAll 26 = .ok (.aload_n 0, 1) := by decide +kernel
theorem dX7_joinAll_27 : decode cX7_joinAll 27 = .ok (.getfield 9, 3) := by decide +kernel
theorem dX7_joinAll_30 : decode cX7_joinAll 30 = .ok (.bipush 12, 2) := by decide +kernel
theorem dX7_joinAll_32 : decode cX7_joinAll 32 = .ok (.iload_n 2, 1) := by decide +kernel
theorem dX7_joinAll_33 : decode cX7_joinAll 33 = .ok (.imul, 1) := by decide +kernel
theorem dX7_joinAll_34 : decode cX7_joinAll 34 = .ok (.iload_n 1, 1) := by decide +kernel
theorem dX7_joinAll_35 : decode cX7_joinAll 35 = .ok (.iadd, 1) := by decide +kernel
theorem dX7_joinAll_36 : decode cX7_joinAll 36 = .ok (.iaload, 1) := by decide +kernel
theorem dX7_joinAll_37 : decode cX7_joinAll 37 = .ok (.istore_n 3, 1) := by decide +kernel
theorem dX7_joinAll_38 : decode cX7_joinAll 38 = .ok (.iconst 0, 1) := by decide +kernel
theorem dX7_joinAll_39 : decode cX7_joinAll 39 = .ok (.istore 4, 2) := by decide +kernel
theorem dX7_joinAll_41 : decode cX7_joinAll 41 = .ok (.iload_n 3, 1) := by decide +kernel
theorem dX7_joinAll_42 : decode cX7_joinAll 42 = .ok (.ldc 90, 2) := by decide +kernel
theorem dX7_joinAll_44 : decode cX7_joinAll 44 = .ok (.if_icmp .ge 68, 3) := by decide +kernel
theorem dX7_joinAll_47 : decode cX7_joinAll 47 = .ok (.iload 4, 2) := by decide +kernel
theorem dX7_joinAll_49 : decode cX7_joinAll 49 = .ok (.aload_n 0, 1) := by decide +kernel
theorem dX7_joinAll_50 : decode cX7_joinAll 50 = .ok (.getfield 38, 3) := by decide +kernel
theorem dX7_joinAll_53 : decode cX7_joinAll 53 = .ok (.getfield 97, 3) := by decide +kernel
theorem dX7_joinAll_56 : decode cX7_joinAll 56 = .ok (.if_icmp .ge 56, 3) := by decide +kernel
theorem dX7_joinAll_59 : decode cX7_joinAll 59 = .ok (.iload_n 3, 1) := by decide +kernel
theorem dX7_joinAll_60 : decode cX7_joinAll 60 = .ok (.aload_n 0, 1) := by decide +kernel
theorem dX7_joinAll_61 : decode cX7_joinAll 61 = .ok (.getfield 9, 3) := by decide +kernel
theorem dX7_joinAll_64 : decode cX7_joinAll 64 = .ok (.bipush 12, 2) := by decide +kernel
theorem dX7_joinAll_66 : decode cX7_joinAll 66 = .ok (.iload_n 1, 1) := by decide +kernel
theorem dX7_joinAll_67 : decode cX7_joinAll 67 = .ok (.imul, 1) := by decide +kernel
theorem dX7_joinAll_68 : decode cX7_joinAll 68 = .ok (.iload 4, 2) := by decide +kernel
theorem dX7_joinAll_70 : decode cX7_joinAll 70 = .ok (.iadd, 1) := by decide +kernel
theorem dX7_joinAll_71 : decode cX7_joinAll 71 = .ok (.iaload, 1) := by decide +kernel
theorem dX7_joinAll_72 : decode cX7_joinAll 72 = .ok (.iadd, 1) := by decide +kernel
theorem dX7_joinAll_73 : decode cX7_joinAll 73 = .ok (.istore 5, 2) := by decide +kernel
theorem dX7_joinAll_75 : decode cX7_joinAll 75 = .ok (.iload 5, 2) := by decide +kernel
theorem dX7_joinAll_77 : decode cX7_joinAll 77 = .ok (.aload_n 0, 1) := by decide +kernel
theorem dX7_joinAll_78 : decode cX7_joinAll 78 = .ok (.getfield 9, 3) := by decide +kernel
theorem dX7_joinAll_81 : decode cX7_joinAll 81 = .ok (.bipush 12, 2) := by decide +kernel
theorem dX7_joinAll_83 : decode cX7_joinAll 83 = .ok (.iload_n 2, 1) := by decide +kernel
theorem dX7_joinAll_84 : decode cX7_joinAll 84 = .ok (.imul, 1) := by decide +kernel
theorem dX7_joinAll_85 : decode cX7_joinAll 85 = .ok (.iload 4, 2) := by decide +kernel
theorem dX7_joinAll_87 : decode cX7_joinAll 87 = .ok (.iadd, 1) := by decide +kernel
theorem dX7_joinAll_88 : decode cX7_joinAll 88 = .ok (.iaload, 1) := by decide +kernel
theorem dX7_joinAll_89 : decode cX7_joinAll 89 = .ok (.if_icmp .ge 17, 3) := by decide +kernel
theorem dX7_joinAll_92 : decode cX7_joinAll 92 = .ok (.aload_n 0, 1) := by decide +kernel
theorem dX7_joinAll_93 : decode cX7_joinAll 93 = .ok (.getfield 9, 3) := by decide +kernel
theorem dX7_joinAll_96 : decode cX7_joinAll 96 = .ok (.bipush 12, 2) := by decide +kernel
theorem dX7_joinAll_98 : decode cX7_joinAll 98 = .ok (.iload_n 2, 1) := by decide +kernel
theorem dX7_joinAll_99 : decode cX7_joinAll 99 = .ok (.imul, 1) := by decide +kernel
theorem dX7_joinAll_100 : decode cX7_joinAll 100 = .ok (.iload 4, 2) := by decide +kernel
theorem dX7_joinAll_102 : decode cX7_joinAll 102 = .ok (.iadd, 1) := by decide +kernel
theorem dX7_joinAll_103 : decode cX7_joinAll 103 = .ok (.iload 5, 2) := by decide +kernel
theorem dX7_joinAll_105 : decode cX7_joinAll 105 = .ok (.iastore, 1) := by decide +kernel
theorem dX7_joinAll_106 : decode cX7_joinAll 106 = .ok (.iinc 4 1, 3) := by decide +kernel
theorem dX7_joinAll_109 : decode cX7_joinAll 109 = .ok (.goto (-68), 3) := by decide +kernel
theorem dX7_joinAll_112 : decode cX7_joinAll 112 = .ok (.iinc 2 1, 3) := by decide +kernel
theorem dX7_joinAll_115 : decode cX7_joinAll 115 = .ok (.goto (-100), 3) := by decide +kernel
theorem dX7_joinAll_118 : decode cX7_joinAll 118 = .ok (.iinc 1 1, 3) := by decide +kernel
theorem dX7_joinAll_121 : decode cX7_joinAll 121 = .ok (.goto (-119), 3) := by decide +kernel
theorem dX7_joinAll_124 : decode cX7_joinAll 124 = .ok (.return_, 1) := by decide +kernel
theorem dX7_isShut_0 : decode cX7_isShut 0 = .ok (.iload_n 1, 1) := by decide +kernel
theorem dX7_isShut_1 : decode cX7_isShut 1 = .ok (.bipush 100, 2) := by decide +kernel
theorem dX7_isShut_3 : decode cX7_isShut 3 = .ok (.if_icmp .lt 19, 3) := by decide +kernel
theorem dX7_isShut_6 : decode cX7_isShut 6 = .ok (.aload_n 0, 1) := by decide +kernel
theorem dX7_isShut_7 : decode cX7_isShut 7 = .ok (.getfield 15, 3) := by decide +kernel
theorem dX7_isShut_10 : decode cX7_isShut 10 = .ok (.iload_n 1, 1) := by decide +kernel
theorem dX7_isShut_11 : decode cX7_isShut 11 = .ok (.invokestatic 111, 3) := by decide +kernel
theorem dX7_isShut_14 : decode cX7_isShut 14 = .ok (.baload, 1) := by decide +kernel
theorem dX7_isShut_15 : decode cX7_isShut 15 = .ok (.ifCond .eq 7, 3) := by decide +kernel
theorem dX7_isShut_18 : decode cX7_isShut 18 = .ok (.iconst 1, 1) := by decide +kernel
theorem dX7_isShut_19 : decode cX7_isShut 19 = .ok (.goto 4, 3) := by decide +kernel
theorem dX7_isShut_22 : decode cX7_isShut 22 = .ok (.iconst 0, 1) := by decide +kernel
theorem dX7_isShut_23 : decode cX7_isShut 23 = .ok (.ireturn, 1) := by decide +kernel
theorem dX7_toCorner_0 : decode cX7_toCorner 0 = .ok (.iload_n 1, 1) := by decide +kernel
theorem dX7_toCorner_1 : decode cX7_toCorner 1 = .ok (.bipush 100, 2) := by decide +kernel
theorem dX7_toCorner_3 : decode cX7_toCorner 3 = .ok (.if_icmp .ge 15, 3) := by decide +kernel
theorem dX7_toCorner_6 : decode cX7_toCorner 6 = .ok (.aload_n 0, 1) := by decide +kernel
theorem dX7_toCorner_7 : decode cX7_toCorner 7 = .ok (.getfield 9, 3) := by decide +kernel
theorem dX7_toCorner_10 : decode cX7_toCorner 10 = .ok (.bipush 12, 2) := by decide +kernel
theorem dX7_toCorner_12 : decode cX7_toCorner 12 = .ok (.iload_n 1, 1) := by decide +kernel
theorem dX7_toCorner_13 : decode cX7_toCorner 13 = .ok (.imul, 1) := by decide +kernel
theorem dX7_toCorner_14 : decode cX7_toCorner 14 = .ok (.iload_n 2, 1) := by decide +kernel
theorem dX7_toCorner_15 : decode cX7_toCorner 15 = .ok (.iadd, 1) := by decide +kernel
theorem dX7_toCorner_16 : decode cX7_toCorner 16 = .ok (.iaload, 1) := by decide +kernel
theorem dX7_toCorner_17 : decode cX7_toCorner 17 = .ok (.ireturn, 1) := by decide +kernel
theorem dX7_toCorner_18 : decode cX7_toCorner 18 = .ok (.iload_n 1, 1) := by decide +kernel
theorem dX7_toCorner_19 : decode cX7_toCorner 19 = .ok (.invokestatic 111, 3) := by decide +kernel
theorem dX7_toCorner_22 : decode cX7_toCorner 22 = .ok (.istore_n 3, 1) := by decide +kernel
theorem dX7_toCorner_23 : decode cX7_toCorner 23 = .ok (.iload_n 1, 1) := by decide +kernel
theorem dX7_toCorner_24 : decode cX7_toCorner 24 = .ok (.invokestatic 114, 3) := by decide +kernel
theorem dX7_toCorner_27 : decode cX7_toCorner 27 = .ok (.istore 4, 2) := by decide +kernel
theorem dX7_toCorner_29 : decode cX7_toCorner 29 = .ok (.iload 4, 2) := by decide +kernel
theorem dX7_toCorner_31 : decode cX7_toCorner 31 = .ok (.aload_n 0, 1) := by decide +kernel
theorem dX7_toCorner_32 : decode cX7_toCorner 32 = .ok (.getfield 9, 3) := by decide +kernel
theorem dX7_toCorner_35 : decode cX7_toCorner 35 = .ok (.bipush 12, 2) := by decide +kernel
theorem dX7_toCorner_37 : decode cX7_toCorner 37 = .ok (.aload_n 0, 1) := by decide +kernel
theorem dX7_toCorner_38 : decode cX7_toCorner 38 = .ok (.getfield 38, 3) := by decide +kernel
theorem dX7_toCorner_41 : decode cX7_toCorner 41 = .ok (.getfield 100, 3) := by decide +kernel
theorem dX7_toCorner_44 : decode cX7_toCorner 44 = .ok (.iload_n 3, 1) := by decide +kernel
theorem dX7_toCorner_45 : decode cX7_toCorner 45 = .ok (.iaload, 1) := by decide +kernel
theorem dX7_toCorner_46 : decode cX7_toCorner 46 = .ok (.imul, 1) := by decide +kernel
theorem dX7_toCorner_47 : decode cX7_toCorner 47 = .ok (.iload_n 2, 1) := by decide +kernel
theorem dX7_toCorner_48 : decode cX7_toCorner 48 = .ok (.iadd, 1) := by decide +kernel
theorem dX7_toCorner_49 : decode cX7_toCorner 49 = .ok (.iaload, 1) := by decide +kernel
theorem dX7_toCorner_50 : decode cX7_toCorner 50 = .ok (.iadd, 1) := by decide +kernel
theorem dX7_toCorner_51 : decode cX7_toCorner 51 = .ok (.istore 5, 2) := by decide +kernel
theorem dX7_toCorner_53 : decode cX7_toCorner 53 = .ok (.aload_n 0, 1) := by decide +kernel
theorem dX7_toCorner_54 : decode cX7_toCorner 54 = .ok (.getfield 38, 3) := by decide +kernel
theorem dX7_toCorner_57 : decode cX7_toCorner 57 = .ok (.getfield 106, 3) := by decide +kernel
theorem dX7_toCorner_60 : decode cX7_toCorner 60 = .ok (.iload_n 3, 1) := by decide +kernel
theorem dX7_toCorner_61 : decode cX7_toCorner 61 = .ok (.iaload, 1) := by decide +kernel
theorem dX7_toCorner_62 : decode cX7_toCorner 62 = .ok (.iload 4, 2) := by decide +kernel
theorem dX7_toCorner_64 : decode cX7_toCorner 64 = .ok (.isub, 1) := by decide +kernel
theorem dX7_toCorner_65 : decode cX7_toCorner 65 = .ok (.aload_n 0, 1) := by decide +kernel
theorem dX7_toCorner_66 : decode cX7_toCorner 66 = .ok (.getfield 9, 3) := by decide +kernel
theorem dX7_toCorner_69 : decode cX7_toCorner 69 = .ok (.bipush 12, 2) := by decide +kernel
theorem dX7_toCorner_71 : decode cX7_toCorner 71 = .ok (.aload_n 0, 1) := by decide +kernel
theorem dX7_toCorner_72 : decode cX7_toCorner 72 = .ok (.getfield 38, 3) := by decide +kernel
theorem dX7_toCorner_75 : decode cX7_toCorner 75 = .ok (.getfield 103, 3) := by decide +kernel
theorem dX7_toCorner_78 : decode cX7_toCorner 78 = .ok (.iload_n 3, 1) := by decide +kernel
theorem dX7_toCorner_79 : decode cX7_toCorner 79 = .ok (.iaload, 1) := by decide +kernel
theorem dX7_toCorner_80 : decode cX7_toCorner 80 = .ok (.imul, 1) := by decide +kernel
theorem dX7_toCorner_81 : decode cX7_toCorner 81 = .ok (.iload_n 2, 1) := by decide +kernel
theorem dX7_toCorner_82 : decode cX7_toCorner 82 = .ok (.iadd, 1) := by decide +kernel
theorem dX7_toCorner_83 : decode cX7_toCorner 83 = .ok (.iaload, 1) := by decide +kernel
theorem dX7_toCorner_84 : decode cX7_toCorner 84 = .ok (.iadd, 1) := by decide +kernel
theorem dX7_toCorner_85 : decode cX7_toCorner 85 = .ok (.istore 6, 2) := by decide +kernel
theorem dX7_toCorner_87 : decode cX7_toCorner 87 = .ok (.iload 5, 2) := by decide +kernel
theorem dX7_toCorner_89 : decode cX7_toCorner 89 = .ok (.iload 6, 2) := by decide +kernel
theorem dX7_toCorner_91 : decode cX7_toCorner 91 = .ok (.invokestatic 117, 3) := by decide +kernel
theorem dX7_toCorner_94 : decode cX7_toCorner 94 = .ok (.ireturn, 1) := by decide +kernel
theorem dX7_reach_0 : decode cX7_reach 0 = .ok (.iload_n 1, 1) := by decide +kernel
theorem dX7_reach_1 : decode cX7_reach 1 = .ok (.bipush 100, 2) := by decide +kernel
theorem dX7_reach_3 : decode cX7_reach 3 = .ok (.if_icmp .ge 19, 3) := by decide +kernel
theorem dX7_reach_6 : decode cX7_reach 6 = .ok (.aload_n 0, 1) := by decide +kernel
theorem dX7_reach_7 : decode cX7_reach 7 = .ok (.getfield 9, 3) := by decide +kernel
theorem dX7_reach_10 : decode cX7_reach 10 = .ok (.bipush 12, 2) := by decide +kernel
theorem dX7_reach_12 : decode cX7_reach 12 = .ok (.iload_n 1, 1) := by decide +kernel
theorem dX7_reach_13 : decode cX7_reach 13 = .ok (.imul, 1) := by decide +kernel
theorem dX7_reach_14 : decode cX7_reach 14 = .ok (.aload_n 2, 1) := by decide +kernel
theorem dX7_reach_15 : decode cX7_reach 15 = .ok (.iload_n 3, 1) := by decide +kernel
theorem dX7_reach_16 : decode cX7_reach 16 = .ok (.bipush 12, 2) := by decide +kernel
theorem dX7_reach_18 : decode cX7_reach 18 = .ok (.invokestatic 123, 3) := by decide +kernel
theorem dX7_reach_21 : decode cX7_reach 21 = .ok (.return_, 1) := by decide +kernel
theorem dX7_reach_22 : decode cX7_reach 22 = .ok (.iload_n 1, 1) := by decide +kernel
theorem dX7_reach_23 : decode cX7_reach 23 = .ok (.invokestatic 111, 3) := by decide +kernel
theorem dX7_reach_26 : decode cX7_reach 26 = .ok (.istore 4, 2) := by decide +kernel
theorem dX7_reach_28 : decode cX7_reach 28 = .ok (.iload_n 1, 1) := by decide +kernel
theorem dX7_reach_29 : decode cX7_reach 29 = .ok (.invokestatic 114, 3) := by decide +kernel
theorem dX7_reach_32 : decode cX7_reach 32 = .ok (.istore 5, 2) := by decide +kernel
theorem dX7_reach_34 : decode cX7_reach 34 = .ok (.bipush 12, 2) := by decide +kernel
theorem dX7_reach_36 : decode cX7_reach 36 = .ok (.aload_n 0, 1) := by decide +kernel
theorem dX7_reach_37 : decode cX7_reach 37 = .ok (.getfield 38, 3) := by decide +kernel
theorem dX7_reach_40 : decode cX7_reach 40 = .ok (.getfield 100, 3) := by decide +kernel
theorem dX7_reach_43 : decode cX7_reach 43 = .ok (.iload 4, 2) := by decide +kernel
theorem dX7_reach_45 : decode cX7_reach 45 = .ok (.iaload, 1) := by decide +kernel
theorem dX7_reach_46 : decode cX7_reach 46 = .ok (.imul, 1) := by decide +kernel
theorem dX7_reach_47 : decode cX7_reach 47 = .ok (.istore 6, 2) := by decide +kernel
theorem dX7_reach_49 : decode cX7_reach 49 = .ok (.bipush 12, 2) := by decide +kernel
theorem dX7_reach_51 : decode cX7_reach 51 = .ok (.aload_n 0, 1) := by decide +kernel
theorem dX7_reach_52 : decode cX7_reach 52 = .ok (.getfield 38, 3) := by decide +kernel
theorem dX7_reach_55 : decode cX7_reach 55 = .ok (.getfield 103, 3) := by decide +kernel
theorem dX7_reach_58 : decode cX7_reach 58 = .ok (.iload 4, 2) := by decide +kernel
theorem dX7_reach_60 : decode cX7_reach 60 = .ok (.iaload, 1) := by decide +kernel
theorem dX7_reach_61 : decode cX7_reach 61 = .ok (.imul, 1) := by decide +kernel
theorem dX7_reach_62 : decode cX7_reach 62 = .ok (.istore 7, 2) := by decide +kernel
theorem dX7_reach_64 : decode cX7_reach 64 = .ok (.iconst 0, 1) := by decide +kernel
theorem dX7_reach_65 : decode cX7_reach 65 = .ok (.istore 8, 2) := by decide +kernel
theorem dX7_reach_67 : decode cX7_reach 67 = .ok (.iload 8, 2) := by decide +kernel
theorem dX7_reach_69 : decode cX7_reach 69 = .ok (.aload_n 0, 1) := by decide +kernel
theorem dX7_reach_70 : decode cX7_reach 70 = .ok (.getfield 38, 3) := by decide +kernel
theorem dX7_reach_73 : decode cX7_reach 73 = .ok (.getfield 97, 3) := by decide +kernel
theorem dX7_reach_76 : decode cX7_reach 76 = .ok (.if_icmp .ge 74, 3) := by decide +kernel
theorem dX7_reach_79 : decode cX7_reach 79 = .ok (.iload 5, 2) := by decide +kernel
theorem dX7_reach_81 : decode cX7_reach 81 = .ok (.aload_n 0, 1) := by decide +kernel
theorem dX7_reach_82 : decode cX7_reach 82 = .ok (.getfield 9, 3) := by decide +kernel
theorem dX7_reach_85 : decode cX7_reach 85 = .ok (.iload 6, 2) := by decide +kernel
theorem dX7_reach_87 : decode cX7_reach 87 = .ok (.iload 8, 2) := by decide +kernel
theorem dX7_reach_89 : decode cX7_reach 89 = .ok (.iadd, 1) := by decide +kernel
theorem dX7_reach_90 : decode cX7_reach 90 = .ok (.iaload, 1) := by decide +kernel
theorem dX7_reach_91 : decode cX7_reach 91 = .ok (.iadd, 1) := by decide +kernel
theorem dX7_reach_92 : decode cX7_reach 92 = .ok (.aload_n 0, 1) := by decide +kernel
theorem dX7_reach_93 : decode cX7_reach 93 = .ok (.getfield 38, 3) := by decide +kernel
theorem dX7_reach_96 : decode cX7_reach 96 = .ok (.getfield 106, 3) := by decide +kernel
theorem dX7_reach_99 : decode cX7_reach 99 = .ok (.iload 4, 2) := by decide +kernel
theorem dX7_reach_101 : decode cX7_reach 101 = .ok (.iaload, 1) := by decide +kernel
theorem dX7_reach_102 : decode cX7_reach 102 = .ok (.iload 5, 2) := by decide +kernel
theorem dX7_reach_104 : decode cX7_reach 104 = .ok (.isub, 1) := by decide +kernel
theorem dX7_reach_105 : decode cX7_reach 105 = .ok (.aload_n 0, 1) := by decide +kernel
theorem dX7_reach_106 : decode cX7_reach 106 = .ok (.getfield 9, 3) := by decide +kernel
theorem dX7_reach_109 : decode cX7_reach 109 = .ok (.iload 7, 2) := by decide +kernel
theorem dX7_reach_111 : decode cX7_reach 111 = .ok (.iload 8, 2) := by decide +kernel
theorem dX7_reach_113 : decode cX7_reach 113 = .ok (.iadd, 1) := by decide +kernel
theorem dX7_reach_114 : decode cX7_reach 114 = .ok (.iaload, 1) := by decide +kernel
theorem dX7_reach_115 : decode cX7_reach 115 = .ok (.iadd, 1) := by decide +kernel
theorem dX7_reach_116 : decode cX7_reach 116 = .ok (.invokestatic 117, 3) := by decide +kernel
theorem dX7_reach_119 : decode cX7_reach 119 = .ok (.istore 9, 2) := by decide +kernel
theorem dX7_reach_121 : decode cX7_reach 121 = .ok (.aload_n 2, 1) := by decide +kernel
theorem dX7_reach_122 : decode cX7_reach 122 = .ok (.iload_n 3, 1) := by decide +kernel
theorem dX7_reach_123 : decode cX7_reach 123 = .ok (.iload 8, 2) := by decide +kernel
theorem dX7_reach_125 : decode cX7_reach 125 = .ok (.iadd, 1) := by decide +kernel
theorem dX7_reach_126 : decode cX7_reach 126 = .ok (.aload_n 0, 1) := by decide +kernel
theorem dX7_reach_127 : decode cX7_reach 127 = .ok (.getfield 15, 3) := by decide +kernel
theorem dX7_reach_130 : decode cX7_reach 130 = .ok (.iload 4, 2) := by decide +kernel
theorem dX7_reach_132 : decode cX7_reach 132 = .ok (.baload, 1) := by decide +kernel
theorem dX7_reach_133 : decode cX7_reach 133 = .ok (.ifCond .eq 8, 3) := by decide +kernel
theorem dX7_reach_136 : decode cX7_reach 136 = .ok (.ldc 90, 2) := by decide +kernel
theorem dX7_reach_138 : decode cX7_reach 138 = .ok (.goto 5, 3) := by decide +kernel
theorem dX7_reach_141 : decode cX7_reach 141 = .ok (.iload 9, 2) := by decide +kernel
theorem dX7_reach_143 : decode cX7_reach 143 = .ok (.iastore, 1) := by decide +kernel
theorem dX7_reach_144 : decode cX7_reach 144 = .ok (.iinc 8 1, 3) := by decide +kernel
theorem dX7_reach_147 : decode cX7_reach 147 = .ok (.goto (-80), 3) := by decide +kernel
theorem dX7_reach_150 : decode cX7_reach 150 = .ok (.return_, 1) := by decide +kernel
theorem dX7_between_0 : decode cX7_between 0 = .ok (.aload_n 0, 1) := by decide +kernel
theorem dX7_between_1 : decode cX7_between 1 = .ok (.iload_n 1, 1) := by decide +kernel
theorem dX7_between_2 : decode cX7_between 2 = .ok (.invokevirtual 129, 3) := by decide +kernel
theorem dX7_between_5 : decode cX7_between 5 = .ok (.ifCond .ne 11, 3) := by decide +kernel
theorem dX7_between_8 : decode cX7_between 8 = .ok (.aload_n 0, 1) := by decide +kernel
theorem dX7_between_9 : decode cX7_between 9 = .ok (.iload_n 2, 1) := by decide +kernel
theorem dX7_between_10 : decode cX7_between 10 = .ok (.invokevirtual 129, 3) := by decide +kernel
theorem dX7_between_13 : decode cX7_between 13 = .ok (.ifCond .eq 6, 3) := by decide +kernel
theorem dX7_between_16 : decode cX7_between 16 = .ok (.ldc 90, 2) := by decide +kernel
theorem dX7_between_18 : decode cX7_between 18 = .ok (.ireturn, 1) := by decide +kernel
theorem dX7_between_19 : decode cX7_between 19 = .ok (.iload_n 2, 1) := by decide +kernel
theorem dX7_between_20 : decode cX7_between 20 = .ok (.bipush 100, 2) := by decide +kernel
theorem dX7_between_22 : decode cX7_between 22 = .ok (.if_icmp .ge 10, 3) := by decide +kernel
theorem dX7_between_25 : decode cX7_between 25 = .ok (.aload_n 0, 1) := by decide +kernel
theorem dX7_between_26 : decode cX7_between 26 = .ok (.iload_n 1, 1) := by decide +kernel
theorem dX7_between_27 : decode cX7_between 27 = .ok (.iload_n 2, 1) := by decide +kernel
theorem dX7_between_28 : decode cX7_between 28 = .ok (.invokevirtual 133, 3) := by decide +kernel
theorem dX7_between_31 : decode cX7_between 31 = .ok (.ireturn, 1) := by decide +kernel
theorem dX7_between_32 : decode cX7_between 32 = .ok (.iload_n 1, 1) := by decide +kernel
theorem dX7_between_33 : decode cX7_between 33 = .ok (.bipush 100, 2) := by decide +kernel
theorem dX7_between_35 : decode cX7_between 35 = .ok (.if_icmp .ge 10, 3) := by decide +kernel
theorem dX7_between_38 : decode cX7_between 38 = .ok (.aload_n 0, 1) := by decide +kernel
theorem dX7_between_39 : decode cX7_between 39 = .ok (.iload_n 2, 1) := by decide +kernel
theorem dX7_between_40 : decode cX7_between 40 = .ok (.iload_n 1, 1) := by decide +kernel
theorem dX7_between_41 : decode cX7_between 41 = .ok (.invokevirtual 133, 3) := by decide +kernel
theorem dX7_between_44 : decode cX7_between 44 = .ok (.ireturn, 1) := by decide +kernel
theorem dX7_between_45 : decode cX7_between 45 = .ok (.iload_n 2, 1) := by decide +kernel
theorem dX7_between_46 : decode cX7_between 46 = .ok (.invokestatic 111, 3) := by decide +kernel
theorem dX7_between_49 : decode cX7_between 49 = .ok (.istore_n 3, 1) := by decide +kernel
theorem dX7_between_50 : decode cX7_between 50 = .ok (.iload_n 2, 1) := by decide +kernel
theorem dX7_between_51 : decode cX7_between 51 = .ok (.invokestatic 114, 3) := by decide +kernel
theorem dX7_between_54 : decode cX7_between 54 = .ok (.istore 4, 2) := by decide +kernel
theorem dX7_between_56 : decode cX7_between 56 = .ok (.iload 4, 2) := by decide +kernel
theorem dX7_between_58 : decode cX7_between 58 = .ok (.aload_n 0, 1) := by decide +kernel
theorem dX7_between_59 : decode cX7_between 59 = .ok (.iload_n 1, 1) := by decide +kernel
theorem dX7_between_60 : decode cX7_between 60 = .ok (.aload_n 0, 1) := by decide +kernel
theorem dX7_between_61 : decode cX7_between 61 = .ok (.getfield 38, 3) := by decide +kernel
theorem dX7_between_64 : decode cX7_between 64 = .ok (.getfield 100, 3) := by decide +kernel
theorem dX7_between_67 : decode cX7_between 67 = .ok (.iload_n 3, 1) := by decide +kernel
theorem dX7_between_68 : decode cX7_between 68 = .ok (.iaload, 1) := by decide +kernel
theorem dX7_between_69 : decode cX7_between 69 = .ok (.invokevirtual 133, 3) := by decide +kernel
theorem dX7_between_72 : decode cX7_between 72 = .ok (.iadd, 1) := by decide +kernel
theorem dX7_between_73 : decode cX7_between 73 = .ok (.aload_n 0, 1) := by decide +kernel
theorem dX7_between_74 : decode cX7_between 74 = .ok (.getfield 38, 3) := by decide +kernel
theorem dX7_between_77 : decode cX7_between 77 = .ok (.getfield 106, 3) := by decide +kernel
theorem dX7_between_80 : decode cX7_between 80 = .ok (.iload_n 3, 1) := by decide +kernel
theorem dX7_between_81 : decode cX7_between 81 = .ok (.iaload, 1) := by decide +kernel
theorem dX7_between_82 : decode cX7_between 82 = .ok (.iload 4, 2) := by decide +kernel
theorem dX7_between_84 : decode cX7_between 84 = .ok (.isub, 1) := by decide +kernel
theorem dX7_between_85 : decode cX7_between 85 = .ok (.aload_n 0, 1) := by decide +kernel
theorem dX7_between_86 : decode cX7_between 86 = .ok (.iload_n 1, 1) := by decide +kernel
theorem dX7_between_87 : decode cX7_between 87 = .ok (.aload_n 0, 1) := by decide +kernel
theorem dX7_between_88 : decode cX7_between 88 = .ok (.getfield 38, 3) := by decide +kernel
theorem dX7_between_91 : decode cX7_between 91 = .ok (.getfield 103, 3) := by decide +kernel
theorem dX7_between_94 : decode cX7_between 94 = .ok (.iload_n 3, 1) := by decide +kernel
theorem dX7_between_95 : decode cX7_between 95 = .ok (.iaload, 1) := by decide +kernel
theorem dX7_between_96 : decode cX7_between 96 = .ok (.invokevirtual 133, 3) := by decide +kernel
theorem dX7_between_99 : decode cX7_between 99 = .ok (.iadd, 1) := by decide +kernel
theorem dX7_between_100 : decode cX7_between 100 = .ok (.invokestatic 117, 3) := by decide +kernel
theorem dX7_between_103 : decode cX7_between 103 = .ok (.istore 5, 2) := by decide +kernel
theorem dX7_between_105 : decode cX7_between 105 = .ok (.iload_n 1, 1) := by decide +kernel
theorem dX7_between_106 : decode cX7_between 106 = .ok (.invokestatic 111, 3) := by decide +kernel
theorem dX7_between_109 : decode cX7_between 109 = .ok (.iload_n 3, 1) := by decide +kernel
theorem dX7_between_110 : decode cX7_between 110 = .ok (.if_icmp .ne 21, 3) := by decide +kernel
theorem dX7_between_113 : decode cX7_between 113 = .ok (.iload 5, 2) := by decide +kernel
theorem dX7_between_115 : decode cX7_between 115 = .ok (.iload 4, 2) := by decide +kernel
theorem dX7_between_117 : decode cX7_between 117 = .ok (.iload_n 1, 1) := by decide +kernel
theorem dX7_between_118 : decode cX7_between 118 = .ok (.invokestatic 114, 3) := by decide +kernel
theorem dX7_between_121 : decode cX7_between 121 = .ok (.isub, 1) := by decide +kernel
theorem dX7_between_122 : decode cX7_between 122 = .ok (.invokestatic 136, 3) := by decide +kernel
theorem dX7_between_125 : decode cX7_between 125 = .ok (.invokestatic 117, 3) := by decide +kernel
theorem dX7_between_128 : decode cX7_between 128 = .ok (.goto 5, 3) := by decide +kernel
theorem dX7_between_131 : decode cX7_between 131 = .ok (.iload 5, 2) := by decide +kernel
theorem dX7_between_133 : decode cX7_between 133 = .ok (.ireturn, 1) := by decide +kernel
theorem dX7_openSpots_0 : decode cX7_openSpots 0 = .ok (.aload_n 0, 1) := by decide +kernel
theorem dX7_openSpots_1 : decode cX7_openSpots 1 = .ok (.getfield 38, 3) := by decide +kernel
theorem dX7_openSpots_4 : decode cX7_openSpots 4 = .ok (.getfield 97, 3) := by decide +kernel
theorem dX7_openSpots_7 : decode cX7_openSpots 7 = .ok (.istore_n 1, 1) := by decide +kernel
theorem dX7_openSpots_8 : decode cX7_openSpots 8 = .ok (.iconst 0, 1) := by decide +kernel
theorem dX7_openSpots_9 : decode cX7_openSpots 9 = .ok (.istore_n 2, 1) := by decide +kernel
theorem dX7_openSpots_10 : decode cX7_openSpots 10 = .ok (.iload_n 2, 1) := by decide +kernel
theorem dX7_openSpots_11 : decode cX7_openSpots 11 = .ok (.aload_n 0, 1) := by decide +kernel
theorem dX7_openSpots_12 : decode cX7_openSpots 12 = .ok (.getfield 38, 3) := by decide +kernel
theorem dX7_openSpots_15 : decode cX7_openSpots 15 = .ok (.getfield 81, 3) := by decide +kernel
theorem dX7_openSpots_18 : decode cX7_openSpots 18 = .ok (.if_icmp .ge 36, 3) := by decide +kernel
theorem dX7_openSpots_21 : decode cX7_openSpots 21 = .ok (.iload_n 1, 1) := by decide +kernel
theorem dX7_openSpots_22 : decode cX7_openSpots 22 = .ok (.aload_n 0, 1) := by decide +kernel
theorem dX7_openSpots_23 : decode cX7_openSpots 23 = .ok (.getfield 15, 3) := by decide +kernel
theorem dX7_openSpots_26 : decode cX7_openSpots 26 = .ok (.iload_n 2, 1) := by decide +kernel
theorem dX7_openSpots_27 : decode cX7_openSpots 27 = .ok (.baload, 1) := by decide +kernel
theorem dX7_openSpots_28 : decode cX7_openSpots 28 = .ok (.ifCond .eq 7, 3) := by decide +kernel
theorem dX7_openSpots_31 : decode cX7_openSpots 31 = .ok (.iconst 0, 1) := by decide +kernel
theorem dX7_openSpots_32 : decode cX7_openSpots 32 = .ok (.goto 14, 3) := by decide +kernel
theorem dX7_openSpots_35 : decode cX7_openSpots 35 = .ok (.aload_n 0, 1) := by decide +kernel
theorem dX7_openSpots_36 : decode cX7_openSpots 36 = .ok (.getfield 38, 3) := by decide +kernel
theorem dX7_openSpots_39 : decode cX7_openSpots 39 = .ok (.getfield 106, 3) := by decide +kernel
theorem dX7_openSpots_42 : decode cX7_openSpots 42 = .ok (.iload_n 2, 1) := by decide +kernel
theorem dX7_openSpots_43 : decode cX7_openSpots 43 = .ok (.iaload, 1) := by decide +kernel
theorem dX7_openSpots_44 : decode cX7_openSpots 44 = .ok (.iconst 1, 1) := by decide +kernel
theorem dX7_openSpots_45 : decode cX7_openSpots 45 = .ok (.isub, 1) := by decide +kernel
theorem dX7_openSpots_46 : decode cX7_openSpots 46 = .ok (.iadd, 1) := by decide +kernel
theorem dX7_openSpots_47 : decode cX7_openSpots 47 = .ok (.istore_n 1, 1) := by decide +kernel
theorem dX7_openSpots_48 : decode cX7_openSpots 48 = .ok (.iinc 2 1, 3) := by decide +kernel
theorem dX7_openSpots_51 : decode cX7_openSpots 51 = .ok (.goto (-41), 3) := by decide +kernel
theorem dX7_openSpots_54 : decode cX7_openSpots 54 = .ok (.iload_n 1, 1) := by decide +kernel
theorem dX7_openSpots_55 : decode cX7_openSpots 55 = .ok (.ireturn, 1) := by decide +kernel
theorem dX7_openPeople_0 : decode cX7_openPeople 0 = .ok (.iconst 0, 1) := by decide +kernel
theorem dX7_openPeople_1 : decode cX7_openPeople 1 = .ok (.istore_n 1, 1) := by decide +kernel
theorem dX7_openPeople_2 : decode cX7_openPeople 2 = .ok (.iconst 0, 1) := by decide +kernel
theorem dX7_openPeople_3 : decode cX7_openPeople 3 = .ok (.istore_n 2, 1) := by decide +kernel
theorem dX7_openPeople_4 : decode cX7_openPeople 4 = .ok (.iload_n 2, 1) := by decide +kernel
theorem dX7_openPeople_5 : decode cX7_openPeople 5 = .ok (.aload_n 0, 1) := by decide +kernel
theorem dX7_openPeople_6 : decode cX7_openPeople 6 = .ok (.getfield 38, 3) := by decide +kernel
theorem dX7_openPeople_9 : decode cX7_openPeople 9 = .ok (.getfield 97, 3) := by decide +kernel
theorem dX7_openPeople_12 : decode cX7_openPeople 12 = .ok (.if_icmp .ge 21, 3) := by decide +kernel
theorem dX7_openPeople_15 : decode cX7_openPeople 15 = .ok (.iload_n 1, 1) := by decide +kernel
theorem dX7_openPeople_16 : decode cX7_openPeople 16 = .ok (.aload_n 0, 1) := by decide +kernel
theorem dX7_openPeople_17 : decode cX7_openPeople 17 = .ok (.getfield 38, 3) := by decide +kernel
theorem dX7_openPeople_20 : decode cX7_openPeople 20 = .ok (.getfield 139, 3) := by decide +kernel
theorem dX7_openPeople_23 : decode cX7_openPeople 23 = .ok (.iload_n 2, 1) := by decide +kernel
theorem dX7_openPeople_24 : decode cX7_openPeople 24 = .ok (.iaload, 1) := by decide +kernel
theorem dX7_openPeople_25 : decode cX7_openPeople 25 = .ok (.iadd, 1) := by decide +kernel
theorem dX7_openPeople_26 : decode cX7_openPeople 26 = .ok (.istore_n 1, 1) := by decide +kernel
theorem dX7_openPeople_27 : decode cX7_openPeople 27 = .ok (.iinc 2 1, 3) := by decide +kernel
theorem dX7_openPeople_30 : decode cX7_openPeople 30 = .ok (.goto (-26), 3) := by decide +kernel
theorem dX7_openPeople_33 : decode cX7_openPeople 33 = .ok (.iconst 0, 1) := by decide +kernel
theorem dX7_openPeople_34 : decode cX7_openPeople 34 = .ok (.istore_n 2, 1) := by decide +kernel
theorem dX7_openPeople_35 : decode cX7_openPeople 35 = .ok (.iload_n 2, 1) := by decide +kernel
theorem dX7_openPeople_36 : decode cX7_openPeople 36 = .ok (.aload_n 0, 1) := by decide +kernel
theorem dX7_openPeople_37 : decode cX7_openPeople 37 = .ok (.getfield 38, 3) := by decide +kernel
theorem dX7_openPeople_40 : decode cX7_openPeople 40 = .ok (.getfield 81, 3) := by decide +kernel
theorem dX7_openPeople_43 : decode cX7_openPeople 43 = .ok (.if_icmp .ge 44, 3) := by decide +kernel
theorem dX7_openPeople_46 : decode cX7_openPeople 46 = .ok (.iload_n 1, 1) := by decide +kernel
theorem dX7_openPeople_47 : decode cX7_openPeople 47 = .ok (.aload_n 0, 1) := by decide +kernel
theorem dX7_openPeople_48 : decode cX7_openPeople 48 = .ok (.getfield 15, 3) := by decide +kernel
theorem dX7_openPeople_51 : decode cX7_openPeople 51 = .ok (.iload_n 2, 1) := by decide +kernel
theorem dX7_openPeople_52 : decode cX7_openPeople 52 = .ok (.baload, 1) := by decide +kernel
theorem dX7_openPeople_53 : decode cX7_openPeople 53 = .ok (.ifCond .eq 7, 3) := by decide +kernel
theorem dX7_openPeople_56 : decode cX7_openPeople 56 = .ok (.iconst 0, 1) := by decide +kernel
theorem dX7_openPeople_57 : decode cX7_openPeople 57 = .ok (.goto 22, 3) := by decide +kernel
theorem dX7_openPeople_60 : decode cX7_openPeople 60 = .ok (.aload_n 0, 1) := by decide +kernel
theorem dX7_openPeople_61 : decode cX7_openPeople 61 = .ok (.getfield 38, 3) := by decide +kernel
theorem dX7_openPeople_64 : decode cX7_openPeople 64 = .ok (.getfield 106, 3) := by decide +kernel
theorem dX7_openPeople_67 : decode cX7_openPeople 67 = .ok (.iload_n 2, 1) := by decide +kernel
theorem dX7_openPeople_68 : decode cX7_openPeople 68 = .ok (.iaload, 1) := by decide +kernel
theorem dX7_openPeople_69 : decode cX7_openPeople 69 = .ok (.aload_n 0, 1) := by decide +kernel
theorem dX7_openPeople_70 : decode cX7_openPeople 70 = .ok (.getfield 38, 3) := by decide +kernel
theorem dX7_openPeople_73 : decode cX7_openPeople 73 = .ok (.getfield 142, 3) := by decide +kernel
theorem dX7_openPeople_76 : decode cX7_openPeople 76 = .ok (.iload_n 2, 1) := by decide +kernel
theorem dX7_openPeople_77 : decode cX7_openPeople 77 = .ok (.iaload, 1) := by decide +kernel
theorem dX7_openPeople_78 : decode cX7_openPeople 78 = .ok (.imul, 1) := by decide +kernel
theorem dX7_openPeople_79 : decode cX7_openPeople 79 = .ok (.iadd, 1) := by decide +kernel
theorem dX7_openPeople_80 : decode cX7_openPeople 80 = .ok (.istore_n 1, 1) := by decide +kernel
theorem dX7_openPeople_81 : decode cX7_openPeople 81 = .ok (.iinc 2 1, 3) := by decide +kernel
theorem dX7_openPeople_84 : decode cX7_openPeople 84 = .ok (.goto (-49), 3) := by decide +kernel
theorem dX7_openPeople_87 : decode cX7_openPeople 87 = .ok (.iload_n 1, 1) := by decide +kernel
theorem dX7_openPeople_88 : decode cX7_openPeople 88 = .ok (.ireturn, 1) := by decide +kernel
theorem dJ6_bitCount_0f7a4_0 : decode cJ6_bitCount_0f7a4 0 = .ok (.iload_n 0, 1) := by decide +kernel
theorem dJ6_bitCount_0f7a4_1 : decode cJ6_bitCount_0f7a4 1 = .ok (.iload_n 0, 1) := by decide +kernel
theorem dJ6_bitCount_0f7a4_2 : decode cJ6_bitCount_0f7a4 2 = .ok (.iconst 1, 1) := by decide +kernel
theorem dJ6_bitCount_0f7a4_3 : decode cJ6_bitCount_0f7a4 3 = .ok (.iushr, 1) := by decide +kernel
theorem dJ6_bitCount_0f7a4_4 : decode cJ6_bitCount_0f7a4 4 = .ok (.ldc_w 265, 3) := by decide +kernel
theorem dJ6_bitCount_0f7a4_7 : decode cJ6_bitCount_0f7a4 7 = .ok (.iand, 1) := by decide +kernel
theorem dJ6_bitCount_0f7a4_8 : decode cJ6_bitCount_0f7a4 8 = .ok (.isub, 1) := by decide +kernel
theorem dJ6_bitCount_0f7a4_9 : decode cJ6_bitCount_0f7a4 9 = .ok (.istore_n 0, 1) := by decide +kernel
theorem dJ6_bitCount_0f7a4_10 : decode cJ6_bitCount_0f7a4 10 = .ok (.iload_n 0, 1) := by decide +kernel
theorem dJ6_bitCount_0f7a4_11 : decode cJ6_bitCount_0f7a4 11 = .ok (.ldc_w 266, 3) := by decide +kernel
theorem dJ6_bitCount_0f7a4_14 : decode cJ6_bitCount_0f7a4 14 = .ok (.iand, 1) := by decide +kernel
theorem dJ6_bitCount_0f7a4_15 : decode cJ6_bitCount_0f7a4 15 = .ok (.iload_n 0, 1) := by decide +kernel
theorem dJ6_bitCount_0f7a4_16 : decode cJ6_bitCount_0f7a4 16 = .ok (.iconst 2, 1) := by decide +kernel
theorem dJ6_bitCount_0f7a4_17 : decode cJ6_bitCount_0f7a4 17 = .ok (.iushr, 1) := by decide +kernel
theorem dJ6_bitCount_0f7a4_18 : decode cJ6_bitCount_0f7a4 18 = .ok (.ldc_w 266, 3) := by decide +kernel
theorem dJ6_bitCount_0f7a4_21 : decode cJ6_bitCount_0f7a4 21 = .ok (.iand, 1) := by decide +kernel
theorem dJ6_bitCount_0f7a4_22 : decode cJ6_bitCount_0f7a4 22 = .ok (.iadd, 1) := by decide +kernel
theorem dJ6_bitCount_0f7a4_23 : decode cJ6_bitCount_0f7a4 23 = .ok (.istore_n 0, 1) := by decide +kernel
theorem dJ6_bitCount_0f7a4_24 : decode cJ6_bitCount_0f7a4 24 = .ok (.iload_n 0, 1) := by decide +kernel
theorem dJ6_bitCount_0f7a4_25 : decode cJ6_bitCount_0f7a4 25 = .ok (.iload_n 0, 1) := by decide +kernel
theorem dJ6_bitCount_0f7a4_26 : decode cJ6_bitCount_0f7a4 26 = .ok (.iconst 4, 1) := by decide +kernel
theorem dJ6_bitCount_0f7a4_27 : decode cJ6_bitCount_0f7a4 27 = .ok (.iushr, 1) := by decide +kernel
theorem dJ6_bitCount_0f7a4_28 : decode cJ6_bitCount_0f7a4 28 = .ok (.iadd, 1) := by decide +kernel
theorem dJ6_bitCount_0f7a4_29 : decode cJ6_bitCount_0f7a4 29 = .ok (.ldc_w 267, 3) := by decide +kernel
theorem dJ6_bitCount_0f7a4_32 : decode cJ6_bitCount_0f7a4 32 = .ok (.iand, 1) := by decide +kernel
theorem dJ6_bitCount_0f7a4_33 : decode cJ6_bitCount_0f7a4 33 = .ok (.istore_n 0, 1) := by decide +kernel
theorem dJ6_bitCount_0f7a4_34 : decode cJ6_bitCount_0f7a4 34 = .ok (.iload_n 0, 1) := by decide +kernel
theorem dJ6_bitCount_0f7a4_35 : decode cJ6_bitCount_0f7a4 35 = .ok (.iload_n 0, 1) := by decide +kernel
theorem dJ6_bitCount_0f7a4_36 : decode cJ6_bitCount_0f7a4 36 = .ok (.bipush 8, 2) := by decide +kernel
theorem dJ6_bitCount_0f7a4_38 : decode cJ6_bitCount_0f7a4 38 = .ok (.iushr, 1) := by decide +kernel
theorem dJ6_bitCount_0f7a4_39 : decode cJ6_bitCount_0f7a4 39 = .ok (.iadd, 1) := by decide +kernel
theorem dJ6_bitCount_0f7a4_40 : decode cJ6_bitCount_0f7a4 40 = .ok (.istore_n 0, 1) := by decide +kernel
theorem dJ6_bitCount_0f7a4_41 : decode cJ6_bitCount_0f7a4 41 = .ok (.iload_n 0, 1) := by decide +kernel
theorem dJ6_bitCount_0f7a4_42 : decode cJ6_bitCount_0f7a4 42 = .ok (.iload_n 0, 1) := by decide +kernel
theorem dJ6_bitCount_0f7a4_43 : decode cJ6_bitCount_0f7a4 43 = .ok (.bipush 16, 2) := by decide +kernel
theorem dJ6_bitCount_0f7a4_45 : decode cJ6_bitCount_0f7a4 45 = .ok (.iushr, 1) := by decide +kernel
theorem dJ6_bitCount_0f7a4_46 : decode cJ6_bitCount_0f7a4 46 = .ok (.iadd, 1) := by decide +kernel
theorem dJ6_bitCount_0f7a4_47 : decode cJ6_bitCount_0f7a4 47 = .ok (.istore_n 0, 1) := by decide +kernel
theorem dJ6_bitCount_0f7a4_48 : decode cJ6_bitCount_0f7a4 48 = .ok (.iload_n 0, 1) := by decide +kernel
theorem dJ6_bitCount_0f7a4_49 : decode cJ6_bitCount_0f7a4 49 = .ok (.bipush 63, 2) := by decide +kernel
theorem dJ6_bitCount_0f7a4_51 : decode cJ6_bitCount_0f7a4 51 = .ok (.iand, 1) := by decide +kernel
theorem dJ6_bitCount_0f7a4_52 : decode cJ6_bitCount_0f7a4 52 = .ok (.ireturn, 1) := by decide +kernel
theorem dJ7_fill_d0a16_0 : decode cJ7_fill_d0a16 0 = .ok (.iconst 0, 1) := by decide +kernel
theorem dJ7_fill_d0a16_1 : decode cJ7_fill_d0a16 1 = .ok (.istore_n 3, 1) := by decide +kernel
theorem dJ7_fill_d0a16_2 : decode cJ7_fill_d0a16 2 = .ok (.aload_n 0, 1) := by decide +kernel
theorem dJ7_fill_d0a16_3 : decode cJ7_fill_d0a16 3 = .ok (.arraylength, 1) := by decide +kernel
theorem dJ7_fill_d0a16_4 : decode cJ7_fill_d0a16 4 = .ok (.istore 4, 2) := by decide +kernel
theorem dJ7_fill_d0a16_6 : decode cJ7_fill_d0a16 6 = .ok (.iload_n 3, 1) := by decide +kernel
theorem dJ7_fill_d0a16_7 : decode cJ7_fill_d0a16 7 = .ok (.iload 4, 2) := by decide +kernel
theorem dJ7_fill_d0a16_9 : decode cJ7_fill_d0a16 9 = .ok (.if_icmp .ge 13, 3) := by decide +kernel
theorem dJ7_fill_d0a16_12 : decode cJ7_fill_d0a16 12 = .ok (.aload_n 0, 1) := by decide +kernel
theorem dJ7_fill_d0a16_13 : decode cJ7_fill_d0a16 13 = .ok (.iload_n 3, 1) := by decide +kernel
theorem dJ7_fill_d0a16_14 : decode cJ7_fill_d0a16 14 = .ok (.lload_n 1, 1) := by decide +kernel
theorem dJ7_fill_d0a16_15 : decode cJ7_fill_d0a16 15 = .ok (.lastore, 1) := by decide +kernel
theorem dJ7_fill_d0a16_16 : decode cJ7_fill_d0a16 16 = .ok (.iinc 3 1, 3) := by decide +kernel
theorem dJ7_fill_d0a16_19 : decode cJ7_fill_d0a16 19 = .ok (.goto (-13), 3) := by decide +kernel
theorem dJ7_fill_d0a16_22 : decode cJ7_fill_d0a16 22 = .ok (.return_, 1) := by decide +kernel
theorem dJ7_fill_53178_0 : decode cJ7_fill_53178 0 = .ok (.iconst 0, 1) := by decide +kernel
theorem dJ7_fill_53178_1 : decode cJ7_fill_53178 1 = .ok (.istore_n 2, 1) := by decide +kernel
theorem dJ7_fill_53178_2 : decode cJ7_fill_53178 2 = .ok (.aload_n 0, 1) := by decide +kernel
theorem dJ7_fill_53178_3 : decode cJ7_fill_53178 3 = .ok (.arraylength, 1) := by decide +kernel
theorem dJ7_fill_53178_4 : decode cJ7_fill_53178 4 = .ok (.istore_n 3, 1) := by decide +kernel
theorem dJ7_fill_53178_5 : decode cJ7_fill_53178 5 = .ok (.iload_n 2, 1) := by decide +kernel
theorem dJ7_fill_53178_6 : decode cJ7_fill_53178 6 = .ok (.iload_n 3, 1) := by decide +kernel
theorem dJ7_fill_53178_7 : decode cJ7_fill_53178 7 = .ok (.if_icmp .ge 13, 3) := by decide +kernel
theorem dJ7_fill_53178_10 : decode cJ7_fill_53178 10 = .ok (.aload_n 0, 1) := by decide +kernel
theorem dJ7_fill_53178_11 : decode cJ7_fill_53178 11 = .ok (.iload_n 2, 1) := by decide +kernel
theorem dJ7_fill_53178_12 : decode cJ7_fill_53178 12 = .ok (.iload_n 1, 1) := by decide +kernel
theorem dJ7_fill_53178_13 : decode cJ7_fill_53178 13 = .ok (.iastore, 1) := by decide +kernel
theorem dJ7_fill_53178_14 : decode cJ7_fill_53178 14 = .ok (.iinc 2 1, 3) := by decide +kernel
theorem dJ7_fill_53178_17 : decode cJ7_fill_53178 17 = .ok (.goto (-12), 3) := by decide +kernel
theorem dJ7_fill_53178_20 : decode cJ7_fill_53178 20 = .ok (.return_, 1) := by decide +kernel
