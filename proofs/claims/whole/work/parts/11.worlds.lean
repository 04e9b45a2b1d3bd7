def ab_G1 : List ab_O := [(10, 16, [some 1, some 3, some 12, some 21, some 28, some 34, some 40, some 65, some 76, some 82, some 88, some 96, none, none, none, none]),
  (6, 7, [some 2, none, none, none, none, none, none]),
  (20, 900, []),
  (8, 15, [some 4, some 5, some 6, some 7, some 8, some 9, some 10, some 11, none, none, none, none, none, none, none]),
  (20, 72, []),
  (20, 12, []),
  (20, 12, []),
  (20, 36, []),
  (20, 16, []),
  (20, 16, []),
  (20, 16, []),
  (20, 16, []),
  (8, 15, [some 13, some 14, some 15, some 16, some 17, some 18, some 19, some 20, none, none, none, none, none, none, none]),
  (20, 72, []),
  (20, 12, []),
  (20, 12, []),
  (20, 36, []),
  (20, 16, []),
  (20, 16, []),
  (20, 16, []),
  (20, 16, []),
  (2, 7, [some 22, some 23, some 24, some 25, some 26, some 27, none]),
  (20, 9, []),
  (20, 9, []),
  (20, 9, []),
  (20, 108, []),
  (20, 108, []),
  (20, 108, []),
  (7, 9, [some 3, some 29, some 30, some 31, some 32, some 33, none, none, none]),
  (20, 144, []),
  (22, 16, []),
  (20, 12, []),
  (20, 12, []),
  (20, 12, []),
  (0, 7, [some 35, some 36, some 37, some 38, some 39, none, none]),
  (20, 4, []),
  (20, 4, []),
  (20, 4, []),
  (20, 4, []),
  (20, 4, []),
  (24, 4, [some 41, some 47, some 53, some 59]),
  (0, 7, [some 42, some 43, some 44, some 45, some 46, none, none]),
  (20, 4, []),
  (20, 4, []),
  (20, 4, []),
  (20, 4, []),
  (20, 4, []),
  (0, 7, [some 48, some 49, some 50, some 51, some 52, none, none]),
  (20, 4, []),
  (20, 4, []),
  (20, 4, []),
  (20, 4, []),
  (20, 4, []),
  (0, 7, [some 54, some 55, some 56, some 57, some 58, none, none]),
  (20, 4, []),
  (20, 4, []),
  (20, 4, []),
  (20, 4, []),
  (20, 4, []),
  (0, 7, [some 60, some 61, some 62, some 63, some 64, none, none]),
  (20, 4, []),
  (20, 4, []),
  (20, 4, []),
  (20, 4, []),
  (20, 4, []),
  (3, 14, [some 3, some 28, some 66, some 67, some 68, some 69, some 70, none, none, some 71, some 72, some 73, some 74, some 75]),
  (20, 4, []),
  (20, 4, []),
  (20, 48, []),
  (20, 12, []),
  (20, 16, []),
  (20, 4, []),
  (20, 4, []),
  (20, 16, []),
  (20, 12, []),
  (20, 4, []),
  (9, 14, [some 3, some 28, some 77, some 78, some 79, some 80, some 81, none, none, none, none, none, none, none]),
  (20, 4, []),
  (20, 4, []),
  (20, 48, []),
  (20, 12, []),
  (20, 16, []),
  (4, 14, [some 3, some 34, some 65, some 83, some 84, some 85, some 86, some 87, none, none, none, none, none, none]),
  (20, 188, []),
  (21, 61, []),
  (20, 4, []),
  (20, 4, []),
  (20, 3, []),
  (1, 17, [some 3, some 34, some 65, some 76, some 89, some 90, some 91, some 92, some 93, some 94, some 95, none, none, none, none, none, none]),
  (21, 5184, []),
  (20, 1728, []),
  (20, 3, []),
  (20, 3, []),
  (21, 4, []),
  (21, 4, []),
  (21, 3, []),
  (5, 15, [some 3, some 34, some 65, some 97, some 98, some 99, some 100, some 101, some 102, none, none, none, none, none, none]),
  (21, 441, []),
  (21, 441, []),
  (20, 441, []),
  (21, 4, []),
  (21, 4, []),
  (20, 4, [])]
def ab_G2 : List ab_O := [(11, 98, [none, none, none, none, none, none, none, none, some 1, some 2, some 3, some 4, some 5, some 6, some 7, some 8, some 9, some 10, some 11, some 12, some 13, some 14, none, none, none, none, none, none, some 15, none, none, none, none, none, none, none, none, none, none, none, some 16, some 17, some 18, some 19, some 20, none, none, none, some 21, some 22, some 23, some 24, some 25, none, some 26, some 27, some 28, some 29, some 30, some 31, none, none, some 32, none, none, none, some 33, some 34, some 35, some 36, some 37, some 38, none, none, none, none, none, some 39, some 40, none, none, some 41, some 42, some 43, some 44, some 45, none, none, none, none, none, some 46, some 47, some 48, some 49, some 50, some 51, some 52]),
  (21, 12, []),
  (21, 12, []),
  (20, 12, []),
  (20, 12, []),
  (20, 36, []),
  (20, 36, []),
  (20, 16, []),
  (20, 16, []),
  (20, 16, []),
  (20, 16, []),
  (20, 16, []),
  (20, 16, []),
  (20, 16, []),
  (20, 16, []),
  (23, 900, []),
  (20, 9, []),
  (20, 120, []),
  (20, 120, []),
  (20, 120, []),
  (20, 120, []),
  (20, 24, []),
  (20, 24, []),
  (20, 24, []),
  (20, 144, []),
  (22, 24, []),
  (20, 4, []),
  (20, 4, []),
  (20, 4, []),
  (20, 4, []),
  (20, 4, []),
  (21, 4, []),
  (20, 48, []),
  (20, 256, []),
  (20, 256, []),
  (22, 1728, []),
  (21, 1728, []),
  (21, 1728, []),
  (21, 1728, []),
  (21, 441, []),
  (21, 441, []),
  (21, 4, []),
  (21, 4, []),
  (20, 4, []),
  (20, 12, []),
  (20, 4, []),
  (20, 4, []),
  (20, 4, []),
  (20, 16, []),
  (20, 16, []),
  (20, 16, []),
  (20, 16, []),
  (20, 16, [])]
theorem ar1_0 : ab_ar ab_G1 0 = some (10, 16) := rfl
theorem ar1_1 : ab_ar ab_G1 1 = some (6, 7) := rfl
theorem ar1_2 : ab_ar ab_G1 2 = some (20, 900) := rfl
theorem ar1_3 : ab_ar ab_G1 3 = some (8, 15) := rfl
theorem ar1_4 : ab_ar ab_G1 4 = some (20, 72) := rfl
theorem ar1_5 : ab_ar ab_G1 5 = some (20, 12) := rfl
theorem ar1_6 : ab_ar ab_G1 6 = some (20, 12) := rfl
theorem ar1_7 : ab_ar ab_G1 7 = some (20, 36) := rfl
theorem ar1_8 : ab_ar ab_G1 8 = some (20, 16) := rfl
theorem ar1_9 : ab_ar ab_G1 9 = some (20, 16) := rfl
theorem ar1_10 : ab_ar ab_G1 10 = some (20, 16) := rfl
theorem ar1_11 : ab_ar ab_G1 11 = some (20, 16) := rfl
theorem ar1_12 : ab_ar ab_G1 12 = some (8, 15) := rfl
theorem ar1_13 : ab_ar ab_G1 13 = some (20, 72) := rfl
theorem ar1_14 : ab_ar ab_G1 14 = some (20, 12) := rfl
theorem ar1_15 : ab_ar ab_G1 15 = some (20, 12) := rfl
theorem ar1_16 : ab_ar ab_G1 16 = some (20, 36) := rfl
theorem ar1_17 : ab_ar ab_G1 17 = some (20, 16) := rfl
theorem ar1_18 : ab_ar ab_G1 18 = some (20, 16) := rfl
theorem ar1_19 : ab_ar ab_G1 19 = some (20, 16) := rfl
theorem ar1_20 : ab_ar ab_G1 20 = some (20, 16) := rfl
theorem ar1_21 : ab_ar ab_G1 21 = some (2, 7) := rfl
theorem ar1_22 : ab_ar ab_G1 22 = some (20, 9) := rfl
theorem ar1_23 : ab_ar ab_G1 23 = some (20, 9) := rfl
theorem ar1_24 : ab_ar ab_G1 24 = some (20, 9) := rfl
theorem ar1_25 : ab_ar ab_G1 25 = some (20, 108) := rfl
theorem ar1_26 : ab_ar ab_G1 26 = some (20, 108) := rfl
theorem ar1_27 : ab_ar ab_G1 27 = some (20, 108) := rfl
theorem ar1_28 : ab_ar ab_G1 28 = some (7, 9) := rfl
theorem ar1_29 : ab_ar ab_G1 29 = some (20, 144) := rfl
theorem ar1_30 : ab_ar ab_G1 30 = some (22, 16) := rfl
theorem ar1_31 : ab_ar ab_G1 31 = some (20, 12) := rfl
theorem ar1_32 : ab_ar ab_G1 32 = some (20, 12) := rfl
theorem ar1_33 : ab_ar ab_G1 33 = some (20, 12) := rfl
theorem ar1_34 : ab_ar ab_G1 34 = some (0, 7) := rfl
theorem ar1_35 : ab_ar ab_G1 35 = some (20, 4) := rfl
theorem ar1_36 : ab_ar ab_G1 36 = some (20, 4) := rfl
theorem ar1_37 : ab_ar ab_G1 37 = some (20, 4) := rfl
theorem ar1_38 : ab_ar ab_G1 38 = some (20, 4) := rfl
theorem ar1_39 : ab_ar ab_G1 39 = some (20, 4) := rfl
theorem ar1_40 : ab_ar ab_G1 40 = some (24, 4) := rfl
theorem gx1_40 : ab_G1[40]? = some (24, 4, [some 41, some 47, some 53, some 59]) := rfl
theorem ar1_41 : ab_ar ab_G1 41 = some (0, 7) := rfl
theorem ar1_42 : ab_ar ab_G1 42 = some (20, 4) := rfl
theorem ar1_43 : ab_ar ab_G1 43 = some (20, 4) := rfl
theorem ar1_44 : ab_ar ab_G1 44 = some (20, 4) := rfl
theorem ar1_45 : ab_ar ab_G1 45 = some (20, 4) := rfl
theorem ar1_46 : ab_ar ab_G1 46 = some (20, 4) := rfl
theorem ar1_47 : ab_ar ab_G1 47 = some (0, 7) := rfl
theorem ar1_48 : ab_ar ab_G1 48 = some (20, 4) := rfl
theorem ar1_49 : ab_ar ab_G1 49 = some (20, 4) := rfl
theorem ar1_50 : ab_ar ab_G1 50 = some (20, 4) := rfl
theorem ar1_51 : ab_ar ab_G1 51 = some (20, 4) := rfl
theorem ar1_52 : ab_ar ab_G1 52 = some (20, 4) := rfl
theorem ar1_53 : ab_ar ab_G1 53 = some (0, 7) := rfl
theorem ar1_54 : ab_ar ab_G1 54 = some (20, 4) := rfl
theorem ar1_55 : ab_ar ab_G1 55 = some (20, 4) := rfl
theorem ar1_56 : ab_ar ab_G1 56 = some (20, 4) := rfl
theorem ar1_57 : ab_ar ab_G1 57 = some (20, 4) := rfl
theorem ar1_58 : ab_ar ab_G1 58 = some (20, 4) := rfl
theorem ar1_59 : ab_ar ab_G1 59 = some (0, 7) := rfl
theorem ar1_60 : ab_ar ab_G1 60 = some (20, 4) := rfl
theorem ar1_61 : ab_ar ab_G1 61 = some (20, 4) := rfl
theorem ar1_62 : ab_ar ab_G1 62 = some (20, 4) := rfl
theorem ar1_63 : ab_ar ab_G1 63 = some (20, 4) := rfl
theorem ar1_64 : ab_ar ab_G1 64 = some (20, 4) := rfl
theorem ar1_65 : ab_ar ab_G1 65 = some (3, 14) := rfl
theorem ar1_66 : ab_ar ab_G1 66 = some (20, 4) := rfl
theorem ar1_67 : ab_ar ab_G1 67 = some (20, 4) := rfl
theorem ar1_68 : ab_ar ab_G1 68 = some (20, 48) := rfl
theorem ar1_69 : ab_ar ab_G1 69 = some (20, 12) := rfl
theorem ar1_70 : ab_ar ab_G1 70 = some (20, 16) := rfl
theorem ar1_71 : ab_ar ab_G1 71 = some (20, 4) := rfl
theorem ar1_72 : ab_ar ab_G1 72 = some (20, 4) := rfl
theorem ar1_73 : ab_ar ab_G1 73 = some (20, 16) := rfl
theorem ar1_74 : ab_ar ab_G1 74 = some (20, 12) := rfl
theorem ar1_75 : ab_ar ab_G1 75 = some (20, 4) := rfl
theorem ar1_76 : ab_ar ab_G1 76 = some (9, 14) := rfl
theorem ar1_77 : ab_ar ab_G1 77 = some (20, 4) := rfl
theorem ar1_78 : ab_ar ab_G1 78 = some (20, 4) := rfl
theorem ar1_79 : ab_ar ab_G1 79 = some (20, 48) := rfl
theorem ar1_80 : ab_ar ab_G1 80 = some (20, 12) := rfl
theorem ar1_81 : ab_ar ab_G1 81 = some (20, 16) := rfl
theorem ar1_82 : ab_ar ab_G1 82 = some (4, 14) := rfl
theorem ar1_83 : ab_ar ab_G1 83 = some (20, 188) := rfl
theorem ar1_84 : ab_ar ab_G1 84 = some (21, 61) := rfl
theorem ar1_85 : ab_ar ab_G1 85 = some (20, 4) := rfl
theorem ar1_86 : ab_ar ab_G1 86 = some (20, 4) := rfl
theorem ar1_87 : ab_ar ab_G1 87 = some (20, 3) := rfl
theorem ar1_88 : ab_ar ab_G1 88 = some (1, 17) := rfl
theorem ar1_89 : ab_ar ab_G1 89 = some (21, 5184) := rfl
theorem ar1_90 : ab_ar ab_G1 90 = some (20, 1728) := rfl
theorem ar1_91 : ab_ar ab_G1 91 = some (20, 3) := rfl
theorem ar1_92 : ab_ar ab_G1 92 = some (20, 3) := rfl
theorem ar1_93 : ab_ar ab_G1 93 = some (21, 4) := rfl
theorem ar1_94 : ab_ar ab_G1 94 = some (21, 4) := rfl
theorem ar1_95 : ab_ar ab_G1 95 = some (21, 3) := rfl
theorem ar1_96 : ab_ar ab_G1 96 = some (5, 15) := rfl
theorem ar1_97 : ab_ar ab_G1 97 = some (21, 441) := rfl
theorem ar1_98 : ab_ar ab_G1 98 = some (21, 441) := rfl
theorem ar1_99 : ab_ar ab_G1 99 = some (20, 441) := rfl
theorem ar1_100 : ab_ar ab_G1 100 = some (21, 4) := rfl
theorem ar1_101 : ab_ar ab_G1 101 = some (21, 4) := rfl
theorem ar1_102 : ab_ar ab_G1 102 = some (20, 4) := rfl
theorem ar2_0 : ab_ar ab_G2 0 = some (11, 98) := rfl
theorem ar2_1 : ab_ar ab_G2 1 = some (21, 12) := rfl
theorem ar2_2 : ab_ar ab_G2 2 = some (21, 12) := rfl
theorem ar2_3 : ab_ar ab_G2 3 = some (20, 12) := rfl
theorem ar2_4 : ab_ar ab_G2 4 = some (20, 12) := rfl
theorem ar2_5 : ab_ar ab_G2 5 = some (20, 36) := rfl
theorem ar2_6 : ab_ar ab_G2 6 = some (20, 36) := rfl
theorem ar2_7 : ab_ar ab_G2 7 = some (20, 16) := rfl
theorem ar2_8 : ab_ar ab_G2 8 = some (20, 16) := rfl
theorem ar2_9 : ab_ar ab_G2 9 = some (20, 16) := rfl
theorem ar2_10 : ab_ar ab_G2 10 = some (20, 16) := rfl
theorem ar2_11 : ab_ar ab_G2 11 = some (20, 16) := rfl
theorem ar2_12 : ab_ar ab_G2 12 = some (20, 16) := rfl
theorem ar2_13 : ab_ar ab_G2 13 = some (20, 16) := rfl
theorem ar2_14 : ab_ar ab_G2 14 = some (20, 16) := rfl
theorem ar2_15 : ab_ar ab_G2 15 = some (23, 900) := rfl
theorem ar2_16 : ab_ar ab_G2 16 = some (20, 9) := rfl
theorem ar2_17 : ab_ar ab_G2 17 = some (20, 120) := rfl
theorem ar2_18 : ab_ar ab_G2 18 = some (20, 120) := rfl
theorem ar2_19 : ab_ar ab_G2 19 = some (20, 120) := rfl
theorem ar2_20 : ab_ar ab_G2 20 = some (20, 120) := rfl
theorem ar2_21 : ab_ar ab_G2 21 = some (20, 24) := rfl
theorem ar2_22 : ab_ar ab_G2 22 = some (20, 24) := rfl
theorem ar2_23 : ab_ar ab_G2 23 = some (20, 24) := rfl
theorem ar2_24 : ab_ar ab_G2 24 = some (20, 144) := rfl
theorem ar2_25 : ab_ar ab_G2 25 = some (22, 24) := rfl
theorem ar2_26 : ab_ar ab_G2 26 = some (20, 4) := rfl
theorem ar2_27 : ab_ar ab_G2 27 = some (20, 4) := rfl
theorem ar2_28 : ab_ar ab_G2 28 = some (20, 4) := rfl
theorem ar2_29 : ab_ar ab_G2 29 = some (20, 4) := rfl
theorem ar2_30 : ab_ar ab_G2 30 = some (20, 4) := rfl
theorem ar2_31 : ab_ar ab_G2 31 = some (21, 4) := rfl
theorem ar2_32 : ab_ar ab_G2 32 = some (20, 48) := rfl
theorem ar2_33 : ab_ar ab_G2 33 = some (20, 256) := rfl
theorem ar2_34 : ab_ar ab_G2 34 = some (20, 256) := rfl
theorem ar2_35 : ab_ar ab_G2 35 = some (22, 1728) := rfl
theorem ar2_36 : ab_ar ab_G2 36 = some (21, 1728) := rfl
theorem ar2_37 : ab_ar ab_G2 37 = some (21, 1728) := rfl
theorem ar2_38 : ab_ar ab_G2 38 = some (21, 1728) := rfl
theorem ar2_39 : ab_ar ab_G2 39 = some (21, 441) := rfl
theorem ar2_40 : ab_ar ab_G2 40 = some (21, 441) := rfl
theorem ar2_41 : ab_ar ab_G2 41 = some (21, 4) := rfl
theorem ar2_42 : ab_ar ab_G2 42 = some (21, 4) := rfl
theorem ar2_43 : ab_ar ab_G2 43 = some (20, 4) := rfl
theorem ar2_44 : ab_ar ab_G2 44 = some (20, 12) := rfl
theorem ar2_45 : ab_ar ab_G2 45 = some (20, 4) := rfl
theorem ar2_46 : ab_ar ab_G2 46 = some (20, 4) := rfl
theorem ar2_47 : ab_ar ab_G2 47 = some (20, 4) := rfl
theorem ar2_48 : ab_ar ab_G2 48 = some (20, 16) := rfl
theorem ar2_49 : ab_ar ab_G2 49 = some (20, 16) := rfl
theorem ar2_50 : ab_ar ab_G2 50 = some (20, 16) := rfl
theorem ar2_51 : ab_ar ab_G2 51 = some (20, 16) := rfl
theorem ar2_52 : ab_ar ab_G2 52 = some (20, 16) := rfl
theorem gt1_6_9_1 : ab_gt ab_G1 6 9 1 = some (.inl 2) := by decide +kernel
theorem gt1_6_15_1 : ab_gt ab_G1 6 15 1 = some (.inr (.inl 1)) := by decide +kernel
theorem pt1_6_15_1 : ab_pt ab_G1 6 15 1 = some (1, 0) := by decide +kernel
theorem gt1_11_111_1 : ab_gt ab_G1 11 111 1 = some (.inr (.inl 1)) := by decide +kernel
theorem pt1_11_111_1 : ab_pt ab_G1 11 111 1 = some (1, 0) := by decide +kernel
theorem gt1_6_19_1 : ab_gt ab_G1 6 19 1 = some (.inr (.inl 2)) := by decide +kernel
theorem pt1_6_19_1 : ab_pt ab_G1 6 19 1 = some (2, 0) := by decide +kernel
theorem gt1_6_22_1 : ab_gt ab_G1 6 22 1 = some (.inr (.inl 3)) := by decide +kernel
theorem pt1_6_22_1 : ab_pt ab_G1 6 22 1 = some (3, 0) := by decide +kernel
theorem gt1_6_25_1 : ab_gt ab_G1 6 25 1 = some (.inr (.inl 4)) := by decide +kernel
theorem pt1_6_25_1 : ab_pt ab_G1 6 25 1 = some (4, 0) := by decide +kernel
theorem gt1_6_28_1 : ab_gt ab_G1 6 28 1 = some (.inr (.inl 5)) := by decide +kernel
theorem pt1_6_28_1 : ab_pt ab_G1 6 28 1 = some (5, 0) := by decide +kernel
theorem gt1_11_122_1 : ab_gt ab_G1 11 122 1 = some (.inr (.inl 5)) := by decide +kernel
theorem pt1_11_122_1 : ab_pt ab_G1 11 122 1 = some (5, 0) := by decide +kernel
theorem gt1_6_31_1 : ab_gt ab_G1 6 31 1 = some (.inr (.inl 6)) := by decide +kernel
theorem pt1_6_31_1 : ab_pt ab_G1 6 31 1 = some (6, 0) := by decide +kernel
theorem gt1_9_9_3 : ab_gt ab_G1 9 9 3 = some (.inl 4) := by decide +kernel
theorem gt1_9_9_12 : ab_gt ab_G1 9 9 12 = some (.inl 13) := by decide +kernel
theorem gt1_11_169_3 : ab_gt ab_G1 11 169 3 = some (.inl 4) := by decide +kernel
theorem gt1_11_169_12 : ab_gt ab_G1 11 169 12 = some (.inl 13) := by decide +kernel
theorem gt1_6_126_3 : ab_gt ab_G1 6 126 3 = some (.inl 4) := by decide +kernel
theorem gt1_6_126_12 : ab_gt ab_G1 6 126 12 = some (.inl 13) := by decide +kernel
theorem gt1_9_15_3 : ab_gt ab_G1 9 15 3 = some (.inl 5) := by decide +kernel
theorem gt1_9_15_12 : ab_gt ab_G1 9 15 12 = some (.inl 14) := by decide +kernel
theorem gt1_11_166_3 : ab_gt ab_G1 11 166 3 = some (.inl 5) := by decide +kernel
theorem gt1_11_166_12 : ab_gt ab_G1 11 166 12 = some (.inl 14) := by decide +kernel
theorem gt1_6_123_3 : ab_gt ab_G1 6 123 3 = some (.inl 5) := by decide +kernel
theorem gt1_6_123_12 : ab_gt ab_G1 6 123 12 = some (.inl 14) := by decide +kernel
theorem gt1_9_18_3 : ab_gt ab_G1 9 18 3 = some (.inl 6) := by decide +kernel
theorem gt1_9_18_12 : ab_gt ab_G1 9 18 12 = some (.inl 15) := by decide +kernel
theorem gt1_10_35_3 : ab_gt ab_G1 10 35 3 = some (.inl 6) := by decide +kernel
theorem gt1_10_35_12 : ab_gt ab_G1 10 35 12 = some (.inl 15) := by decide +kernel
theorem gt1_3_82_3 : ab_gt ab_G1 3 82 3 = some (.inl 6) := by decide +kernel
theorem gt1_3_82_12 : ab_gt ab_G1 3 82 12 = some (.inl 15) := by decide +kernel
theorem gt1_11_144_3 : ab_gt ab_G1 11 144 3 = some (.inl 6) := by decide +kernel
theorem gt1_11_144_12 : ab_gt ab_G1 11 144 12 = some (.inl 15) := by decide +kernel
theorem gt1_4_171_3 : ab_gt ab_G1 4 171 3 = some (.inl 6) := by decide +kernel
theorem gt1_4_171_12 : ab_gt ab_G1 4 171 12 = some (.inl 15) := by decide +kernel
theorem gt1_7_139_3 : ab_gt ab_G1 7 139 3 = some (.inl 6) := by decide +kernel
theorem gt1_7_139_12 : ab_gt ab_G1 7 139 12 = some (.inl 15) := by decide +kernel
theorem gt1_6_162_3 : ab_gt ab_G1 6 162 3 = some (.inl 6) := by decide +kernel
theorem gt1_6_162_12 : ab_gt ab_G1 6 162 12 = some (.inl 15) := by decide +kernel
theorem gt1_9_21_3 : ab_gt ab_G1 9 21 3 = some (.inl 7) := by decide +kernel
theorem gt1_9_21_12 : ab_gt ab_G1 9 21 12 = some (.inl 16) := by decide +kernel
theorem gt1_3_79_3 : ab_gt ab_G1 3 79 3 = some (.inl 7) := by decide +kernel
theorem gt1_3_79_12 : ab_gt ab_G1 3 79 12 = some (.inl 16) := by decide +kernel
theorem gt1_11_148_3 : ab_gt ab_G1 11 148 3 = some (.inl 7) := by decide +kernel
theorem gt1_11_148_12 : ab_gt ab_G1 11 148 12 = some (.inl 16) := by decide +kernel
theorem gt1_6_167_3 : ab_gt ab_G1 6 167 3 = some (.inl 7) := by decide +kernel
theorem gt1_6_167_12 : ab_gt ab_G1 6 167 12 = some (.inl 16) := by decide +kernel
theorem gt1_9_24_3 : ab_gt ab_G1 9 24 3 = some (.inl 8) := by decide +kernel
theorem gt1_9_24_12 : ab_gt ab_G1 9 24 12 = some (.inl 17) := by decide +kernel
theorem gt1_7_100_3 : ab_gt ab_G1 7 100 3 = some (.inl 8) := by decide +kernel
theorem gt1_7_100_12 : ab_gt ab_G1 7 100 12 = some (.inl 17) := by decide +kernel
theorem gt1_8_88_3 : ab_gt ab_G1 8 88 3 = some (.inl 8) := by decide +kernel
theorem gt1_8_88_12 : ab_gt ab_G1 8 88 12 = some (.inl 17) := by decide +kernel
theorem gt1_6_189_3 : ab_gt ab_G1 6 189 3 = some (.inl 8) := by decide +kernel
theorem gt1_6_189_12 : ab_gt ab_G1 6 189 12 = some (.inl 17) := by decide +kernel
theorem gt1_9_27_3 : ab_gt ab_G1 9 27 3 = some (.inl 9) := by decide +kernel
theorem gt1_9_27_12 : ab_gt ab_G1 9 27 12 = some (.inl 18) := by decide +kernel
theorem gt1_7_103_3 : ab_gt ab_G1 7 103 3 = some (.inl 9) := by decide +kernel
theorem gt1_7_103_12 : ab_gt ab_G1 7 103 12 = some (.inl 18) := by decide +kernel
theorem gt1_8_94_3 : ab_gt ab_G1 8 94 3 = some (.inl 9) := by decide +kernel
theorem gt1_8_94_12 : ab_gt ab_G1 8 94 12 = some (.inl 18) := by decide +kernel
theorem gt1_6_192_3 : ab_gt ab_G1 6 192 3 = some (.inl 9) := by decide +kernel
theorem gt1_6_192_12 : ab_gt ab_G1 6 192 12 = some (.inl 18) := by decide +kernel
theorem gt1_9_30_3 : ab_gt ab_G1 9 30 3 = some (.inl 10) := by decide +kernel
theorem gt1_9_30_12 : ab_gt ab_G1 9 30 12 = some (.inl 19) := by decide +kernel
theorem gt1_4_112_3 : ab_gt ab_G1 4 112 3 = some (.inl 10) := by decide +kernel
theorem gt1_4_112_12 : ab_gt ab_G1 4 112 12 = some (.inl 19) := by decide +kernel
theorem gt1_7_106_3 : ab_gt ab_G1 7 106 3 = some (.inl 10) := by decide +kernel
theorem gt1_7_106_12 : ab_gt ab_G1 7 106 12 = some (.inl 19) := by decide +kernel
theorem gt1_8_91_3 : ab_gt ab_G1 8 91 3 = some (.inl 10) := by decide +kernel
theorem gt1_8_91_12 : ab_gt ab_G1 8 91 12 = some (.inl 19) := by decide +kernel
theorem gt1_6_195_3 : ab_gt ab_G1 6 195 3 = some (.inl 10) := by decide +kernel
theorem gt1_6_195_12 : ab_gt ab_G1 6 195 12 = some (.inl 19) := by decide +kernel
theorem gt1_9_33_3 : ab_gt ab_G1 9 33 3 = some (.inl 11) := by decide +kernel
theorem gt1_9_33_12 : ab_gt ab_G1 9 33 12 = some (.inl 20) := by decide +kernel
theorem gt1_8_69_3 : ab_gt ab_G1 8 69 3 = some (.inl 11) := by decide +kernel
theorem gt1_8_69_12 : ab_gt ab_G1 8 69 12 = some (.inl 20) := by decide +kernel
theorem gt1_7_142_3 : ab_gt ab_G1 7 142 3 = some (.inl 11) := by decide +kernel
theorem gt1_7_142_12 : ab_gt ab_G1 7 142 12 = some (.inl 20) := by decide +kernel
theorem gt1_6_198_3 : ab_gt ab_G1 6 198 3 = some (.inl 11) := by decide +kernel
theorem gt1_6_198_12 : ab_gt ab_G1 6 198 12 = some (.inl 20) := by decide +kernel
theorem gt1_9_36_3 : ab_gt ab_G1 9 36 3 = some (.inr (.inl 8)) := by decide +kernel
theorem pt1_9_36_3 : ab_pt ab_G1 9 36 3 = some (8, 0) := by decide +kernel
theorem gt1_9_36_12 : ab_gt ab_G1 9 36 12 = some (.inr (.inl 8)) := by decide +kernel
theorem pt1_9_36_12 : ab_pt ab_G1 9 36 12 = some (8, 0) := by decide +kernel
theorem gt1_1_76_3 : ab_gt ab_G1 1 76 3 = some (.inr (.inl 8)) := by decide +kernel
theorem pt1_1_76_3 : ab_pt ab_G1 1 76 3 = some (8, 0) := by decide +kernel
theorem gt1_1_76_12 : ab_gt ab_G1 1 76 12 = some (.inr (.inl 8)) := by decide +kernel
theorem pt1_1_76_12 : ab_pt ab_G1 1 76 12 = some (8, 0) := by decide +kernel
theorem gt1_6_43_3 : ab_gt ab_G1 6 43 3 = some (.inr (.inl 8)) := by decide +kernel
theorem pt1_6_43_3 : ab_pt ab_G1 6 43 3 = some (8, 0) := by decide +kernel
theorem gt1_6_43_12 : ab_gt ab_G1 6 43 12 = some (.inr (.inl 8)) := by decide +kernel
theorem pt1_6_43_12 : ab_pt ab_G1 6 43 12 = some (8, 0) := by decide +kernel
theorem gt1_11_137_3 : ab_gt ab_G1 11 137 3 = some (.inr (.inl 8)) := by decide +kernel
theorem pt1_11_137_3 : ab_pt ab_G1 11 137 3 = some (8, 0) := by decide +kernel
theorem gt1_11_137_12 : ab_gt ab_G1 11 137 12 = some (.inr (.inl 8)) := by decide +kernel
theorem pt1_11_137_12 : ab_pt ab_G1 11 137 12 = some (8, 0) := by decide +kernel
theorem gt1_4_102_3 : ab_gt ab_G1 4 102 3 = some (.inr (.inl 8)) := by decide +kernel
theorem pt1_4_102_3 : ab_pt ab_G1 4 102 3 = some (8, 0) := by decide +kernel
theorem gt1_4_102_12 : ab_gt ab_G1 4 102 12 = some (.inr (.inl 8)) := by decide +kernel
theorem pt1_4_102_12 : ab_pt ab_G1 4 102 12 = some (8, 0) := by decide +kernel
theorem gt1_7_97_3 : ab_gt ab_G1 7 97 3 = some (.inr (.inl 8)) := by decide +kernel
theorem pt1_7_97_3 : ab_pt ab_G1 7 97 3 = some (8, 0) := by decide +kernel
theorem gt1_7_97_12 : ab_gt ab_G1 7 97 12 = some (.inr (.inl 8)) := by decide +kernel
theorem pt1_7_97_12 : ab_pt ab_G1 7 97 12 = some (8, 0) := by decide +kernel
theorem gt1_8_53_3 : ab_gt ab_G1 8 53 3 = some (.inr (.inl 8)) := by decide +kernel
theorem pt1_8_53_3 : ab_pt ab_G1 8 53 3 = some (8, 0) := by decide +kernel
theorem gt1_8_53_12 : ab_gt ab_G1 8 53 12 = some (.inr (.inl 8)) := by decide +kernel
theorem pt1_8_53_12 : ab_pt ab_G1 8 53 12 = some (8, 0) := by decide +kernel
theorem gt1_10_70_3 : ab_gt ab_G1 10 70 3 = some (.inr (.inl 8)) := by decide +kernel
theorem pt1_10_70_3 : ab_pt ab_G1 10 70 3 = some (8, 0) := by decide +kernel
theorem gt1_10_70_12 : ab_gt ab_G1 10 70 12 = some (.inr (.inl 8)) := by decide +kernel
theorem pt1_10_70_12 : ab_pt ab_G1 10 70 12 = some (8, 0) := by decide +kernel
theorem gt1_9_40_3 : ab_gt ab_G1 9 40 3 = some (.inr (.inl 9)) := by decide +kernel
theorem pt1_9_40_3 : ab_pt ab_G1 9 40 3 = some (9, 0) := by decide +kernel
theorem gt1_9_40_12 : ab_gt ab_G1 9 40 12 = some (.inr (.inl 9)) := by decide +kernel
theorem pt1_9_40_12 : ab_pt ab_G1 9 40 12 = some (9, 0) := by decide +kernel
theorem gt1_7_81_3 : ab_gt ab_G1 7 81 3 = some (.inr (.inl 9)) := by decide +kernel
theorem pt1_7_81_3 : ab_pt ab_G1 7 81 3 = some (9, 0) := by decide +kernel
theorem gt1_7_81_12 : ab_gt ab_G1 7 81 12 = some (.inr (.inl 9)) := by decide +kernel
theorem pt1_7_81_12 : ab_pt ab_G1 7 81 12 = some (9, 0) := by decide +kernel
theorem gt1_4_109_3 : ab_gt ab_G1 4 109 3 = some (.inr (.inl 9)) := by decide +kernel
theorem pt1_4_109_3 : ab_pt ab_G1 4 109 3 = some (9, 0) := by decide +kernel
theorem gt1_4_109_12 : ab_gt ab_G1 4 109 12 = some (.inr (.inl 9)) := by decide +kernel
theorem pt1_4_109_12 : ab_pt ab_G1 4 109 12 = some (9, 0) := by decide +kernel
theorem gt1_11_151_3 : ab_gt ab_G1 11 151 3 = some (.inr (.inl 9)) := by decide +kernel
theorem pt1_11_151_3 : ab_pt ab_G1 11 151 3 = some (9, 0) := by decide +kernel
theorem gt1_11_151_12 : ab_gt ab_G1 11 151 12 = some (.inr (.inl 9)) := by decide +kernel
theorem pt1_11_151_12 : ab_pt ab_G1 11 151 12 = some (9, 0) := by decide +kernel
theorem gt1_8_66_3 : ab_gt ab_G1 8 66 3 = some (.inr (.inl 9)) := by decide +kernel
theorem pt1_8_66_3 : ab_pt ab_G1 8 66 3 = some (9, 0) := by decide +kernel
theorem gt1_8_66_12 : ab_gt ab_G1 8 66 12 = some (.inr (.inl 9)) := by decide +kernel
theorem pt1_8_66_12 : ab_pt ab_G1 8 66 12 = some (9, 0) := by decide +kernel
theorem gt1_6_183_3 : ab_gt ab_G1 6 183 3 = some (.inr (.inl 9)) := by decide +kernel
theorem pt1_6_183_3 : ab_pt ab_G1 6 183 3 = some (9, 0) := by decide +kernel
theorem gt1_6_183_12 : ab_gt ab_G1 6 183 12 = some (.inr (.inl 9)) := by decide +kernel
theorem pt1_6_183_12 : ab_pt ab_G1 6 183 12 = some (9, 0) := by decide +kernel
theorem gt1_9_43_3 : ab_gt ab_G1 9 43 3 = some (.inr (.inl 10)) := by decide +kernel
theorem pt1_9_43_3 : ab_pt ab_G1 9 43 3 = some (10, 0) := by decide +kernel
theorem gt1_9_43_12 : ab_gt ab_G1 9 43 12 = some (.inr (.inl 10)) := by decide +kernel
theorem pt1_9_43_12 : ab_pt ab_G1 9 43 12 = some (10, 0) := by decide +kernel
theorem gt1_3_38_3 : ab_gt ab_G1 3 38 3 = some (.inr (.inl 10)) := by decide +kernel
theorem pt1_3_38_3 : ab_pt ab_G1 3 38 3 = some (10, 0) := by decide +kernel
theorem gt1_3_38_12 : ab_gt ab_G1 3 38 12 = some (.inr (.inl 10)) := by decide +kernel
theorem pt1_3_38_12 : ab_pt ab_G1 3 38 12 = some (10, 0) := by decide +kernel
theorem gt1_6_142_3 : ab_gt ab_G1 6 142 3 = some (.inr (.inl 10)) := by decide +kernel
theorem pt1_6_142_3 : ab_pt ab_G1 6 142 3 = some (10, 0) := by decide +kernel
theorem gt1_6_142_12 : ab_gt ab_G1 6 142 12 = some (.inr (.inl 10)) := by decide +kernel
theorem pt1_6_142_12 : ab_pt ab_G1 6 142 12 = some (10, 0) := by decide +kernel
theorem gt1_11_344_3 : ab_gt ab_G1 11 344 3 = some (.inr (.inl 10)) := by decide +kernel
theorem pt1_11_344_3 : ab_pt ab_G1 11 344 3 = some (10, 0) := by decide +kernel
theorem gt1_11_344_12 : ab_gt ab_G1 11 344 12 = some (.inr (.inl 10)) := by decide +kernel
theorem pt1_11_344_12 : ab_pt ab_G1 11 344 12 = some (10, 0) := by decide +kernel
theorem gt1_9_46_3 : ab_gt ab_G1 9 46 3 = some (.inr (.inl 11)) := by decide +kernel
theorem pt1_9_46_3 : ab_pt ab_G1 9 46 3 = some (11, 0) := by decide +kernel
theorem gt1_9_46_12 : ab_gt ab_G1 9 46 12 = some (.inr (.inl 11)) := by decide +kernel
theorem pt1_9_46_12 : ab_pt ab_G1 9 46 12 = some (11, 0) := by decide +kernel
theorem gt1_3_73_3 : ab_gt ab_G1 3 73 3 = some (.inr (.inl 11)) := by decide +kernel
theorem pt1_3_73_3 : ab_pt ab_G1 3 73 3 = some (11, 0) := by decide +kernel
theorem gt1_3_73_12 : ab_gt ab_G1 3 73 12 = some (.inr (.inl 11)) := by decide +kernel
theorem pt1_3_73_12 : ab_pt ab_G1 3 73 12 = some (11, 0) := by decide +kernel
theorem gt1_6_144_3 : ab_gt ab_G1 6 144 3 = some (.inr (.inl 11)) := by decide +kernel
theorem pt1_6_144_3 : ab_pt ab_G1 6 144 3 = some (11, 0) := by decide +kernel
theorem gt1_6_144_12 : ab_gt ab_G1 6 144 12 = some (.inr (.inl 11)) := by decide +kernel
theorem pt1_6_144_12 : ab_pt ab_G1 6 144 12 = some (11, 0) := by decide +kernel
theorem gt1_9_49_3 : ab_gt ab_G1 9 49 3 = some (.inr (.inl 12)) := by decide +kernel
theorem pt1_9_49_3 : ab_pt ab_G1 9 49 3 = some (12, 0) := by decide +kernel
theorem gt1_9_49_12 : ab_gt ab_G1 9 49 12 = some (.inr (.inl 12)) := by decide +kernel
theorem pt1_9_49_12 : ab_pt ab_G1 9 49 12 = some (12, 0) := by decide +kernel
theorem gt1_5_81_3 : ab_gt ab_G1 5 81 3 = some (.inr (.inl 12)) := by decide +kernel
theorem pt1_5_81_3 : ab_pt ab_G1 5 81 3 = some (12, 0) := by decide +kernel
theorem gt1_5_81_12 : ab_gt ab_G1 5 81 12 = some (.inr (.inl 12)) := by decide +kernel
theorem pt1_5_81_12 : ab_pt ab_G1 5 81 12 = some (12, 0) := by decide +kernel
theorem gt1_4_90_3 : ab_gt ab_G1 4 90 3 = some (.inr (.inl 12)) := by decide +kernel
theorem pt1_4_90_3 : ab_pt ab_G1 4 90 3 = some (12, 0) := by decide +kernel
theorem gt1_4_90_12 : ab_gt ab_G1 4 90 12 = some (.inr (.inl 12)) := by decide +kernel
theorem pt1_4_90_12 : ab_pt ab_G1 4 90 12 = some (12, 0) := by decide +kernel
theorem gt1_6_153_3 : ab_gt ab_G1 6 153 3 = some (.inr (.inl 12)) := by decide +kernel
theorem pt1_6_153_3 : ab_pt ab_G1 6 153 3 = some (12, 0) := by decide +kernel
theorem gt1_6_153_12 : ab_gt ab_G1 6 153 12 = some (.inr (.inl 12)) := by decide +kernel
theorem pt1_6_153_12 : ab_pt ab_G1 6 153 12 = some (12, 0) := by decide +kernel
theorem gt1_11_353_3 : ab_gt ab_G1 11 353 3 = some (.inr (.inl 12)) := by decide +kernel
theorem pt1_11_353_3 : ab_pt ab_G1 11 353 3 = some (12, 0) := by decide +kernel
theorem gt1_11_353_12 : ab_gt ab_G1 11 353 12 = some (.inr (.inl 12)) := by decide +kernel
theorem pt1_11_353_12 : ab_pt ab_G1 11 353 12 = some (12, 0) := by decide +kernel
theorem gt1_9_52_3 : ab_gt ab_G1 9 52 3 = some (.inr (.inl 13)) := by decide +kernel
theorem pt1_9_52_3 : ab_pt ab_G1 9 52 3 = some (13, 0) := by decide +kernel
theorem gt1_9_52_12 : ab_gt ab_G1 9 52 12 = some (.inr (.inl 13)) := by decide +kernel
theorem pt1_9_52_12 : ab_pt ab_G1 9 52 12 = some (13, 0) := by decide +kernel
theorem gt1_5_86_3 : ab_gt ab_G1 5 86 3 = some (.inr (.inl 13)) := by decide +kernel
theorem pt1_5_86_3 : ab_pt ab_G1 5 86 3 = some (13, 0) := by decide +kernel
theorem gt1_5_86_12 : ab_gt ab_G1 5 86 12 = some (.inr (.inl 13)) := by decide +kernel
theorem pt1_5_86_12 : ab_pt ab_G1 5 86 12 = some (13, 0) := by decide +kernel
theorem gt1_4_95_3 : ab_gt ab_G1 4 95 3 = some (.inr (.inl 13)) := by decide +kernel
theorem pt1_4_95_3 : ab_pt ab_G1 4 95 3 = some (13, 0) := by decide +kernel
theorem gt1_4_95_12 : ab_gt ab_G1 4 95 12 = some (.inr (.inl 13)) := by decide +kernel
theorem pt1_4_95_12 : ab_pt ab_G1 4 95 12 = some (13, 0) := by decide +kernel
theorem gt1_6_156_3 : ab_gt ab_G1 6 156 3 = some (.inr (.inl 13)) := by decide +kernel
theorem pt1_6_156_3 : ab_pt ab_G1 6 156 3 = some (13, 0) := by decide +kernel
theorem gt1_6_156_12 : ab_gt ab_G1 6 156 12 = some (.inr (.inl 13)) := by decide +kernel
theorem pt1_6_156_12 : ab_pt ab_G1 6 156 12 = some (13, 0) := by decide +kernel
theorem gt1_11_356_3 : ab_gt ab_G1 11 356 3 = some (.inr (.inl 13)) := by decide +kernel
theorem pt1_11_356_3 : ab_pt ab_G1 11 356 3 = some (13, 0) := by decide +kernel
theorem gt1_11_356_12 : ab_gt ab_G1 11 356 12 = some (.inr (.inl 13)) := by decide +kernel
theorem pt1_11_356_12 : ab_pt ab_G1 11 356 12 = some (13, 0) := by decide +kernel
theorem gt1_9_55_3 : ab_gt ab_G1 9 55 3 = some (.inr (.inl 14)) := by decide +kernel
theorem pt1_9_55_3 : ab_pt ab_G1 9 55 3 = some (14, 0) := by decide +kernel
theorem gt1_9_55_12 : ab_gt ab_G1 9 55 12 = some (.inr (.inl 14)) := by decide +kernel
theorem pt1_9_55_12 : ab_pt ab_G1 9 55 12 = some (14, 0) := by decide +kernel
theorem gt1_6_50_3 : ab_gt ab_G1 6 50 3 = some (.inr (.inl 14)) := by decide +kernel
theorem pt1_6_50_3 : ab_pt ab_G1 6 50 3 = some (14, 0) := by decide +kernel
theorem gt1_6_50_12 : ab_gt ab_G1 6 50 12 = some (.inr (.inl 14)) := by decide +kernel
theorem pt1_6_50_12 : ab_pt ab_G1 6 50 12 = some (14, 0) := by decide +kernel
theorem gt1_2_9_21 : ab_gt ab_G1 2 9 21 = some (.inl 22) := by decide +kernel
theorem gt1_7_47_21 : ab_gt ab_G1 7 47 21 = some (.inl 22) := by decide +kernel
theorem gt1_6_201_21 : ab_gt ab_G1 6 201 21 = some (.inl 22) := by decide +kernel
theorem gt1_2_15_21 : ab_gt ab_G1 2 15 21 = some (.inl 23) := by decide +kernel
theorem gt1_7_49_21 : ab_gt ab_G1 7 49 21 = some (.inl 23) := by decide +kernel
theorem gt1_6_206_21 : ab_gt ab_G1 6 206 21 = some (.inl 23) := by decide +kernel
theorem gt1_2_18_21 : ab_gt ab_G1 2 18 21 = some (.inl 24) := by decide +kernel
theorem gt1_7_65_21 : ab_gt ab_G1 7 65 21 = some (.inl 24) := by decide +kernel
theorem gt1_2_21_21 : ab_gt ab_G1 2 21 21 = some (.inl 25) := by decide +kernel
theorem gt1_7_71_21 : ab_gt ab_G1 7 71 21 = some (.inl 25) := by decide +kernel
theorem gt1_2_24_21 : ab_gt ab_G1 2 24 21 = some (.inl 26) := by decide +kernel
theorem gt1_7_74_21 : ab_gt ab_G1 7 74 21 = some (.inl 26) := by decide +kernel
theorem gt1_2_27_21 : ab_gt ab_G1 2 27 21 = some (.inl 27) := by decide +kernel
theorem gt1_7_68_21 : ab_gt ab_G1 7 68 21 = some (.inl 27) := by decide +kernel
theorem gt1_2_30_21 : ab_gt ab_G1 2 30 21 = some (.inr (.inl 6)) := by decide +kernel
theorem pt1_2_30_21 : ab_pt ab_G1 2 30 21 = some (6, 0) := by decide +kernel
theorem gt1_7_42_21 : ab_gt ab_G1 7 42 21 = some (.inr (.inl 6)) := by decide +kernel
theorem pt1_7_42_21 : ab_pt ab_G1 7 42 21 = some (6, 0) := by decide +kernel
theorem gt1_11_131_21 : ab_gt ab_G1 11 131 21 = some (.inr (.inl 6)) := by decide +kernel
theorem pt1_11_131_21 : ab_pt ab_G1 11 131 21 = some (6, 0) := by decide +kernel
theorem gt1_1_153_21 : ab_gt ab_G1 1 153 21 = some (.inr (.inl 6)) := by decide +kernel
theorem pt1_1_153_21 : ab_pt ab_G1 1 153 21 = some (6, 0) := by decide +kernel
theorem gt1_6_203_21 : ab_gt ab_G1 6 203 21 = some (.inr (.inl 6)) := by decide +kernel
theorem pt1_6_203_21 : ab_pt ab_G1 6 203 21 = some (6, 0) := by decide +kernel
theorem gt1_7_38_28 : ab_gt ab_G1 7 38 28 = some (.inl 3) := by decide +kernel
theorem gt1_7_9_28 : ab_gt ab_G1 7 9 28 = some (.inl 29) := by decide +kernel
theorem gt1_7_15_28 : ab_gt ab_G1 7 15 28 = some (.inl 30) := by decide +kernel
theorem gt1_4_115_28 : ab_gt ab_G1 4 115 28 = some (.inl 30) := by decide +kernel
theorem gt1_8_72_28 : ab_gt ab_G1 8 72 28 = some (.inl 30) := by decide +kernel
theorem gt1_7_19_28 : ab_gt ab_G1 7 19 28 = some (.inl 31) := by decide +kernel
theorem gt1_7_22_28 : ab_gt ab_G1 7 22 28 = some (.inl 32) := by decide +kernel
theorem gt1_7_25_28 : ab_gt ab_G1 7 25 28 = some (.inl 33) := by decide +kernel
theorem gt1_7_28_28 : ab_gt ab_G1 7 28 28 = some (.inr (.inl 6)) := by decide +kernel
theorem pt1_7_28_28 : ab_pt ab_G1 7 28 28 = some (6, 0) := by decide +kernel
theorem gt1_7_32_28 : ab_gt ab_G1 7 32 28 = some (.inr (.inl 7)) := by decide +kernel
theorem pt1_7_32_28 : ab_pt ab_G1 7 32 28 = some (7, 0) := by decide +kernel
theorem gt1_3_104_28 : ab_gt ab_G1 3 104 28 = some (.inr (.inl 7)) := by decide +kernel
theorem pt1_3_104_28 : ab_pt ab_G1 3 104 28 = some (7, 0) := by decide +kernel
theorem gt1_7_35_28 : ab_gt ab_G1 7 35 28 = some (.inr (.inl 8)) := by decide +kernel
theorem pt1_7_35_28 : ab_pt ab_G1 7 35 28 = some (8, 0) := by decide +kernel
theorem gt1_3_60_28 : ab_gt ab_G1 3 60 28 = some (.inr (.inl 8)) := by decide +kernel
theorem pt1_3_60_28 : ab_pt ab_G1 3 60 28 = some (8, 0) := by decide +kernel
theorem gt1_5_76_28 : ab_gt ab_G1 5 76 28 = some (.inr (.inl 8)) := by decide +kernel
theorem pt1_5_76_28 : ab_pt ab_G1 5 76 28 = some (8, 0) := by decide +kernel
theorem gt1_4_82_28 : ab_gt ab_G1 4 82 28 = some (.inr (.inl 8)) := by decide +kernel
theorem pt1_4_82_28 : ab_pt ab_G1 4 82 28 = some (8, 0) := by decide +kernel
theorem gt1_11_205_28 : ab_gt ab_G1 11 205 28 = some (.inr (.inl 8)) := by decide +kernel
theorem pt1_11_205_28 : ab_pt ab_G1 11 205 28 = some (8, 0) := by decide +kernel
theorem gt1_0_9_34 : ab_gt ab_G1 0 9 34 = some (.inl 35) := by decide +kernel
theorem gt1_0_9_41 : ab_gt ab_G1 0 9 41 = some (.inl 42) := by decide +kernel
theorem gt1_0_9_47 : ab_gt ab_G1 0 9 47 = some (.inl 48) := by decide +kernel
theorem gt1_0_9_53 : ab_gt ab_G1 0 9 53 = some (.inl 54) := by decide +kernel
theorem gt1_0_9_59 : ab_gt ab_G1 0 9 59 = some (.inl 60) := by decide +kernel
theorem gt1_3_46_34 : ab_gt ab_G1 3 46 34 = some (.inl 35) := by decide +kernel
theorem gt1_3_46_41 : ab_gt ab_G1 3 46 41 = some (.inl 42) := by decide +kernel
theorem gt1_3_46_47 : ab_gt ab_G1 3 46 47 = some (.inl 48) := by decide +kernel
theorem gt1_3_46_53 : ab_gt ab_G1 3 46 53 = some (.inl 54) := by decide +kernel
theorem gt1_3_46_59 : ab_gt ab_G1 3 46 59 = some (.inl 60) := by decide +kernel
theorem gt1_10_67_34 : ab_gt ab_G1 10 67 34 = some (.inl 35) := by decide +kernel
theorem gt1_10_67_41 : ab_gt ab_G1 10 67 41 = some (.inl 42) := by decide +kernel
theorem gt1_10_67_47 : ab_gt ab_G1 10 67 47 = some (.inl 48) := by decide +kernel
theorem gt1_10_67_53 : ab_gt ab_G1 10 67 53 = some (.inl 54) := by decide +kernel
theorem gt1_10_67_59 : ab_gt ab_G1 10 67 59 = some (.inl 60) := by decide +kernel
theorem gt1_11_187_34 : ab_gt ab_G1 11 187 34 = some (.inl 35) := by decide +kernel
theorem gt1_11_187_41 : ab_gt ab_G1 11 187 41 = some (.inl 42) := by decide +kernel
theorem gt1_11_187_47 : ab_gt ab_G1 11 187 47 = some (.inl 48) := by decide +kernel
theorem gt1_11_187_53 : ab_gt ab_G1 11 187 53 = some (.inl 54) := by decide +kernel
theorem gt1_11_187_59 : ab_gt ab_G1 11 187 59 = some (.inl 60) := by decide +kernel
theorem gt1_0_15_34 : ab_gt ab_G1 0 15 34 = some (.inl 36) := by decide +kernel
theorem gt1_0_15_41 : ab_gt ab_G1 0 15 41 = some (.inl 43) := by decide +kernel
theorem gt1_0_15_47 : ab_gt ab_G1 0 15 47 = some (.inl 49) := by decide +kernel
theorem gt1_0_15_53 : ab_gt ab_G1 0 15 53 = some (.inl 55) := by decide +kernel
theorem gt1_0_15_59 : ab_gt ab_G1 0 15 59 = some (.inl 61) := by decide +kernel
theorem gt1_3_64_34 : ab_gt ab_G1 3 64 34 = some (.inl 36) := by decide +kernel
theorem gt1_3_64_41 : ab_gt ab_G1 3 64 41 = some (.inl 43) := by decide +kernel
theorem gt1_3_64_47 : ab_gt ab_G1 3 64 47 = some (.inl 49) := by decide +kernel
theorem gt1_3_64_53 : ab_gt ab_G1 3 64 53 = some (.inl 55) := by decide +kernel
theorem gt1_3_64_59 : ab_gt ab_G1 3 64 59 = some (.inl 61) := by decide +kernel
theorem gt1_11_190_34 : ab_gt ab_G1 11 190 34 = some (.inl 36) := by decide +kernel
theorem gt1_11_190_41 : ab_gt ab_G1 11 190 41 = some (.inl 43) := by decide +kernel
theorem gt1_11_190_47 : ab_gt ab_G1 11 190 47 = some (.inl 49) := by decide +kernel
theorem gt1_11_190_53 : ab_gt ab_G1 11 190 53 = some (.inl 55) := by decide +kernel
theorem gt1_11_190_59 : ab_gt ab_G1 11 190 59 = some (.inl 61) := by decide +kernel
theorem gt1_0_18_34 : ab_gt ab_G1 0 18 34 = some (.inl 37) := by decide +kernel
theorem gt1_0_18_41 : ab_gt ab_G1 0 18 41 = some (.inl 44) := by decide +kernel
theorem gt1_0_18_47 : ab_gt ab_G1 0 18 47 = some (.inl 50) := by decide +kernel
theorem gt1_0_18_53 : ab_gt ab_G1 0 18 53 = some (.inl 56) := by decide +kernel
theorem gt1_0_18_59 : ab_gt ab_G1 0 18 59 = some (.inl 62) := by decide +kernel
theorem gt1_3_65_34 : ab_gt ab_G1 3 65 34 = some (.inl 37) := by decide +kernel
theorem gt1_3_65_41 : ab_gt ab_G1 3 65 41 = some (.inl 44) := by decide +kernel
theorem gt1_3_65_47 : ab_gt ab_G1 3 65 47 = some (.inl 50) := by decide +kernel
theorem gt1_3_65_53 : ab_gt ab_G1 3 65 53 = some (.inl 56) := by decide +kernel
theorem gt1_3_65_59 : ab_gt ab_G1 3 65 59 = some (.inl 62) := by decide +kernel
theorem gt1_11_193_34 : ab_gt ab_G1 11 193 34 = some (.inl 37) := by decide +kernel
theorem gt1_11_193_41 : ab_gt ab_G1 11 193 41 = some (.inl 44) := by decide +kernel
theorem gt1_11_193_47 : ab_gt ab_G1 11 193 47 = some (.inl 50) := by decide +kernel
theorem gt1_11_193_53 : ab_gt ab_G1 11 193 53 = some (.inl 56) := by decide +kernel
theorem gt1_11_193_59 : ab_gt ab_G1 11 193 59 = some (.inl 62) := by decide +kernel
theorem gt1_0_21_34 : ab_gt ab_G1 0 21 34 = some (.inl 38) := by decide +kernel
theorem gt1_0_21_41 : ab_gt ab_G1 0 21 41 = some (.inl 45) := by decide +kernel
theorem gt1_0_21_47 : ab_gt ab_G1 0 21 47 = some (.inl 51) := by decide +kernel
theorem gt1_0_21_53 : ab_gt ab_G1 0 21 53 = some (.inl 57) := by decide +kernel
theorem gt1_0_21_59 : ab_gt ab_G1 0 21 59 = some (.inl 63) := by decide +kernel
theorem gt1_3_66_34 : ab_gt ab_G1 3 66 34 = some (.inl 38) := by decide +kernel
theorem gt1_3_66_41 : ab_gt ab_G1 3 66 41 = some (.inl 45) := by decide +kernel
theorem gt1_3_66_47 : ab_gt ab_G1 3 66 47 = some (.inl 51) := by decide +kernel
theorem gt1_3_66_53 : ab_gt ab_G1 3 66 53 = some (.inl 57) := by decide +kernel
theorem gt1_3_66_59 : ab_gt ab_G1 3 66 59 = some (.inl 63) := by decide +kernel
theorem gt1_11_196_34 : ab_gt ab_G1 11 196 34 = some (.inl 38) := by decide +kernel
theorem gt1_11_196_41 : ab_gt ab_G1 11 196 41 = some (.inl 45) := by decide +kernel
theorem gt1_11_196_47 : ab_gt ab_G1 11 196 47 = some (.inl 51) := by decide +kernel
theorem gt1_11_196_53 : ab_gt ab_G1 11 196 53 = some (.inl 57) := by decide +kernel
theorem gt1_11_196_59 : ab_gt ab_G1 11 196 59 = some (.inl 63) := by decide +kernel
theorem gt1_0_24_34 : ab_gt ab_G1 0 24 34 = some (.inl 39) := by decide +kernel
theorem gt1_0_24_41 : ab_gt ab_G1 0 24 41 = some (.inl 46) := by decide +kernel
theorem gt1_0_24_47 : ab_gt ab_G1 0 24 47 = some (.inl 52) := by decide +kernel
theorem gt1_0_24_53 : ab_gt ab_G1 0 24 53 = some (.inl 58) := by decide +kernel
theorem gt1_0_24_59 : ab_gt ab_G1 0 24 59 = some (.inl 64) := by decide +kernel
theorem gt1_4_61_34 : ab_gt ab_G1 4 61 34 = some (.inl 39) := by decide +kernel
theorem gt1_4_61_41 : ab_gt ab_G1 4 61 41 = some (.inl 46) := by decide +kernel
theorem gt1_4_61_47 : ab_gt ab_G1 4 61 47 = some (.inl 52) := by decide +kernel
theorem gt1_4_61_53 : ab_gt ab_G1 4 61 53 = some (.inl 58) := by decide +kernel
theorem gt1_4_61_59 : ab_gt ab_G1 4 61 59 = some (.inl 64) := by decide +kernel
theorem gt1_11_199_34 : ab_gt ab_G1 11 199 34 = some (.inl 39) := by decide +kernel
theorem gt1_11_199_41 : ab_gt ab_G1 11 199 41 = some (.inl 46) := by decide +kernel
theorem gt1_11_199_47 : ab_gt ab_G1 11 199 47 = some (.inl 52) := by decide +kernel
theorem gt1_11_199_53 : ab_gt ab_G1 11 199 53 = some (.inl 58) := by decide +kernel
theorem gt1_11_199_59 : ab_gt ab_G1 11 199 59 = some (.inl 64) := by decide +kernel
theorem gt1_0_27_34 : ab_gt ab_G1 0 27 34 = some (.inr (.inl 5)) := by decide +kernel
theorem pt1_0_27_34 : ab_pt ab_G1 0 27 34 = some (5, 0) := by decide +kernel
theorem gt1_0_27_41 : ab_gt ab_G1 0 27 41 = some (.inr (.inl 5)) := by decide +kernel
theorem pt1_0_27_41 : ab_pt ab_G1 0 27 41 = some (5, 0) := by decide +kernel
theorem gt1_0_27_47 : ab_gt ab_G1 0 27 47 = some (.inr (.inl 5)) := by decide +kernel
theorem pt1_0_27_47 : ab_pt ab_G1 0 27 47 = some (5, 0) := by decide +kernel
theorem gt1_0_27_53 : ab_gt ab_G1 0 27 53 = some (.inr (.inl 5)) := by decide +kernel
theorem pt1_0_27_53 : ab_pt ab_G1 0 27 53 = some (5, 0) := by decide +kernel
theorem gt1_0_27_59 : ab_gt ab_G1 0 27 59 = some (.inr (.inl 5)) := by decide +kernel
theorem pt1_0_27_59 : ab_pt ab_G1 0 27 59 = some (5, 0) := by decide +kernel
theorem gt1_3_27_34 : ab_gt ab_G1 3 27 34 = some (.inr (.inl 5)) := by decide +kernel
theorem pt1_3_27_34 : ab_pt ab_G1 3 27 34 = some (5, 0) := by decide +kernel
theorem gt1_3_27_41 : ab_gt ab_G1 3 27 41 = some (.inr (.inl 5)) := by decide +kernel
theorem pt1_3_27_41 : ab_pt ab_G1 3 27 41 = some (5, 0) := by decide +kernel
theorem gt1_3_27_47 : ab_gt ab_G1 3 27 47 = some (.inr (.inl 5)) := by decide +kernel
theorem pt1_3_27_47 : ab_pt ab_G1 3 27 47 = some (5, 0) := by decide +kernel
theorem gt1_3_27_53 : ab_gt ab_G1 3 27 53 = some (.inr (.inl 5)) := by decide +kernel
theorem pt1_3_27_53 : ab_pt ab_G1 3 27 53 = some (5, 0) := by decide +kernel
theorem gt1_3_27_59 : ab_gt ab_G1 3 27 59 = some (.inr (.inl 5)) := by decide +kernel
theorem pt1_3_27_59 : ab_pt ab_G1 3 27 59 = some (5, 0) := by decide +kernel
theorem gt1_10_64_34 : ab_gt ab_G1 10 64 34 = some (.inr (.inl 5)) := by decide +kernel
theorem pt1_10_64_34 : ab_pt ab_G1 10 64 34 = some (5, 0) := by decide +kernel
theorem gt1_10_64_41 : ab_gt ab_G1 10 64 41 = some (.inr (.inl 5)) := by decide +kernel
theorem pt1_10_64_41 : ab_pt ab_G1 10 64 41 = some (5, 0) := by decide +kernel
theorem gt1_10_64_47 : ab_gt ab_G1 10 64 47 = some (.inr (.inl 5)) := by decide +kernel
theorem pt1_10_64_47 : ab_pt ab_G1 10 64 47 = some (5, 0) := by decide +kernel
theorem gt1_10_64_53 : ab_gt ab_G1 10 64 53 = some (.inr (.inl 5)) := by decide +kernel
theorem pt1_10_64_53 : ab_pt ab_G1 10 64 53 = some (5, 0) := by decide +kernel
theorem gt1_10_64_59 : ab_gt ab_G1 10 64 59 = some (.inr (.inl 5)) := by decide +kernel
theorem pt1_10_64_59 : ab_pt ab_G1 10 64 59 = some (5, 0) := by decide +kernel
theorem gt1_11_186_34 : ab_gt ab_G1 11 186 34 = some (.inr (.inl 5)) := by decide +kernel
theorem pt1_11_186_34 : ab_pt ab_G1 11 186 34 = some (5, 0) := by decide +kernel
theorem gt1_11_186_41 : ab_gt ab_G1 11 186 41 = some (.inr (.inl 5)) := by decide +kernel
theorem pt1_11_186_41 : ab_pt ab_G1 11 186 41 = some (5, 0) := by decide +kernel
theorem gt1_11_186_47 : ab_gt ab_G1 11 186 47 = some (.inr (.inl 5)) := by decide +kernel
theorem pt1_11_186_47 : ab_pt ab_G1 11 186 47 = some (5, 0) := by decide +kernel
theorem gt1_11_186_53 : ab_gt ab_G1 11 186 53 = some (.inr (.inl 5)) := by decide +kernel
theorem pt1_11_186_53 : ab_pt ab_G1 11 186 53 = some (5, 0) := by decide +kernel
theorem gt1_11_186_59 : ab_gt ab_G1 11 186 59 = some (.inr (.inl 5)) := by decide +kernel
theorem pt1_11_186_59 : ab_pt ab_G1 11 186 59 = some (5, 0) := by decide +kernel
theorem gt1_0_31_34 : ab_gt ab_G1 0 31 34 = some (.inr (.inl 6)) := by decide +kernel
theorem pt1_0_31_34 : ab_pt ab_G1 0 31 34 = some (6, 0) := by decide +kernel
theorem gt1_0_31_41 : ab_gt ab_G1 0 31 41 = some (.inr (.inl 6)) := by decide +kernel
theorem pt1_0_31_41 : ab_pt ab_G1 0 31 41 = some (6, 0) := by decide +kernel
theorem gt1_0_31_47 : ab_gt ab_G1 0 31 47 = some (.inr (.inl 6)) := by decide +kernel
theorem pt1_0_31_47 : ab_pt ab_G1 0 31 47 = some (6, 0) := by decide +kernel
theorem gt1_0_31_53 : ab_gt ab_G1 0 31 53 = some (.inr (.inl 6)) := by decide +kernel
theorem pt1_0_31_53 : ab_pt ab_G1 0 31 53 = some (6, 0) := by decide +kernel
theorem gt1_0_31_59 : ab_gt ab_G1 0 31 59 = some (.inr (.inl 6)) := by decide +kernel
theorem pt1_0_31_59 : ab_pt ab_G1 0 31 59 = some (6, 0) := by decide +kernel
theorem gt1_11_179_34 : ab_gt ab_G1 11 179 34 = some (.inr (.inl 6)) := by decide +kernel
theorem pt1_11_179_34 : ab_pt ab_G1 11 179 34 = some (6, 0) := by decide +kernel
theorem gt1_11_179_41 : ab_gt ab_G1 11 179 41 = some (.inr (.inl 6)) := by decide +kernel
theorem pt1_11_179_41 : ab_pt ab_G1 11 179 41 = some (6, 0) := by decide +kernel
theorem gt1_11_179_47 : ab_gt ab_G1 11 179 47 = some (.inr (.inl 6)) := by decide +kernel
theorem pt1_11_179_47 : ab_pt ab_G1 11 179 47 = some (6, 0) := by decide +kernel
theorem gt1_11_179_53 : ab_gt ab_G1 11 179 53 = some (.inr (.inl 6)) := by decide +kernel
theorem pt1_11_179_53 : ab_pt ab_G1 11 179 53 = some (6, 0) := by decide +kernel
theorem gt1_11_179_59 : ab_gt ab_G1 11 179 59 = some (.inr (.inl 6)) := by decide +kernel
theorem pt1_11_179_59 : ab_pt ab_G1 11 179 59 = some (6, 0) := by decide +kernel
theorem gt1_1_174_34 : ab_gt ab_G1 1 174 34 = some (.inr (.inl 6)) := by decide +kernel
theorem pt1_1_174_34 : ab_pt ab_G1 1 174 34 = some (6, 0) := by decide +kernel
theorem gt1_1_174_41 : ab_gt ab_G1 1 174 41 = some (.inr (.inl 6)) := by decide +kernel
theorem pt1_1_174_41 : ab_pt ab_G1 1 174 41 = some (6, 0) := by decide +kernel
theorem gt1_1_174_47 : ab_gt ab_G1 1 174 47 = some (.inr (.inl 6)) := by decide +kernel
theorem pt1_1_174_47 : ab_pt ab_G1 1 174 47 = some (6, 0) := by decide +kernel
theorem gt1_1_174_53 : ab_gt ab_G1 1 174 53 = some (.inr (.inl 6)) := by decide +kernel
theorem pt1_1_174_53 : ab_pt ab_G1 1 174 53 = some (6, 0) := by decide +kernel
theorem gt1_1_174_59 : ab_gt ab_G1 1 174 59 = some (.inr (.inl 6)) := by decide +kernel
theorem pt1_1_174_59 : ab_pt ab_G1 1 174 59 = some (6, 0) := by decide +kernel
theorem gt1_3_9_65 : ab_gt ab_G1 3 9 65 = some (.inl 71) := by decide +kernel
theorem gt1_3_15_65 : ab_gt ab_G1 3 15 65 = some (.inl 72) := by decide +kernel
theorem gt1_4_123_65 : ab_gt ab_G1 4 123 65 = some (.inl 72) := by decide +kernel
theorem gt1_3_18_65 : ab_gt ab_G1 3 18 65 = some (.inl 73) := by decide +kernel
theorem gt1_11_219_65 : ab_gt ab_G1 11 219 65 = some (.inl 73) := by decide +kernel
theorem gt1_3_21_65 : ab_gt ab_G1 3 21 65 = some (.inl 74) := by decide +kernel
theorem gt1_11_222_65 : ab_gt ab_G1 11 222 65 = some (.inl 74) := by decide +kernel
theorem gt1_3_24_65 : ab_gt ab_G1 3 24 65 = some (.inl 75) := by decide +kernel
theorem gt1_11_212_65 : ab_gt ab_G1 11 212 65 = some (.inl 75) := by decide +kernel
theorem gt1_8_34_65 : ab_gt ab_G1 8 34 65 = some (.inl 3) := by decide +kernel
theorem gt1_8_34_76 : ab_gt ab_G1 8 34 76 = some (.inl 3) := by decide +kernel
theorem gt1_3_34_65 : ab_gt ab_G1 3 34 65 = some (.inl 3) := by decide +kernel
theorem gt1_10_31_76 : ab_gt ab_G1 10 31 76 = some (.inl 3) := by decide +kernel
theorem gt1_8_38_65 : ab_gt ab_G1 8 38 65 = some (.inl 28) := by decide +kernel
theorem gt1_8_38_76 : ab_gt ab_G1 8 38 76 = some (.inl 28) := by decide +kernel
theorem gt1_3_56_65 : ab_gt ab_G1 3 56 65 = some (.inl 28) := by decide +kernel
theorem gt1_5_72_65 : ab_gt ab_G1 5 72 65 = some (.inl 28) := by decide +kernel
theorem gt1_4_78_65 : ab_gt ab_G1 4 78 65 = some (.inl 28) := by decide +kernel
theorem gt1_1_158_65 : ab_gt ab_G1 1 158 65 = some (.inl 28) := by decide +kernel
theorem gt1_8_9_65 : ab_gt ab_G1 8 9 65 = some (.inl 66) := by decide +kernel
theorem gt1_8_9_76 : ab_gt ab_G1 8 9 76 = some (.inl 77) := by decide +kernel
theorem gt1_4_71_65 : ab_gt ab_G1 4 71 65 = some (.inl 66) := by decide +kernel
theorem gt1_1_95_65 : ab_gt ab_G1 1 95 65 = some (.inl 66) := by decide +kernel
theorem gt1_5_121_65 : ab_gt ab_G1 5 121 65 = some (.inl 66) := by decide +kernel
theorem gt1_8_15_65 : ab_gt ab_G1 8 15 65 = some (.inl 67) := by decide +kernel
theorem gt1_8_15_76 : ab_gt ab_G1 8 15 76 = some (.inl 78) := by decide +kernel
theorem gt1_4_66_65 : ab_gt ab_G1 4 66 65 = some (.inl 67) := by decide +kernel
theorem gt1_3_53_65 : ab_gt ab_G1 3 53 65 = some (.inl 67) := by decide +kernel
theorem gt1_5_95_65 : ab_gt ab_G1 5 95 65 = some (.inl 67) := by decide +kernel
theorem gt1_8_18_65 : ab_gt ab_G1 8 18 65 = some (.inl 68) := by decide +kernel
theorem gt1_8_18_76 : ab_gt ab_G1 8 18 76 = some (.inl 79) := by decide +kernel
theorem gt1_3_76_65 : ab_gt ab_G1 3 76 65 = some (.inl 68) := by decide +kernel
theorem gt1_8_21_65 : ab_gt ab_G1 8 21 65 = some (.inl 69) := by decide +kernel
theorem gt1_8_21_76 : ab_gt ab_G1 8 21 76 = some (.inl 80) := by decide +kernel
theorem gt1_10_41_76 : ab_gt ab_G1 10 41 76 = some (.inl 80) := by decide +kernel
theorem gt1_8_24_65 : ab_gt ab_G1 8 24 65 = some (.inl 70) := by decide +kernel
theorem gt1_8_24_76 : ab_gt ab_G1 8 24 76 = some (.inl 81) := by decide +kernel
theorem gt1_8_27_65 : ab_gt ab_G1 8 27 65 = some (.inr (.inl 7)) := by decide +kernel
theorem pt1_8_27_65 : ab_pt ab_G1 8 27 65 = some (7, 0) := by decide +kernel
theorem gt1_8_27_76 : ab_gt ab_G1 8 27 76 = some (.inr (.inl 7)) := by decide +kernel
theorem pt1_8_27_76 : ab_pt ab_G1 8 27 76 = some (7, 0) := by decide +kernel
theorem gt1_3_33_65 : ab_gt ab_G1 3 33 65 = some (.inr (.inl 7)) := by decide +kernel
theorem pt1_3_33_65 : ab_pt ab_G1 3 33 65 = some (7, 0) := by decide +kernel
theorem gt1_10_53_76 : ab_gt ab_G1 10 53 76 = some (.inr (.inl 7)) := by decide +kernel
theorem pt1_10_53_76 : ab_pt ab_G1 10 53 76 = some (7, 0) := by decide +kernel
theorem gt1_4_140_65 : ab_gt ab_G1 4 140 65 = some (.inr (.inl 7)) := by decide +kernel
theorem pt1_4_140_65 : ab_pt ab_G1 4 140 65 = some (7, 0) := by decide +kernel
theorem gt1_8_31_65 : ab_gt ab_G1 8 31 65 = some (.inr (.inl 8)) := by decide +kernel
theorem pt1_8_31_65 : ab_pt ab_G1 8 31 65 = some (8, 0) := by decide +kernel
theorem gt1_8_31_76 : ab_gt ab_G1 8 31 76 = some (.inr (.inl 8)) := by decide +kernel
theorem pt1_8_31_76 : ab_pt ab_G1 8 31 76 = some (8, 0) := by decide +kernel
theorem gt1_3_43_65 : ab_gt ab_G1 3 43 65 = some (.inr (.inl 8)) := by decide +kernel
theorem pt1_3_43_65 : ab_pt ab_G1 3 43 65 = some (8, 0) := by decide +kernel
theorem gt1_10_9_76 : ab_gt ab_G1 10 9 76 = some (.inr (.inr 9)) := by decide +kernel
theorem pt1_10_9_76 : ab_pt ab_G1 10 9 76 = some (9, 1) := by decide +kernel
theorem gt1_10_15_76 : ab_gt ab_G1 10 15 76 = some (.inr (.inl 10)) := by decide +kernel
theorem pt1_10_15_76 : ab_pt ab_G1 10 15 76 = some (10, 2) := by decide +kernel
theorem gt1_10_21_76 : ab_gt ab_G1 10 21 76 = some (.inr (.inr 11)) := by decide +kernel
theorem pt1_10_21_76 : ab_pt ab_G1 10 21 76 = some (11, 1) := by decide +kernel
theorem gt1_11_315_76 : ab_gt ab_G1 11 315 76 = some (.inr (.inr 11)) := by decide +kernel
theorem pt1_11_315_76 : ab_pt ab_G1 11 315 76 = some (11, 1) := by decide +kernel
theorem gt1_10_24_76 : ab_gt ab_G1 10 24 76 = some (.inr (.inl 12)) := by decide +kernel
theorem pt1_10_24_76 : ab_pt ab_G1 10 24 76 = some (12, 0) := by decide +kernel
theorem gt1_11_318_76 : ab_gt ab_G1 11 318 76 = some (.inr (.inl 12)) := by decide +kernel
theorem pt1_11_318_76 : ab_pt ab_G1 11 318 76 = some (12, 0) := by decide +kernel
theorem gt1_10_28_76 : ab_gt ab_G1 10 28 76 = some (.inr (.inl 13)) := by decide +kernel
theorem pt1_10_28_76 : ab_pt ab_G1 10 28 76 = some (13, 0) := by decide +kernel
theorem gt1_11_321_76 : ab_gt ab_G1 11 321 76 = some (.inr (.inl 13)) := by decide +kernel
theorem pt1_11_321_76 : ab_pt ab_G1 11 321 76 = some (13, 0) := by decide +kernel
theorem gt1_4_49_82 : ab_gt ab_G1 4 49 82 = some (.inl 3) := by decide +kernel
theorem gt1_4_53_82 : ab_gt ab_G1 4 53 82 = some (.inl 34) := by decide +kernel
theorem gt1_4_57_82 : ab_gt ab_G1 4 57 82 = some (.inl 65) := by decide +kernel
theorem gt1_4_11_82 : ab_gt ab_G1 4 11 82 = some (.inl 83) := by decide +kernel
theorem gt1_4_15_82 : ab_gt ab_G1 4 15 82 = some (.inl 84) := by decide +kernel
theorem gt1_4_19_82 : ab_gt ab_G1 4 19 82 = some (.inl 85) := by decide +kernel
theorem gt1_11_251_82 : ab_gt ab_G1 11 251 82 = some (.inl 85) := by decide +kernel
theorem gt1_4_22_82 : ab_gt ab_G1 4 22 82 = some (.inl 86) := by decide +kernel
theorem gt1_11_254_82 : ab_gt ab_G1 11 254 82 = some (.inl 86) := by decide +kernel
theorem gt1_4_25_82 : ab_gt ab_G1 4 25 82 = some (.inl 87) := by decide +kernel
theorem gt1_11_257_82 : ab_gt ab_G1 11 257 82 = some (.inl 87) := by decide +kernel
theorem gt1_4_28_82 : ab_gt ab_G1 4 28 82 = some (.inr (.inl 8)) := by decide +kernel
theorem pt1_4_28_82 : ab_pt ab_G1 4 28 82 = some (8, 0) := by decide +kernel
theorem gt1_4_32_82 : ab_gt ab_G1 4 32 82 = some (.inr (.inl 9)) := by decide +kernel
theorem pt1_4_32_82 : ab_pt ab_G1 4 32 82 = some (9, 0) := by decide +kernel
theorem gt1_11_232_82 : ab_gt ab_G1 11 232 82 = some (.inr (.inl 9)) := by decide +kernel
theorem pt1_11_232_82 : ab_pt ab_G1 11 232 82 = some (9, 0) := by decide +kernel
theorem gt1_4_35_82 : ab_gt ab_G1 4 35 82 = some (.inr (.inr 10)) := by decide +kernel
theorem pt1_4_35_82 : ab_pt ab_G1 4 35 82 = some (10, 1) := by decide +kernel
theorem gt1_11_235_82 : ab_gt ab_G1 11 235 82 = some (.inr (.inr 10)) := by decide +kernel
theorem pt1_11_235_82 : ab_pt ab_G1 11 235 82 = some (10, 1) := by decide +kernel
theorem gt1_4_39_82 : ab_gt ab_G1 4 39 82 = some (.inr (.inl 11)) := by decide +kernel
theorem pt1_4_39_82 : ab_pt ab_G1 4 39 82 = some (11, 2) := by decide +kernel
theorem gt1_11_239_82 : ab_gt ab_G1 11 239 82 = some (.inr (.inl 11)) := by decide +kernel
theorem pt1_11_239_82 : ab_pt ab_G1 11 239 82 = some (11, 2) := by decide +kernel
theorem gt1_4_43_82 : ab_gt ab_G1 4 43 82 = some (.inr (.inl 12)) := by decide +kernel
theorem pt1_4_43_82 : ab_pt ab_G1 4 43 82 = some (12, 0) := by decide +kernel
theorem gt1_4_46_82 : ab_gt ab_G1 4 46 82 = some (.inr (.inl 13)) := by decide +kernel
theorem pt1_4_46_82 : ab_pt ab_G1 4 46 82 = some (13, 0) := by decide +kernel
theorem gt1_1_53_88 : ab_gt ab_G1 1 53 88 = some (.inl 3) := by decide +kernel
theorem gt1_1_57_88 : ab_gt ab_G1 1 57 88 = some (.inl 34) := by decide +kernel
theorem gt1_1_61_88 : ab_gt ab_G1 1 61 88 = some (.inl 65) := by decide +kernel
theorem gt1_1_65_88 : ab_gt ab_G1 1 65 88 = some (.inl 76) := by decide +kernel
theorem gt1_1_11_88 : ab_gt ab_G1 1 11 88 = some (.inl 89) := by decide +kernel
theorem gt1_1_15_88 : ab_gt ab_G1 1 15 88 = some (.inl 90) := by decide +kernel
theorem gt1_11_270_88 : ab_gt ab_G1 11 270 88 = some (.inl 90) := by decide +kernel
theorem gt1_1_19_88 : ab_gt ab_G1 1 19 88 = some (.inl 91) := by decide +kernel
theorem gt1_1_22_88 : ab_gt ab_G1 1 22 88 = some (.inl 92) := by decide +kernel
theorem gt1_1_25_88 : ab_gt ab_G1 1 25 88 = some (.inl 93) := by decide +kernel
theorem gt1_1_28_88 : ab_gt ab_G1 1 28 88 = some (.inl 94) := by decide +kernel
theorem gt1_1_31_88 : ab_gt ab_G1 1 31 88 = some (.inl 95) := by decide +kernel
theorem gt1_11_332_88 : ab_gt ab_G1 11 332 88 = some (.inl 95) := by decide +kernel
theorem gt1_1_34_88 : ab_gt ab_G1 1 34 88 = some (.inr (.inl 11)) := by decide +kernel
theorem pt1_1_34_88 : ab_pt ab_G1 1 34 88 = some (11, 0) := by decide +kernel
theorem gt1_1_38_88 : ab_gt ab_G1 1 38 88 = some (.inr (.inl 12)) := by decide +kernel
theorem pt1_1_38_88 : ab_pt ab_G1 1 38 88 = some (12, 0) := by decide +kernel
theorem gt1_11_267_88 : ab_gt ab_G1 11 267 88 = some (.inr (.inl 12)) := by decide +kernel
theorem pt1_11_267_88 : ab_pt ab_G1 11 267 88 = some (12, 0) := by decide +kernel
theorem gt1_1_41_88 : ab_gt ab_G1 1 41 88 = some (.inr (.inl 13)) := by decide +kernel
theorem pt1_1_41_88 : ab_pt ab_G1 1 41 88 = some (13, 0) := by decide +kernel
theorem gt1_1_44_88 : ab_gt ab_G1 1 44 88 = some (.inr (.inl 14)) := by decide +kernel
theorem pt1_1_44_88 : ab_pt ab_G1 1 44 88 = some (14, 0) := by decide +kernel
theorem gt1_1_47_88 : ab_gt ab_G1 1 47 88 = some (.inr (.inl 15)) := by decide +kernel
theorem pt1_1_47_88 : ab_pt ab_G1 1 47 88 = some (15, 0) := by decide +kernel
theorem gt1_1_50_88 : ab_gt ab_G1 1 50 88 = some (.inr (.inl 16)) := by decide +kernel
theorem pt1_1_50_88 : ab_pt ab_G1 1 50 88 = some (16, 0) := by decide +kernel
theorem gt1_5_50_96 : ab_gt ab_G1 5 50 96 = some (.inl 3) := by decide +kernel
theorem gt1_5_54_96 : ab_gt ab_G1 5 54 96 = some (.inl 34) := by decide +kernel
theorem gt1_5_58_96 : ab_gt ab_G1 5 58 96 = some (.inl 65) := by decide +kernel
theorem gt1_5_11_96 : ab_gt ab_G1 5 11 96 = some (.inl 97) := by decide +kernel
theorem gt1_5_15_96 : ab_gt ab_G1 5 15 96 = some (.inl 98) := by decide +kernel
theorem gt1_5_18_96 : ab_gt ab_G1 5 18 96 = some (.inl 99) := by decide +kernel
theorem gt1_5_22_96 : ab_gt ab_G1 5 22 96 = some (.inl 100) := by decide +kernel
theorem gt1_5_25_96 : ab_gt ab_G1 5 25 96 = some (.inl 101) := by decide +kernel
theorem gt1_5_28_96 : ab_gt ab_G1 5 28 96 = some (.inl 102) := by decide +kernel
theorem gt1_11_306_96 : ab_gt ab_G1 11 306 96 = some (.inl 102) := by decide +kernel
theorem gt1_5_31_96 : ab_gt ab_G1 5 31 96 = some (.inr (.inl 9)) := by decide +kernel
theorem pt1_5_31_96 : ab_pt ab_G1 5 31 96 = some (9, 0) := by decide +kernel
theorem gt1_11_298_96 : ab_gt ab_G1 11 298 96 = some (.inr (.inl 9)) := by decide +kernel
theorem pt1_11_298_96 : ab_pt ab_G1 11 298 96 = some (9, 0) := by decide +kernel
theorem gt1_5_35_96 : ab_gt ab_G1 5 35 96 = some (.inr (.inl 10)) := by decide +kernel
theorem pt1_5_35_96 : ab_pt ab_G1 5 35 96 = some (10, 0) := by decide +kernel
theorem gt1_5_38_96 : ab_gt ab_G1 5 38 96 = some (.inr (.inl 11)) := by decide +kernel
theorem pt1_5_38_96 : ab_pt ab_G1 5 38 96 = some (11, 0) := by decide +kernel
theorem gt1_5_41_96 : ab_gt ab_G1 5 41 96 = some (.inr (.inl 12)) := by decide +kernel
theorem pt1_5_41_96 : ab_pt ab_G1 5 41 96 = some (12, 0) := by decide +kernel
theorem gt1_5_44_96 : ab_gt ab_G1 5 44 96 = some (.inr (.inl 13)) := by decide +kernel
theorem pt1_5_44_96 : ab_pt ab_G1 5 44 96 = some (13, 0) := by decide +kernel
theorem gt1_5_47_96 : ab_gt ab_G1 5 47 96 = some (.inr (.inl 14)) := by decide +kernel
theorem pt1_5_47_96 : ab_pt ab_G1 5 47 96 = some (14, 0) := by decide +kernel
theorem gt1_11_10_0 : ab_gt ab_G1 11 10 0 = some (.inl 1) := by decide +kernel
theorem gt1_11_19_0 : ab_gt ab_G1 11 19 0 = some (.inl 3) := by decide +kernel
theorem gt1_11_23_0 : ab_gt ab_G1 11 23 0 = some (.inl 12) := by decide +kernel
theorem gt1_11_29_0 : ab_gt ab_G1 11 29 0 = some (.inl 21) := by decide +kernel
theorem gt1_11_38_0 : ab_gt ab_G1 11 38 0 = some (.inl 28) := by decide +kernel
theorem gt1_11_45_0 : ab_gt ab_G1 11 45 0 = some (.inl 34) := by decide +kernel
theorem gt1_11_49_0 : ab_gt ab_G1 11 49 0 = some (.inl 40) := by decide +kernel
theorem gt1_11_58_0 : ab_gt ab_G1 11 58 0 = some (.inl 65) := by decide +kernel
theorem gt1_11_65_0 : ab_gt ab_G1 11 65 0 = some (.inl 76) := by decide +kernel
theorem gt1_11_74_0 : ab_gt ab_G1 11 74 0 = some (.inl 82) := by decide +kernel
theorem gt1_11_83_0 : ab_gt ab_G1 11 83 0 = some (.inl 88) := by decide +kernel
theorem gt1_11_90_0 : ab_gt ab_G1 11 90 0 = some (.inl 96) := by decide +kernel
theorem gt1_11_94_0 : ab_gt ab_G1 11 94 0 = some (.inr (.inl 12)) := by decide +kernel
theorem pt1_11_94_0 : ab_pt ab_G1 11 94 0 = some (12, 0) := by decide +kernel
theorem gt1_11_98_0 : ab_gt ab_G1 11 98 0 = some (.inr (.inl 13)) := by decide +kernel
theorem pt1_11_98_0 : ab_pt ab_G1 11 98 0 = some (13, 0) := by decide +kernel
theorem gt1_11_101_0 : ab_gt ab_G1 11 101 0 = some (.inr (.inl 14)) := by decide +kernel
theorem pt1_11_101_0 : ab_pt ab_G1 11 101 0 = some (14, 0) := by decide +kernel
theorem gt1_11_104_0 : ab_gt ab_G1 11 104 0 = some (.inr (.inl 15)) := by decide +kernel
theorem pt1_11_104_0 : ab_pt ab_G1 11 104 0 = some (15, 0) := by decide +kernel
theorem gt2_12_326_0 : ab_gt ab_G2 12 326 0 = some (.inr (.inl 0)) := by decide +kernel
theorem pt2_12_326_0 : ab_pt ab_G2 12 326 0 = some (0, 0) := by decide +kernel
theorem gt2_12_272_0 : ab_gt ab_G2 12 272 0 = some (.inr (.inl 1)) := by decide +kernel
theorem pt2_12_272_0 : ab_pt ab_G2 12 272 0 = some (1, 0) := by decide +kernel
theorem gt2_12_320_0 : ab_gt ab_G2 12 320 0 = some (.inr (.inl 2)) := by decide +kernel
theorem pt2_12_320_0 : ab_pt ab_G2 12 320 0 = some (2, 0) := by decide +kernel
theorem gt2_12_323_0 : ab_gt ab_G2 12 323 0 = some (.inr (.inl 3)) := by decide +kernel
theorem pt2_12_323_0 : ab_pt ab_G2 12 323 0 = some (3, 0) := by decide +kernel
theorem gt2_12_7_0 : ab_gt ab_G2 12 7 0 = some (.inr (.inl 4)) := by decide +kernel
theorem pt2_12_7_0 : ab_pt ab_G2 12 7 0 = some (4, 0) := by decide +kernel
theorem gt2_12_13_0 : ab_gt ab_G2 12 13 0 = some (.inr (.inl 5)) := by decide +kernel
theorem pt2_12_13_0 : ab_pt ab_G2 12 13 0 = some (5, 0) := by decide +kernel
theorem gt2_12_16_0 : ab_gt ab_G2 12 16 0 = some (.inr (.inl 6)) := by decide +kernel
theorem pt2_12_16_0 : ab_pt ab_G2 12 16 0 = some (6, 0) := by decide +kernel
theorem gt2_12_19_0 : ab_gt ab_G2 12 19 0 = some (.inr (.inl 7)) := by decide +kernel
theorem pt2_12_19_0 : ab_pt ab_G2 12 19 0 = some (7, 0) := by decide +kernel
theorem gt2_12_22_0 : ab_gt ab_G2 12 22 0 = some (.inl 1) := by decide +kernel
theorem gt2_12_26_0 : ab_gt ab_G2 12 26 0 = some (.inl 2) := by decide +kernel
theorem gt2_12_29_0 : ab_gt ab_G2 12 29 0 = some (.inl 3) := by decide +kernel
theorem gt2_12_33_0 : ab_gt ab_G2 12 33 0 = some (.inl 4) := by decide +kernel
theorem gt2_12_36_0 : ab_gt ab_G2 12 36 0 = some (.inl 5) := by decide +kernel
theorem gt2_12_39_0 : ab_gt ab_G2 12 39 0 = some (.inl 6) := by decide +kernel
theorem gt2_12_42_0 : ab_gt ab_G2 12 42 0 = some (.inl 7) := by decide +kernel
theorem gt2_12_45_0 : ab_gt ab_G2 12 45 0 = some (.inl 8) := by decide +kernel
theorem gt2_12_48_0 : ab_gt ab_G2 12 48 0 = some (.inl 9) := by decide +kernel
theorem gt2_12_51_0 : ab_gt ab_G2 12 51 0 = some (.inl 10) := by decide +kernel
theorem gt2_12_54_0 : ab_gt ab_G2 12 54 0 = some (.inl 11) := by decide +kernel
theorem gt2_12_57_0 : ab_gt ab_G2 12 57 0 = some (.inl 12) := by decide +kernel
theorem gt2_12_60_0 : ab_gt ab_G2 12 60 0 = some (.inl 13) := by decide +kernel
theorem gt2_12_63_0 : ab_gt ab_G2 12 63 0 = some (.inl 14) := by decide +kernel
theorem gt2_12_269_0 : ab_gt ab_G2 12 269 0 = some (.inr (.inl 22)) := by decide +kernel
theorem pt2_12_269_0 : ab_pt ab_G2 12 269 0 = some (22, 0) := by decide +kernel
theorem gt2_12_285_0 : ab_gt ab_G2 12 285 0 = some (.inr (.inl 23)) := by decide +kernel
theorem pt2_12_285_0 : ab_pt ab_G2 12 285 0 = some (23, 0) := by decide +kernel
theorem gt2_12_298_0 : ab_gt ab_G2 12 298 0 = some (.inr (.inl 24)) := by decide +kernel
theorem pt2_12_298_0 : ab_pt ab_G2 12 298 0 = some (24, 0) := by decide +kernel
theorem gt2_12_301_0 : ab_gt ab_G2 12 301 0 = some (.inr (.inl 25)) := by decide +kernel
theorem pt2_12_301_0 : ab_pt ab_G2 12 301 0 = some (25, 0) := by decide +kernel
theorem gt2_12_304_0 : ab_gt ab_G2 12 304 0 = some (.inr (.inl 26)) := by decide +kernel
theorem pt2_12_304_0 : ab_pt ab_G2 12 304 0 = some (26, 0) := by decide +kernel
theorem gt2_12_307_0 : ab_gt ab_G2 12 307 0 = some (.inr (.inl 27)) := by decide +kernel
theorem pt2_12_307_0 : ab_pt ab_G2 12 307 0 = some (27, 0) := by decide +kernel
theorem gt2_12_66_0 : ab_gt ab_G2 12 66 0 = some (.inl 15) := by decide +kernel
theorem gt2_12_188_0 : ab_gt ab_G2 12 188 0 = some (.inr (.inl 29)) := by decide +kernel
theorem pt2_12_188_0 : ab_pt ab_G2 12 188 0 = some (29, 0) := by decide +kernel
theorem gt2_12_70_0 : ab_gt ab_G2 12 70 0 = some (.inr (.inl 30)) := by decide +kernel
theorem pt2_12_70_0 : ab_pt ab_G2 12 70 0 = some (30, 0) := by decide +kernel
theorem gt2_12_194_0 : ab_gt ab_G2 12 194 0 = some (.inr (.inl 31)) := by decide +kernel
theorem pt2_12_194_0 : ab_pt ab_G2 12 194 0 = some (31, 0) := by decide +kernel
theorem gt2_12_191_0 : ab_gt ab_G2 12 191 0 = some (.inr (.inl 32)) := by decide +kernel
theorem pt2_12_191_0 : ab_pt ab_G2 12 191 0 = some (32, 0) := by decide +kernel
theorem gt2_12_201_0 : ab_gt ab_G2 12 201 0 = some (.inr (.inl 33)) := by decide +kernel
theorem pt2_12_201_0 : ab_pt ab_G2 12 201 0 = some (33, 0) := by decide +kernel
theorem gt2_12_213_0 : ab_gt ab_G2 12 213 0 = some (.inr (.inl 34)) := by decide +kernel
theorem pt2_12_213_0 : ab_pt ab_G2 12 213 0 = some (34, 0) := by decide +kernel
theorem gt2_12_210_0 : ab_gt ab_G2 12 210 0 = some (.inr (.inl 35)) := by decide +kernel
theorem pt2_12_210_0 : ab_pt ab_G2 12 210 0 = some (35, 0) := by decide +kernel
theorem gt2_12_206_0 : ab_gt ab_G2 12 206 0 = some (.inr (.inr 36)) := by decide +kernel
theorem pt2_12_206_0 : ab_pt ab_G2 12 206 0 = some (36, 1) := by decide +kernel
theorem gt2_12_227_0 : ab_gt ab_G2 12 227 0 = some (.inr (.inl 37)) := by decide +kernel
theorem pt2_12_227_0 : ab_pt ab_G2 12 227 0 = some (37, 2) := by decide +kernel
theorem gt2_12_332_0 : ab_gt ab_G2 12 332 0 = some (.inr (.inl 38)) := by decide +kernel
theorem pt2_12_332_0 : ab_pt ab_G2 12 332 0 = some (38, 0) := by decide +kernel
theorem gt2_12_73_0 : ab_gt ab_G2 12 73 0 = some (.inr (.inl 39)) := by decide +kernel
theorem pt2_12_73_0 : ab_pt ab_G2 12 73 0 = some (39, 0) := by decide +kernel
theorem gt2_12_76_0 : ab_gt ab_G2 12 76 0 = some (.inl 16) := by decide +kernel
theorem gt2_12_79_0 : ab_gt ab_G2 12 79 0 = some (.inl 17) := by decide +kernel
theorem gt2_12_82_0 : ab_gt ab_G2 12 82 0 = some (.inl 18) := by decide +kernel
theorem gt2_12_85_0 : ab_gt ab_G2 12 85 0 = some (.inl 19) := by decide +kernel
theorem gt2_12_88_0 : ab_gt ab_G2 12 88 0 = some (.inl 20) := by decide +kernel
theorem gt2_12_345_0 : ab_gt ab_G2 12 345 0 = some (.inr (.inl 45)) := by decide +kernel
theorem pt2_12_345_0 : ab_pt ab_G2 12 345 0 = some (45, 0) := by decide +kernel
theorem gt2_12_348_0 : ab_gt ab_G2 12 348 0 = some (.inr (.inl 46)) := by decide +kernel
theorem pt2_12_348_0 : ab_pt ab_G2 12 348 0 = some (46, 0) := by decide +kernel
theorem gt2_12_351_0 : ab_gt ab_G2 12 351 0 = some (.inr (.inl 47)) := by decide +kernel
theorem pt2_12_351_0 : ab_pt ab_G2 12 351 0 = some (47, 0) := by decide +kernel
theorem gt2_12_91_0 : ab_gt ab_G2 12 91 0 = some (.inl 21) := by decide +kernel
theorem gt2_12_94_0 : ab_gt ab_G2 12 94 0 = some (.inl 22) := by decide +kernel
theorem gt2_12_97_0 : ab_gt ab_G2 12 97 0 = some (.inl 23) := by decide +kernel
theorem gt2_12_100_0 : ab_gt ab_G2 12 100 0 = some (.inl 24) := by decide +kernel
theorem gt2_12_103_0 : ab_gt ab_G2 12 103 0 = some (.inl 25) := by decide +kernel
theorem gt2_12_329_0 : ab_gt ab_G2 12 329 0 = some (.inr (.inl 53)) := by decide +kernel
theorem pt2_12_329_0 : ab_pt ab_G2 12 329 0 = some (53, 0) := by decide +kernel
theorem gt2_12_107_0 : ab_gt ab_G2 12 107 0 = some (.inl 26) := by decide +kernel
theorem gt2_12_110_0 : ab_gt ab_G2 12 110 0 = some (.inl 27) := by decide +kernel
theorem gt2_12_113_0 : ab_gt ab_G2 12 113 0 = some (.inl 28) := by decide +kernel
theorem gt2_12_116_0 : ab_gt ab_G2 12 116 0 = some (.inl 29) := by decide +kernel
theorem gt2_12_119_0 : ab_gt ab_G2 12 119 0 = some (.inl 30) := by decide +kernel
theorem gt2_12_122_0 : ab_gt ab_G2 12 122 0 = some (.inl 31) := by decide +kernel
theorem gt2_12_377_0 : ab_gt ab_G2 12 377 0 = some (.inr (.inr 60)) := by decide +kernel
theorem pt2_12_377_0 : ab_pt ab_G2 12 377 0 = some (60, 1) := by decide +kernel
theorem gt2_12_125_0 : ab_gt ab_G2 12 125 0 = some (.inl 32) := by decide +kernel
theorem gt2_12_413_0 : ab_gt ab_G2 12 413 0 = some (.inr (.inr 63)) := by decide +kernel
theorem pt2_12_413_0 : ab_pt ab_G2 12 413 0 = some (63, 1) := by decide +kernel
theorem gt2_12_416_0 : ab_gt ab_G2 12 416 0 = some (.inr (.inl 64)) := by decide +kernel
theorem pt2_12_416_0 : ab_pt ab_G2 12 416 0 = some (64, 0) := by decide +kernel
theorem gt2_12_419_0 : ab_gt ab_G2 12 419 0 = some (.inr (.inl 65)) := by decide +kernel
theorem pt2_12_419_0 : ab_pt ab_G2 12 419 0 = some (65, 2) := by decide +kernel
theorem gt2_12_128_0 : ab_gt ab_G2 12 128 0 = some (.inl 33) := by decide +kernel
theorem gt2_12_131_0 : ab_gt ab_G2 12 131 0 = some (.inl 34) := by decide +kernel
theorem gt2_12_134_0 : ab_gt ab_G2 12 134 0 = some (.inl 35) := by decide +kernel
theorem gt2_12_137_0 : ab_gt ab_G2 12 137 0 = some (.inl 36) := by decide +kernel
theorem gt2_12_140_0 : ab_gt ab_G2 12 140 0 = some (.inl 37) := by decide +kernel
theorem gt2_12_143_0 : ab_gt ab_G2 12 143 0 = some (.inl 38) := by decide +kernel
theorem gt2_12_445_0 : ab_gt ab_G2 12 445 0 = some (.inr (.inl 72)) := by decide +kernel
theorem pt2_12_445_0 : ab_pt ab_G2 12 445 0 = some (72, 0) := by decide +kernel
theorem gt2_12_448_0 : ab_gt ab_G2 12 448 0 = some (.inr (.inl 73)) := by decide +kernel
theorem pt2_12_448_0 : ab_pt ab_G2 12 448 0 = some (73, 0) := by decide +kernel
theorem gt2_12_451_0 : ab_gt ab_G2 12 451 0 = some (.inr (.inl 74)) := by decide +kernel
theorem pt2_12_451_0 : ab_pt ab_G2 12 451 0 = some (74, 0) := by decide +kernel
theorem gt2_12_482_0 : ab_gt ab_G2 12 482 0 = some (.inr (.inl 75)) := by decide +kernel
theorem pt2_12_482_0 : ab_pt ab_G2 12 482 0 = some (75, 0) := by decide +kernel
theorem gt2_12_489_0 : ab_gt ab_G2 12 489 0 = some (.inr (.inl 76)) := by decide +kernel
theorem pt2_12_489_0 : ab_pt ab_G2 12 489 0 = some (76, 0) := by decide +kernel
theorem gt2_12_146_0 : ab_gt ab_G2 12 146 0 = some (.inl 39) := by decide +kernel
theorem gt2_12_149_0 : ab_gt ab_G2 12 149 0 = some (.inl 40) := by decide +kernel
theorem gt2_12_498_0 : ab_gt ab_G2 12 498 0 = some (.inr (.inl 79)) := by decide +kernel
theorem pt2_12_498_0 : ab_pt ab_G2 12 498 0 = some (79, 0) := by decide +kernel
theorem gt2_12_501_0 : ab_gt ab_G2 12 501 0 = some (.inr (.inl 80)) := by decide +kernel
theorem pt2_12_501_0 : ab_pt ab_G2 12 501 0 = some (80, 0) := by decide +kernel
theorem gt2_12_152_0 : ab_gt ab_G2 12 152 0 = some (.inl 41) := by decide +kernel
theorem gt2_12_155_0 : ab_gt ab_G2 12 155 0 = some (.inl 42) := by decide +kernel
theorem gt2_12_158_0 : ab_gt ab_G2 12 158 0 = some (.inl 43) := by decide +kernel
theorem gt2_12_161_0 : ab_gt ab_G2 12 161 0 = some (.inl 44) := by decide +kernel
theorem gt2_12_164_0 : ab_gt ab_G2 12 164 0 = some (.inl 45) := by decide +kernel
theorem gt2_12_513_0 : ab_gt ab_G2 12 513 0 = some (.inr (.inl 86)) := by decide +kernel
theorem pt2_12_513_0 : ab_pt ab_G2 12 513 0 = some (86, 0) := by decide +kernel
theorem gt2_12_529_0 : ab_gt ab_G2 12 529 0 = some (.inr (.inl 87)) := by decide +kernel
theorem pt2_12_529_0 : ab_pt ab_G2 12 529 0 = some (87, 0) := by decide +kernel
theorem gt2_12_532_0 : ab_gt ab_G2 12 532 0 = some (.inr (.inl 88)) := by decide +kernel
theorem pt2_12_532_0 : ab_pt ab_G2 12 532 0 = some (88, 0) := by decide +kernel
theorem gt2_12_538_0 : ab_gt ab_G2 12 538 0 = some (.inr (.inl 89)) := by decide +kernel
theorem pt2_12_538_0 : ab_pt ab_G2 12 538 0 = some (89, 0) := by decide +kernel
theorem gt2_12_335_0 : ab_gt ab_G2 12 335 0 = some (.inr (.inl 90)) := by decide +kernel
theorem pt2_12_335_0 : ab_pt ab_G2 12 335 0 = some (90, 0) := by decide +kernel
theorem gt2_12_167_0 : ab_gt ab_G2 12 167 0 = some (.inl 46) := by decide +kernel
theorem gt2_12_170_0 : ab_gt ab_G2 12 170 0 = some (.inl 47) := by decide +kernel
theorem gt2_12_173_0 : ab_gt ab_G2 12 173 0 = some (.inl 48) := by decide +kernel
theorem gt2_12_176_0 : ab_gt ab_G2 12 176 0 = some (.inl 49) := by decide +kernel
theorem gt2_12_179_0 : ab_gt ab_G2 12 179 0 = some (.inl 50) := by decide +kernel
theorem gt2_12_182_0 : ab_gt ab_G2 12 182 0 = some (.inl 51) := by decide +kernel
theorem gt2_12_185_0 : ab_gt ab_G2 12 185 0 = some (.inl 52) := by decide +kernel
theorem kx6_93 : ab_kx 6 93 = none := by decide +kernel
theorem ks6_93 : ab_ks 6 93 = some 0 := by decide +kernel
theorem kx6_95 : ab_kx 6 95 = none := by decide +kernel
theorem ks6_95 : ab_ks 6 95 = some 1 := by decide +kernel
theorem kx6_97 : ab_kx 6 97 = none := by decide +kernel
theorem ks6_97 : ab_ks 6 97 = some 2 := by decide +kernel
theorem kx6_99 : ab_kx 6 99 = none := by decide +kernel
theorem ks6_99 : ab_ks 6 99 = some 3 := by decide +kernel
theorem kx6_101 : ab_kx 6 101 = none := by decide +kernel
theorem ks6_101 : ab_ks 6 101 = some 4 := by decide +kernel
theorem kx6_103 : ab_kx 6 103 = none := by decide +kernel
theorem ks6_103 : ab_ks 6 103 = some 5 := by decide +kernel
theorem kx6_105 : ab_kx 6 105 = none := by decide +kernel
theorem ks6_105 : ab_ks 6 105 = some 6 := by decide +kernel
theorem kx6_107 : ab_kx 6 107 = none := by decide +kernel
theorem ks6_107 : ab_ks 6 107 = some 7 := by decide +kernel
theorem kx6_109 : ab_kx 6 109 = none := by decide +kernel
theorem ks6_109 : ab_ks 6 109 = some 8 := by decide +kernel
theorem kx6_111 : ab_kx 6 111 = none := by decide +kernel
theorem ks6_111 : ab_ks 6 111 = some 9 := by decide +kernel
theorem kx6_113 : ab_kx 6 113 = none := by decide +kernel
theorem ks6_113 : ab_ks 6 113 = some 10 := by decide +kernel
theorem kx6_115 : ab_kx 6 115 = none := by decide +kernel
theorem ks6_115 : ab_ks 6 115 = some 11 := by decide +kernel
theorem kx6_58 : ab_kx 6 58 = none := by decide +kernel
theorem ks6_58 : ab_ks 6 58 = some 12 := by decide +kernel
theorem kx6_117 : ab_kx 6 117 = none := by decide +kernel
theorem ks6_117 : ab_ks 6 117 = some 13 := by decide +kernel
theorem vn1_69 : ab_vn 1 69 = some 3 := by decide +kernel
theorem vn1_73 : ab_vn 1 73 = some 0 := by decide +kernel
theorem vn1_81 : ab_vn 1 81 = some 1 := by decide +kernel
theorem vn1_87 : ab_vn 1 87 = some 2 := by decide +kernel
theorem vn1_91 : ab_vn 1 91 = some 1 := by decide +kernel
theorem vn1_98 : ab_vn 1 98 = some 2 := by decide +kernel
theorem vn1_102 : ab_vn 1 102 = some 0 := by decide +kernel
theorem vn1_105 : ab_vn 1 105 = some 1 := by decide +kernel
theorem vn1_110 : ab_vn 1 110 = some 1 := by decide +kernel
theorem vn1_114 : ab_vn 1 114 = some 2 := by decide +kernel
theorem vn1_118 : ab_vn 1 118 = some 2 := by decide +kernel
theorem vn1_121 : ab_vn 1 121 = some 2 := by decide +kernel
theorem vn1_162 : ab_vn 1 162 = some 2 := by decide +kernel
theorem vn1_168 : ab_vn 1 168 = some 0 := by decide +kernel
theorem vn1_179 : ab_vn 1 179 = some 2 := by decide +kernel
theorem vn3_49 : ab_vn 3 49 = some 2 := by decide +kernel
theorem vn3_100 : ab_vn 3 100 = some 1 := by decide +kernel
theorem vn3_107 : ab_vn 3 107 = some 2 := by decide +kernel
theorem vn4_74 : ab_vn 4 74 = some 2 := by decide +kernel
theorem vn4_86 : ab_vn 4 86 = some 1 := by decide +kernel
theorem vn4_98 : ab_vn 4 98 = some 2 := by decide +kernel
theorem vn4_105 : ab_vn 4 105 = some 2 := by decide +kernel
theorem vn4_126 : ab_vn 4 126 = some 0 := by decide +kernel
theorem vn4_129 : ab_vn 4 129 = some 1 := by decide +kernel
theorem vn4_133 : ab_vn 4 133 = some 1 := by decide +kernel
theorem vn4_137 : ab_vn 4 137 = some 2 := by decide +kernel
theorem vn4_143 : ab_vn 4 143 = some 1 := by decide +kernel
theorem vn4_146 : ab_vn 4 146 = some 1 := by decide +kernel
theorem vn4_150 : ab_vn 4 150 = some 0 := by decide +kernel
theorem vn4_154 : ab_vn 4 154 = some 3 := by decide +kernel
theorem vn4_158 : ab_vn 4 158 = some 0 := by decide +kernel
theorem vn4_162 : ab_vn 4 162 = some 1 := by decide +kernel
theorem vn4_174 : ab_vn 4 174 = some 3 := by decide +kernel
theorem vn4_183 : ab_vn 4 183 = some 2 := by decide +kernel
theorem vn5_62 : ab_vn 5 62 = some 1 := by decide +kernel
theorem vn5_68 : ab_vn 5 68 = some 2 := by decide +kernel
theorem vn5_97 : ab_vn 5 97 = some 0 := by decide +kernel
theorem vn5_100 : ab_vn 5 100 = some 1 := by decide +kernel
theorem vn5_104 : ab_vn 5 104 = some 2 := by decide +kernel
theorem vn5_108 : ab_vn 5 108 = some 2 := by decide +kernel
theorem vn5_111 : ab_vn 5 111 = some 3 := by decide +kernel
theorem vn5_124 : ab_vn 5 124 = some 2 := by decide +kernel
theorem vn5_127 : ab_vn 5 127 = some 1 := by decide +kernel
theorem vn6_34 : ab_vn 6 34 = some 1 := by decide +kernel
theorem vn6_38 : ab_vn 6 38 = some 0 := by decide +kernel
theorem vn6_46 : ab_vn 6 46 = some 1 := by decide +kernel
theorem vn6_53 : ab_vn 6 53 = some 0 := by decide +kernel
theorem vn6_60 : ab_vn 6 60 = some 1 := by decide +kernel
theorem vn6_64 : ab_vn 6 64 = some 3 := by decide +kernel
theorem vn6_74 : ab_vn 6 74 = some 0 := by decide +kernel
theorem vn6_119 : ab_vn 6 119 = some 2 := by decide +kernel
theorem vn6_129 : ab_vn 6 129 = some 1 := by decide +kernel
theorem vn6_132 : ab_vn 6 132 = some 1 := by decide +kernel
theorem vn6_135 : ab_vn 6 135 = some 1 := by decide +kernel
theorem vn6_138 : ab_vn 6 138 = some 2 := by decide +kernel
theorem vn6_146 : ab_vn 6 146 = some 1 := by decide +kernel
theorem vn6_149 : ab_vn 6 149 = some 0 := by decide +kernel
theorem vn6_159 : ab_vn 6 159 = some 1 := by decide +kernel
theorem vn6_164 : ab_vn 6 164 = some 0 := by decide +kernel
theorem vn6_170 : ab_vn 6 170 = some 0 := by decide +kernel
theorem vn6_173 : ab_vn 6 173 = some 1 := by decide +kernel
theorem vn6_186 : ab_vn 6 186 = some 2 := by decide +kernel
theorem vn6_208 : ab_vn 6 208 = some 4 := by decide +kernel
theorem vn6_212 : ab_vn 6 212 = some 3 := by decide +kernel
theorem vn7_51 : ab_vn 7 51 = some 2 := by decide +kernel
theorem vn7_55 : ab_vn 7 55 = some 0 := by decide +kernel
theorem vn7_58 : ab_vn 7 58 = some 0 := by decide +kernel
theorem vn7_61 : ab_vn 7 61 = some 1 := by decide +kernel
theorem vn7_77 : ab_vn 7 77 = some 2 := by decide +kernel
theorem vn7_86 : ab_vn 7 86 = some 3 := by decide +kernel
theorem vn7_107 : ab_vn 7 107 = some 3 := by decide +kernel
theorem vn7_129 : ab_vn 7 129 = some 1 := by decide +kernel
theorem vn7_133 : ab_vn 7 133 = some 2 := by decide +kernel
theorem vn8_42 : ab_vn 8 42 = some 3 := by decide +kernel
theorem vn8_47 : ab_vn 8 47 = some 0 := by decide +kernel
theorem vn8_50 : ab_vn 8 50 = some 0 := by decide +kernel
theorem vn8_58 : ab_vn 8 58 = some 1 := by decide +kernel
theorem vn8_62 : ab_vn 8 62 = some 1 := by decide +kernel
theorem vn8_76 : ab_vn 8 76 = some 1 := by decide +kernel
theorem vn8_79 : ab_vn 8 79 = some 0 := by decide +kernel
theorem vn8_116 : ab_vn 8 116 = some 2 := by decide +kernel
theorem vn8_119 : ab_vn 8 119 = some 4 := by decide +kernel
theorem vn9_70 : ab_vn 9 70 = some 1 := by decide +kernel
theorem vn9_81 : ab_vn 9 81 = some 3 := by decide +kernel
theorem vn10_56 : ab_vn 10 56 = some 2 := by decide +kernel
theorem vn10_60 : ab_vn 10 60 = some 0 := by decide +kernel
theorem vn10_73 : ab_vn 10 73 = some 2 := by decide +kernel
theorem vn10_76 : ab_vn 10 76 = some 2 := by decide +kernel
theorem vn11_107 : ab_vn 11 107 = some 2 := by decide +kernel
theorem vn11_114 : ab_vn 11 114 = some 1 := by decide +kernel
theorem vn11_118 : ab_vn 11 118 = some 2 := by decide +kernel
theorem vn11_125 : ab_vn 11 125 = some 1 := by decide +kernel
theorem vn11_128 : ab_vn 11 128 = some 0 := by decide +kernel
theorem vn11_134 : ab_vn 11 134 = some 0 := by decide +kernel
theorem vn11_140 : ab_vn 11 140 = some 3 := by decide +kernel
theorem vn11_154 : ab_vn 11 154 = some 2 := by decide +kernel
theorem vn11_158 : ab_vn 11 158 = some 1 := by decide +kernel
theorem vn11_162 : ab_vn 11 162 = some 1 := by decide +kernel
theorem vn11_172 : ab_vn 11 172 = some 1 := by decide +kernel
theorem vn11_175 : ab_vn 11 175 = some 2 := by decide +kernel
theorem vn11_182 : ab_vn 11 182 = some 2 := by decide +kernel
theorem vn11_202 : ab_vn 11 202 = some 1 := by decide +kernel
theorem vn11_209 : ab_vn 11 209 = some 0 := by decide +kernel
theorem vn11_215 : ab_vn 11 215 = some 1 := by decide +kernel
theorem vn11_225 : ab_vn 11 225 = some 1 := by decide +kernel
theorem vn11_229 : ab_vn 11 229 = some 1 := by decide +kernel
theorem vn11_243 : ab_vn 11 243 = some 0 := by decide +kernel
theorem vn11_247 : ab_vn 11 247 = some 2 := by decide +kernel
theorem vn11_260 : ab_vn 11 260 = some 2 := by decide +kernel
theorem vn11_263 : ab_vn 11 263 = some 4 := by decide +kernel
theorem vn11_273 : ab_vn 11 273 = some 1 := by decide +kernel
theorem vn11_276 : ab_vn 11 276 = some 2 := by decide +kernel
theorem vn11_279 : ab_vn 11 279 = some 5 := by decide +kernel
theorem vn11_285 : ab_vn 11 285 = some 1 := by decide +kernel
theorem vn11_288 : ab_vn 11 288 = some 2 := by decide +kernel
theorem vn11_291 : ab_vn 11 291 = some 2 := by decide +kernel
theorem vn11_295 : ab_vn 11 295 = some 3 := by decide +kernel
theorem vn11_299 : ab_vn 11 299 = some 1 := by decide +kernel
theorem vn11_302 : ab_vn 11 302 = some 4 := by decide +kernel
theorem vn11_309 : ab_vn 11 309 = some 2 := by decide +kernel
theorem vn11_312 : ab_vn 11 312 = some 1 := by decide +kernel
theorem vn11_324 : ab_vn 11 324 = some 1 := by decide +kernel
theorem vn11_328 : ab_vn 11 328 = some 4 := by decide +kernel
theorem vn11_336 : ab_vn 11 336 = some 2 := by decide +kernel
theorem vn11_339 : ab_vn 11 339 = some 1 := by decide +kernel
theorem vn11_341 : ab_vn 11 341 = some 0 := by decide +kernel
theorem vn11_347 : ab_vn 11 347 = some 0 := by decide +kernel
theorem vn11_350 : ab_vn 11 350 = some 0 := by decide +kernel
theorem vn12_197 : ab_vn 12 197 = some 0 := by decide +kernel
theorem vn12_259 : ab_vn 12 259 = some 1 := by decide +kernel
theorem vn12_263 : ab_vn 12 263 = some 0 := by decide +kernel
theorem vn12_266 : ab_vn 12 266 = some 0 := by decide +kernel
theorem vn12_275 : ab_vn 12 275 = some 0 := by decide +kernel
theorem vn12_279 : ab_vn 12 279 = some 0 := by decide +kernel
theorem vn12_282 : ab_vn 12 282 = some 2 := by decide +kernel
theorem vn12_288 : ab_vn 12 288 = some 2 := by decide +kernel
theorem vn12_292 : ab_vn 12 292 = some 0 := by decide +kernel
theorem vn12_295 : ab_vn 12 295 = some 0 := by decide +kernel
theorem vn12_310 : ab_vn 12 310 = some 0 := by decide +kernel
theorem vn12_313 : ab_vn 12 313 = some 1 := by decide +kernel
theorem vn12_317 : ab_vn 12 317 = some 0 := by decide +kernel
theorem vn12_338 : ab_vn 12 338 = some 0 := by decide +kernel
theorem vn12_341 : ab_vn 12 341 = some 2 := by decide +kernel
theorem vn12_354 : ab_vn 12 354 = some 1 := by decide +kernel
theorem vn12_364 : ab_vn 12 364 = some 2 := by decide +kernel
theorem vn12_370 : ab_vn 12 370 = some 1 := by decide +kernel
theorem vn12_374 : ab_vn 12 374 = some 2 := by decide +kernel
theorem vn12_380 : ab_vn 12 380 = some 1 := by decide +kernel
theorem vn12_383 : ab_vn 12 383 = some 0 := by decide +kernel
theorem vn12_388 : ab_vn 12 388 = some 1 := by decide +kernel
theorem vn12_391 : ab_vn 12 391 = some 2 := by decide +kernel
theorem vn12_397 : ab_vn 12 397 = some 2 := by decide +kernel
theorem vn12_400 : ab_vn 12 400 = some 1 := by decide +kernel
theorem vn12_404 : ab_vn 12 404 = some 1 := by decide +kernel
theorem vn12_407 : ab_vn 12 407 = some 0 := by decide +kernel
theorem vn12_410 : ab_vn 12 410 = some 1 := by decide +kernel
theorem vn12_422 : ab_vn 12 422 = some 3 := by decide +kernel
theorem vn12_426 : ab_vn 12 426 = some 2 := by decide +kernel
theorem vn12_430 : ab_vn 12 430 = some 1 := by decide +kernel
theorem vn12_433 : ab_vn 12 433 = some 1 := by decide +kernel
theorem vn12_436 : ab_vn 12 436 = some 1 := by decide +kernel
theorem vn12_439 : ab_vn 12 439 = some 1 := by decide +kernel
theorem vn12_442 : ab_vn 12 442 = some 2 := by decide +kernel
theorem vn12_458 : ab_vn 12 458 = some 3 := by decide +kernel
theorem vn12_461 : ab_vn 12 461 = some 2 := by decide +kernel
theorem vn12_464 : ab_vn 12 464 = some 3 := by decide +kernel
theorem vn12_468 : ab_vn 12 468 = some 4 := by decide +kernel
theorem vn12_472 : ab_vn 12 472 = some 1 := by decide +kernel
theorem vn12_475 : ab_vn 12 475 = some 3 := by decide +kernel
theorem vn12_485 : ab_vn 12 485 = some 2 := by decide +kernel
theorem vn12_494 : ab_vn 12 494 = some 1 := by decide +kernel
theorem vn12_504 : ab_vn 12 504 = some 2 := by decide +kernel
theorem vn12_507 : ab_vn 12 507 = some 2 := by decide +kernel
theorem vn12_510 : ab_vn 12 510 = some 1 := by decide +kernel
theorem vn12_518 : ab_vn 12 518 = some 2 := by decide +kernel
theorem vn12_521 : ab_vn 12 521 = some 0 := by decide +kernel
theorem vn12_525 : ab_vn 12 525 = some 2 := by decide +kernel
theorem vn12_535 : ab_vn 12 535 = some 1 := by decide +kernel
theorem vn12_541 : ab_vn 12 541 = some 2 := by decide +kernel
theorem vn12_544 : ab_vn 12 544 = some 0 := by decide +kernel
theorem vn12_547 : ab_vn 12 547 = some 0 := by decide +kernel
theorem vn12_550 : ab_vn 12 550 = some 0 := by decide +kernel
theorem moX7_lay : ab_own mdX7_lay = 7 ∧ ab_cc mdX7_lay = cX7_lay ∧ ab_ml mdX7_lay = 4 ∧ ab_rt mdX7_lay = none ∧ ab_fr mdX7_lay = 3 ∧ ab_lo mdX7_lay = 72 ∧ ab_na mdX7_lay = 3 := ⟨rfl, rfl, rfl, rfl, rfl, rfl, rfl⟩
theorem moX7_change : ab_own mdX7_change = 7 ∧ ab_cc mdX7_change = cX7_change ∧ ab_ml mdX7_change = 6 ∧ ab_rt mdX7_change = none ∧ ab_fr mdX7_change = 2 ∧ ab_lo mdX7_change = 47 ∧ ab_na mdX7_change = 3 := ⟨rfl, rfl, rfl, rfl, rfl, rfl, rfl⟩
theorem moX2_firstChange : ab_own mdX2_firstChange = 2 ∧ ab_cc mdX2_firstChange = cX2_firstChange ∧ ab_ml mdX2_firstChange = 2 ∧ ab_rt mdX2_firstChange = (some .int) ∧ ab_fr mdX2_firstChange = 0 ∧ ab_lo mdX2_firstChange = 0 ∧ ab_na mdX2_firstChange = 2 := ⟨rfl, rfl, rfl, rfl, rfl, rfl, rfl⟩
theorem moX7_shutBetween : ab_own mdX7_shutBetween = 7 ∧ ab_cc mdX7_shutBetween = cX7_shutBetween ∧ ab_ml mdX7_shutBetween = 5 ∧ ab_rt mdX7_shutBetween = none ∧ ab_fr mdX7_shutBetween = 1 ∧ ab_lo mdX7_shutBetween = 23 ∧ ab_na mdX7_shutBetween = 3 := ⟨rfl, rfl, rfl, rfl, rfl, rfl, rfl⟩
theorem moX9_joins : ab_own mdX9_joins = 9 ∧ ab_cc mdX9_joins = cX9_joins ∧ ab_ml mdX9_joins = 4 ∧ ab_rt mdX9_joins = (some .boolean) ∧ ab_fr mdX9_joins = 0 ∧ ab_lo mdX9_joins = 0 ∧ ab_na mdX9_joins = 4 := ⟨rfl, rfl, rfl, rfl, rfl, rfl, rfl⟩
theorem moX7_joinNeighbours : ab_own mdX7_joinNeighbours = 7 ∧ ab_cc mdX7_joinNeighbours = cX7_joinNeighbours ∧ ab_ml mdX7_joinNeighbours = 2 ∧ ab_rt mdX7_joinNeighbours = none ∧ ab_fr mdX7_joinNeighbours = 1 ∧ ab_lo mdX7_joinNeighbours = 23 ∧ ab_na mdX7_joinNeighbours = 1 := ⟨rfl, rfl, rfl, rfl, rfl, rfl, rfl⟩
theorem moJ7_fill_53178 : ab_own mdJ7_fill_53178 = 27 ∧ ab_cc mdJ7_fill_53178 = cJ7_fill_53178 ∧ ab_ml mdJ7_fill_53178 = 4 ∧ ab_rt mdJ7_fill_53178 = none ∧ ab_fr mdJ7_fill_53178 = 0 ∧ ab_lo mdJ7_fill_53178 = 0 ∧ ab_na mdJ7_fill_53178 = 2 := ⟨rfl, rfl, rfl, rfl, rfl, rfl, rfl⟩
theorem moX7_join : ab_own mdX7_join = 7 ∧ ab_cc mdX7_join = cX7_join ∧ ab_ml mdX7_join = 4 ∧ ab_rt mdX7_join = none ∧ ab_fr mdX7_join = 0 ∧ ab_lo mdX7_join = 0 ∧ ab_na mdX7_join = 4 := ⟨rfl, rfl, rfl, rfl, rfl, rfl, rfl⟩
theorem moX7_joinAll : ab_own mdX7_joinAll = 7 ∧ ab_cc mdX7_joinAll = cX7_joinAll ∧ ab_ml mdX7_joinAll = 6 ∧ ab_rt mdX7_joinAll = none ∧ ab_fr mdX7_joinAll = 0 ∧ ab_lo mdX7_joinAll = 0 ∧ ab_na mdX7_joinAll = 1 := ⟨rfl, rfl, rfl, rfl, rfl, rfl, rfl⟩
theorem moX11_feed : ab_own mdX11_feed = 11 ∧ ab_cc mdX11_feed = cX11_feed ∧ ab_ml mdX11_feed = 6 ∧ ab_rt mdX11_feed = (some .int) ∧ ab_fr mdX11_feed = 1 ∧ ab_lo mdX11_feed = 22 ∧ ab_na mdX11_feed = 6 := ⟨rfl, rfl, rfl, rfl, rfl, rfl, rfl⟩
theorem moX6_append : ab_own mdX6_append = 6 ∧ ab_cc mdX6_append = cX6_append ∧ ab_ml mdX6_append = 3 ∧ ab_rt mdX6_append = none ∧ ab_fr mdX6_append = 0 ∧ ab_lo mdX6_append = 0 ∧ ab_na mdX6_append = 2 := ⟨rfl, rfl, rfl, rfl, rfl, rfl, rfl⟩
theorem moX11_town : ab_own mdX11_town = 11 ∧ ab_cc mdX11_town = cX11_town ∧ ab_ml mdX11_town = 3 ∧ ab_rt mdX11_town = (some .int) ∧ ab_fr mdX11_town = 11 ∧ ab_lo mdX11_town = 239 ∧ ab_na mdX11_town = 2 := ⟨rfl, rfl, rfl, rfl, rfl, rfl, rfl⟩
theorem moX6_readTown : ab_own mdX6_readTown = 6 ∧ ab_cc mdX6_readTown = cX6_readTown ∧ ab_ml mdX6_readTown = 4 ∧ ab_rt mdX6_readTown = (some .boolean) ∧ ab_fr mdX6_readTown = 10 ∧ ab_lo mdX6_readTown = 216 ∧ ab_na mdX6_readTown = 3 := ⟨rfl, rfl, rfl, rfl, rfl, rfl, rfl⟩
theorem moX6_begin : ab_own mdX6_begin = 6 ∧ ab_cc mdX6_begin = cX6_begin ∧ ab_ml mdX6_begin = 2 ∧ ab_rt mdX6_begin = none ∧ ab_fr mdX6_begin = 2 ∧ ab_lo mdX6_begin = 41 ∧ ab_na mdX6_begin = 2 := ⟨rfl, rfl, rfl, rfl, rfl, rfl, rfl⟩
theorem moX6_advance : ab_own mdX6_advance = 6 ∧ ab_cc mdX6_advance = cX6_advance ∧ ab_ml mdX6_advance = 2 ∧ ab_rt mdX6_advance = none ∧ ab_fr mdX6_advance = 1 ∧ ab_lo mdX6_advance = 20 ∧ ab_na mdX6_advance = 1 := ⟨rfl, rfl, rfl, rfl, rfl, rfl, rfl⟩
theorem moX6_isLetter : ab_own mdX6_isLetter = 6 ∧ ab_cc mdX6_isLetter = cX6_isLetter ∧ ab_ml mdX6_isLetter = 1 ∧ ab_rt mdX6_isLetter = (some .boolean) ∧ ab_fr mdX6_isLetter = 0 ∧ ab_lo mdX6_isLetter = 0 ∧ ab_na mdX6_isLetter = 1 := ⟨rfl, rfl, rfl, rfl, rfl, rfl, rfl⟩
theorem moX6_isDigit : ab_own mdX6_isDigit = 6 ∧ ab_cc mdX6_isDigit = cX6_isDigit ∧ ab_ml mdX6_isDigit = 1 ∧ ab_rt mdX6_isDigit = (some .boolean) ∧ ab_fr mdX6_isDigit = 0 ∧ ab_lo mdX6_isDigit = 0 ∧ ab_na mdX6_isDigit = 1 := ⟨rfl, rfl, rfl, rfl, rfl, rfl, rfl⟩
theorem moX9_clear : ab_own mdX9_clear = 9 ∧ ab_cc mdX9_clear = cX9_clear ∧ ab_ml mdX9_clear = 1 ∧ ab_rt mdX9_clear = none ∧ ab_fr mdX9_clear = 1 ∧ ab_lo mdX9_clear = 23 ∧ ab_na mdX9_clear = 1 := ⟨rfl, rfl, rfl, rfl, rfl, rfl, rfl⟩
theorem moX6_takeStatement : ab_own mdX6_takeStatement = 6 ∧ ab_cc mdX6_takeStatement = cX6_takeStatement ∧ ab_ml mdX6_takeStatement = 3 ∧ ab_rt mdX6_takeStatement = (some .boolean) ∧ ab_fr mdX6_takeStatement = 9 ∧ ab_lo mdX6_takeStatement = 194 ∧ ab_na mdX6_takeStatement = 2 := ⟨rfl, rfl, rfl, rfl, rfl, rfl, rfl⟩
theorem moX6_takeWord : ab_own mdX6_takeWord = 6 ∧ ab_cc mdX6_takeWord = cX6_takeWord ∧ ab_ml mdX6_takeWord = 2 ∧ ab_rt mdX6_takeWord = (some .boolean) ∧ ab_fr mdX6_takeWord = 6 ∧ ab_lo mdX6_takeWord = 128 ∧ ab_na mdX6_takeWord = 2 := ⟨rfl, rfl, rfl, rfl, rfl, rfl, rfl⟩
theorem moX6_isWord : ab_own mdX6_isWord = 6 ∧ ab_cc mdX6_isWord = cX6_isWord ∧ ab_ml mdX6_isWord = 3 ∧ ab_rt mdX6_isWord = (some .boolean) ∧ ab_fr mdX6_isWord = 5 ∧ ab_lo mdX6_isWord = 106 ∧ ab_na mdX6_isWord = 2 := ⟨rfl, rfl, rfl, rfl, rfl, rfl, rfl⟩
theorem moX6_takeCorner : ab_own mdX6_takeCorner = 6 ∧ ab_cc mdX6_takeCorner = cX6_takeCorner ∧ ab_ml mdX6_takeCorner = 5 ∧ ab_rt mdX6_takeCorner = (some .boolean) ∧ ab_fr mdX6_takeCorner = 8 ∧ ab_lo mdX6_takeCorner = 170 ∧ ab_na mdX6_takeCorner = 2 := ⟨rfl, rfl, rfl, rfl, rfl, rfl, rfl⟩
theorem moX6_takeNewName : ab_own mdX6_takeNewName = 6 ∧ ab_cc mdX6_takeNewName = cX6_takeNewName ∧ ab_ml mdX6_takeNewName = 3 ∧ ab_rt mdX6_takeNewName = (some .boolean) ∧ ab_fr mdX6_takeNewName = 7 ∧ ab_lo mdX6_takeNewName = 148 ∧ ab_na mdX6_takeNewName = 2 := ⟨rfl, rfl, rfl, rfl, rfl, rfl, rfl⟩
theorem moX6_isReserved : ab_own mdX6_isReserved = 6 ∧ ab_cc mdX6_isReserved = cX6_isReserved ∧ ab_ml mdX6_isReserved = 1 ∧ ab_rt mdX6_isReserved = (some .boolean) ∧ ab_fr mdX6_isReserved = 6 ∧ ab_lo mdX6_isReserved = 128 ∧ ab_na mdX6_isReserved = 1 := ⟨rfl, rfl, rfl, rfl, rfl, rfl, rfl⟩
theorem moX6_cornerNamed : ab_own mdX6_cornerNamed = 6 ∧ ab_cc mdX6_cornerNamed = cX6_cornerNamed ∧ ab_ml mdX6_cornerNamed = 3 ∧ ab_rt mdX6_cornerNamed = (some .int) ∧ ab_fr mdX6_cornerNamed = 1 ∧ ab_lo mdX6_cornerNamed = 23 ∧ ab_na mdX6_cornerNamed = 2 := ⟨rfl, rfl, rfl, rfl, rfl, rfl, rfl⟩
theorem moX6_isName : ab_own mdX6_isName = 6 ∧ ab_cc mdX6_isName = cX6_isName ∧ ab_ml mdX6_isName = 4 ∧ ab_rt mdX6_isName = (some .boolean) ∧ ab_fr mdX6_isName = 0 ∧ ab_lo mdX6_isName = 0 ∧ ab_na mdX6_isName = 3 := ⟨rfl, rfl, rfl, rfl, rfl, rfl, rfl⟩
theorem moX6_takeNumber : ab_own mdX6_takeNumber = 6 ∧ ab_cc mdX6_takeNumber = cX6_takeNumber ∧ ab_ml mdX6_takeNumber = 4 ∧ ab_rt mdX6_takeNumber = (some .boolean) ∧ ab_fr mdX6_takeNumber = 2 ∧ ab_lo mdX6_takeNumber = 41 ∧ ab_na mdX6_takeNumber = 3 := ⟨rfl, rfl, rfl, rfl, rfl, rfl, rfl⟩
theorem moX6_breadNamed : ab_own mdX6_breadNamed = 6 ∧ ab_cc mdX6_breadNamed = cX6_breadNamed ∧ ab_ml mdX6_breadNamed = 1 ∧ ab_rt mdX6_breadNamed = (some .int) ∧ ab_fr mdX6_breadNamed = 6 ∧ ab_lo mdX6_breadNamed = 128 ∧ ab_na mdX6_breadNamed = 1 := ⟨rfl, rfl, rfl, rfl, rfl, rfl, rfl⟩
theorem moX6_takeStreet : ab_own mdX6_takeStreet = 6 ∧ ab_cc mdX6_takeStreet = cX6_takeStreet ∧ ab_ml mdX6_takeStreet = 6 ∧ ab_rt mdX6_takeStreet = (some .boolean) ∧ ab_fr mdX6_takeStreet = 7 ∧ ab_lo mdX6_takeStreet = 149 ∧ ab_na mdX6_takeStreet = 2 := ⟨rfl, rfl, rfl, rfl, rfl, rfl, rfl⟩
theorem moX9_hasStreet : ab_own mdX9_hasStreet = 9 ∧ ab_cc mdX9_hasStreet = cX9_hasStreet ∧ ab_ml mdX9_hasStreet = 4 ∧ ab_rt mdX9_hasStreet = (some .boolean) ∧ ab_fr mdX9_hasStreet = 1 ∧ ab_lo mdX9_hasStreet = 23 ∧ ab_na mdX9_hasStreet = 3 := ⟨rfl, rfl, rfl, rfl, rfl, rfl, rfl⟩
theorem moX6_takeAsk : ab_own mdX6_takeAsk = 6 ∧ ab_cc mdX6_takeAsk = cX6_takeAsk ∧ ab_ml mdX6_takeAsk = 3 ∧ ab_rt mdX6_takeAsk = (some .boolean) ∧ ab_fr mdX6_takeAsk = 3 ∧ ab_lo mdX6_takeAsk = 64 ∧ ab_na mdX6_takeAsk = 2 := ⟨rfl, rfl, rfl, rfl, rfl, rfl, rfl⟩
theorem moX6_takeEnd : ab_own mdX6_takeEnd = 6 ∧ ab_cc mdX6_takeEnd = cX6_takeEnd ∧ ab_ml mdX6_takeEnd = 1 ∧ ab_rt mdX6_takeEnd = (some .boolean) ∧ ab_fr mdX6_takeEnd = 2 ∧ ab_lo mdX6_takeEnd = 41 ∧ ab_na mdX6_takeEnd = 1 := ⟨rfl, rfl, rfl, rfl, rfl, rfl, rfl⟩
theorem moX9_copyFrom : ab_own mdX9_copyFrom = 9 ∧ ab_cc mdX9_copyFrom = cX9_copyFrom ∧ ab_ml mdX9_copyFrom = 2 ∧ ab_rt mdX9_copyFrom = none ∧ ab_fr mdX9_copyFrom = 1 ∧ ab_lo mdX9_copyFrom = 60 ∧ ab_na mdX9_copyFrom = 2 := ⟨rfl, rfl, rfl, rfl, rfl, rfl, rfl⟩
theorem moX0_clear : ab_own mdX0_clear = 0 ∧ ab_cc mdX0_clear = cX0_clear ∧ ab_ml mdX0_clear = 1 ∧ ab_rt mdX0_clear = none ∧ ab_fr mdX0_clear = 0 ∧ ab_lo mdX0_clear = 0 ∧ ab_na mdX0_clear = 1 := ⟨rfl, rfl, rfl, rfl, rfl, rfl, rfl⟩
theorem moX11_changeRoads : ab_own mdX11_changeRoads = 11 ∧ ab_cc mdX11_changeRoads = cX11_changeRoads ∧ ab_ml mdX11_changeRoads = 1 ∧ ab_rt mdX11_changeRoads = none ∧ ab_fr mdX11_changeRoads = 4 ∧ ab_lo mdX11_changeRoads = 95 ∧ ab_na mdX11_changeRoads = 1 := ⟨rfl, rfl, rfl, rfl, rfl, rfl, rfl⟩
theorem moX11_law : ab_own mdX11_law = 11 ∧ ab_cc mdX11_law = cX11_law ∧ ab_ml mdX11_law = 3 ∧ ab_rt mdX11_law = (some .int) ∧ ab_fr mdX11_law = 9 ∧ ab_lo mdX11_law = 199 ∧ ab_na mdX11_law = 2 := ⟨rfl, rfl, rfl, rfl, rfl, rfl, rfl⟩
theorem moX6_readLaw : ab_own mdX6_readLaw = 6 ∧ ab_cc mdX6_readLaw = cX6_readLaw ∧ ab_ml mdX6_readLaw = 7 ∧ ab_rt mdX6_readLaw = (some .boolean) ∧ ab_fr mdX6_readLaw = 8 ∧ ab_lo mdX6_readLaw = 173 ∧ ab_na mdX6_readLaw = 4 := ⟨rfl, rfl, rfl, rfl, rfl, rfl, rfl⟩
theorem moX2_clearNext : ab_own mdX2_clearNext = 2 ∧ ab_cc mdX2_clearNext = cX2_clearNext ∧ ab_ml mdX2_clearNext = 1 ∧ ab_rt mdX2_clearNext = none ∧ ab_fr mdX2_clearNext = 0 ∧ ab_lo mdX2_clearNext = 0 ∧ ab_na mdX2_clearNext = 1 := ⟨rfl, rfl, rfl, rfl, rfl, rfl, rfl⟩
theorem moX6_takeRule : ab_own mdX6_takeRule = 6 ∧ ab_cc mdX6_takeRule = cX6_takeRule ∧ ab_ml mdX6_takeRule = 5 ∧ ab_rt mdX6_takeRule = (some .boolean) ∧ ab_fr mdX6_takeRule = 7 ∧ ab_lo mdX6_takeRule = 149 ∧ ab_na mdX6_takeRule = 4 := ⟨rfl, rfl, rfl, rfl, rfl, rfl, rfl⟩
theorem moX6_takeBetween : ab_own mdX6_takeBetween = 6 ∧ ab_cc mdX6_takeBetween = cX6_takeBetween ∧ ab_ml mdX6_takeBetween = 7 ∧ ab_rt mdX6_takeBetween = (some .boolean) ∧ ab_fr mdX6_takeBetween = 3 ∧ ab_lo mdX6_takeBetween = 64 ∧ ab_na mdX6_takeBetween = 5 := ⟨rfl, rfl, rfl, rfl, rfl, rfl, rfl⟩
theorem moX2_addChange : ab_own mdX2_addChange = 2 ∧ ab_cc mdX2_addChange = cX2_addChange ∧ ab_ml mdX2_addChange = 5 ∧ ab_rt mdX2_addChange = none ∧ ab_fr mdX2_addChange = 0 ∧ ab_lo mdX2_addChange = 0 ∧ ab_na mdX2_addChange = 4 := ⟨rfl, rfl, rfl, rfl, rfl, rfl, rfl⟩
theorem moX11_fault : ab_own mdX11_fault = 11 ∧ ab_cc mdX11_fault = cX11_fault ∧ ab_ml mdX11_fault = 1 ∧ ab_rt mdX11_fault = (some .int) ∧ ab_fr mdX11_fault = 0 ∧ ab_lo mdX11_fault = 0 ∧ ab_na mdX11_fault = 1 := ⟨rfl, rfl, rfl, rfl, rfl, rfl, rfl⟩
theorem moX11_told : ab_own mdX11_told = 11 ∧ ab_cc mdX11_told = cX11_told ∧ ab_ml mdX11_told = 2 ∧ ab_rt mdX11_told = (some .int) ∧ ab_fr mdX11_told = 1 ∧ ab_lo mdX11_told = 22 ∧ ab_na mdX11_told = 2 := ⟨rfl, rfl, rfl, rfl, rfl, rfl, rfl⟩
theorem moX9_streetTold : ab_own mdX9_streetTold = 9 ∧ ab_cc mdX9_streetTold = cX9_streetTold ∧ ab_ml mdX9_streetTold = 3 ∧ ab_rt mdX9_streetTold = (some .int) ∧ ab_fr mdX9_streetTold = 0 ∧ ab_lo mdX9_streetTold = 0 ∧ ab_na mdX9_streetTold = 3 := ⟨rfl, rfl, rfl, rfl, rfl, rfl, rfl⟩
theorem moX9_plainTold : ab_own mdX9_plainTold = 9 ∧ ab_cc mdX9_plainTold = cX9_plainTold ∧ ab_ml mdX9_plainTold = 2 ∧ ab_rt mdX9_plainTold = (some .int) ∧ ab_fr mdX9_plainTold = 0 ∧ ab_lo mdX9_plainTold = 0 ∧ ab_na mdX9_plainTold = 2 := ⟨rfl, rfl, rfl, rfl, rfl, rfl, rfl⟩
theorem moX11_name : ab_own mdX11_name = 11 ∧ ab_cc mdX11_name = cX11_name ∧ ab_ml mdX11_name = 3 ∧ ab_rt mdX11_name = (some .int) ∧ ab_fr mdX11_name = 1 ∧ ab_lo mdX11_name = 21 ∧ ab_na mdX11_name = 3 := ⟨rfl, rfl, rfl, rfl, rfl, rfl, rfl⟩
theorem moX9_isCorner : ab_own mdX9_isCorner = 9 ∧ ab_cc mdX9_isCorner = cX9_isCorner ∧ ab_ml mdX9_isCorner = 2 ∧ ab_rt mdX9_isCorner = (some .boolean) ∧ ab_fr mdX9_isCorner = 0 ∧ ab_lo mdX9_isCorner = 0 ∧ ab_na mdX9_isCorner = 2 := ⟨rfl, rfl, rfl, rfl, rfl, rfl, rfl⟩
theorem moX11_far : ab_own mdX11_far = 11 ∧ ab_cc mdX11_far = cX11_far ∧ ab_ml mdX11_far = 4 ∧ ab_rt mdX11_far = (some .int) ∧ ab_fr mdX11_far = 3 ∧ ab_lo mdX11_far = 74 ∧ ab_na mdX11_far = 3 := ⟨rfl, rfl, rfl, rfl, rfl, rfl, rfl⟩
theorem moX9_isSpot : ab_own mdX9_isSpot = 9 ∧ ab_cc mdX9_isSpot = cX9_isSpot ∧ ab_ml mdX9_isSpot = 3 ∧ ab_rt mdX9_isSpot = (some .boolean) ∧ ab_fr mdX9_isSpot = 1 ∧ ab_lo mdX9_isSpot = 21 ∧ ab_na mdX9_isSpot = 2 := ⟨rfl, rfl, rfl, rfl, rfl, rfl, rfl⟩
theorem moX9_streetOf : ab_own mdX9_streetOf = 9 ∧ ab_cc mdX9_streetOf = cX9_streetOf ∧ ab_ml mdX9_streetOf = 1 ∧ ab_rt mdX9_streetOf = (some .int) ∧ ab_fr mdX9_streetOf = 0 ∧ ab_lo mdX9_streetOf = 0 ∧ ab_na mdX9_streetOf = 1 := ⟨rfl, rfl, rfl, rfl, rfl, rfl, rfl⟩
theorem moX9_placeOf : ab_own mdX9_placeOf = 9 ∧ ab_cc mdX9_placeOf = cX9_placeOf ∧ ab_ml mdX9_placeOf = 1 ∧ ab_rt mdX9_placeOf = (some .int) ∧ ab_fr mdX9_placeOf = 0 ∧ ab_lo mdX9_placeOf = 0 ∧ ab_na mdX9_placeOf = 1 := ⟨rfl, rfl, rfl, rfl, rfl, rfl, rfl⟩
theorem moX7_between : ab_own mdX7_between = 7 ∧ ab_cc mdX7_between = cX7_between ∧ ab_ml mdX7_between = 6 ∧ ab_rt mdX7_between = (some .int) ∧ ab_fr mdX7_between = 2 ∧ ab_lo mdX7_between = 49 ∧ ab_na mdX7_between = 3 := ⟨rfl, rfl, rfl, rfl, rfl, rfl, rfl⟩
theorem moX7_isShut : ab_own mdX7_isShut = 7 ∧ ab_cc mdX7_isShut = cX7_isShut ∧ ab_ml mdX7_isShut = 2 ∧ ab_rt mdX7_isShut = (some .boolean) ∧ ab_fr mdX7_isShut = 1 ∧ ab_lo mdX7_isShut = 20 ∧ ab_na mdX7_isShut = 2 := ⟨rfl, rfl, rfl, rfl, rfl, rfl, rfl⟩
theorem moX7_toCorner : ab_own mdX7_toCorner = 7 ∧ ab_cc mdX7_toCorner = cX7_toCorner ∧ ab_ml mdX7_toCorner = 7 ∧ ab_rt mdX7_toCorner = (some .int) ∧ ab_fr mdX7_toCorner = 1 ∧ ab_lo mdX7_toCorner = 23 ∧ ab_na mdX7_toCorner = 3 := ⟨rfl, rfl, rfl, rfl, rfl, rfl, rfl⟩
theorem moX11_force : ab_own mdX11_force = 11 ∧ ab_cc mdX11_force = cX11_force ∧ ab_ml mdX11_force = 2 ∧ ab_rt mdX11_force = (some .boolean) ∧ ab_fr mdX11_force = 5 ∧ ab_lo mdX11_force = 115 ∧ ab_na mdX11_force = 2 := ⟨rfl, rfl, rfl, rfl, rfl, rfl, rfl⟩
theorem moX11_seller : ab_own mdX11_seller = 11 ∧ ab_cc mdX11_seller = cX11_seller ∧ ab_ml mdX11_seller = 8 ∧ ab_rt mdX11_seller = (some .int) ∧ ab_fr mdX11_seller = 3 ∧ ab_lo mdX11_seller = 65 ∧ ab_na mdX11_seller = 6 := ⟨rfl, rfl, rfl, rfl, rfl, rfl, rfl⟩
theorem moX11_canStand : ab_own mdX11_canStand = 11 ∧ ab_cc mdX11_canStand = cX11_canStand ∧ ab_ml mdX11_canStand = 3 ∧ ab_rt mdX11_canStand = (some .boolean) ∧ ab_fr mdX11_canStand = 2 ∧ ab_lo mdX11_canStand = 43 ∧ ab_na mdX11_canStand = 3 := ⟨rfl, rfl, rfl, rfl, rfl, rfl, rfl⟩
theorem moX11_put : ab_own mdX11_put = 11 ∧ ab_cc mdX11_put = cX11_put ∧ ab_ml mdX11_put = 4 ∧ ab_rt mdX11_put = (some .boolean) ∧ ab_fr mdX11_put = 3 ∧ ab_lo mdX11_put = 65 ∧ ab_na mdX11_put = 4 := ⟨rfl, rfl, rfl, rfl, rfl, rfl, rfl⟩
theorem moX0_has : ab_own mdX0_has = 0 ∧ ab_cc mdX0_has = cX0_has ∧ ab_ml mdX0_has = 2 ∧ ab_rt mdX0_has = (some .boolean) ∧ ab_fr mdX0_has = 0 ∧ ab_lo mdX0_has = 0 ∧ ab_na mdX0_has = 2 := ⟨rfl, rfl, rfl, rfl, rfl, rfl, rfl⟩
theorem moX11_of : ab_own mdX11_of = 11 ∧ ab_cc mdX11_of = cX11_of ∧ ab_ml mdX11_of = 3 ∧ ab_rt mdX11_of = (some .int) ∧ ab_fr mdX11_of = 1 ∧ ab_lo mdX11_of = 21 ∧ ab_na mdX11_of = 3 := ⟨rfl, rfl, rfl, rfl, rfl, rfl, rfl⟩
theorem moX11_sold : ab_own mdX11_sold = 11 ∧ ab_cc mdX11_sold = cX11_sold ∧ ab_ml mdX11_sold = 2 ∧ ab_rt mdX11_sold = (some .long) ∧ ab_fr mdX11_sold = 5 ∧ ab_lo mdX11_sold = 153 ∧ ab_na mdX11_sold = 2 := ⟨rfl, rfl, rfl, rfl, rfl, rfl, rfl⟩
theorem moX11_sellToAll : ab_own mdX11_sellToAll = 11 ∧ ab_cc mdX11_sellToAll = cX11_sellToAll ∧ ab_ml mdX11_sellToAll = 1 ∧ ab_rt mdX11_sellToAll = none ∧ ab_fr mdX11_sellToAll = 4 ∧ ab_lo mdX11_sellToAll = 133 ∧ ab_na mdX11_sellToAll = 1 := ⟨rfl, rfl, rfl, rfl, rfl, rfl, rfl⟩
theorem moX3_load : ab_own mdX3_load = 3 ∧ ab_cc mdX3_load = cX3_load ∧ ab_ml mdX3_load = 3 ∧ ab_rt mdX3_load = none ∧ ab_fr mdX3_load = 3 ∧ ab_lo mdX3_load = 111 ∧ ab_na mdX3_load = 2 := ⟨rfl, rfl, rfl, rfl, rfl, rfl, rfl⟩
theorem moX8_place : ab_own mdX8_place = 8 ∧ ab_cc mdX8_place = cX8_place ∧ ab_ml mdX8_place = 3 ∧ ab_rt mdX8_place = none ∧ ab_fr mdX8_place = 2 ∧ ab_lo mdX8_place = 89 ∧ ab_na mdX8_place = 3 := ⟨rfl, rfl, rfl, rfl, rfl, rfl, rfl⟩
theorem moX7_reach : ab_own mdX7_reach = 7 ∧ ab_cc mdX7_reach = cX7_reach ∧ ab_ml mdX7_reach = 10 ∧ ab_rt mdX7_reach = none ∧ ab_fr mdX7_reach = 1 ∧ ab_lo mdX7_reach = 60 ∧ ab_na mdX7_reach = 4 := ⟨rfl, rfl, rfl, rfl, rfl, rfl, rfl⟩
theorem moX8_goRound : ab_own mdX8_goRound = 8 ∧ ab_cc mdX8_goRound = cX8_goRound ∧ ab_ml mdX8_goRound = 2 ∧ ab_rt mdX8_goRound = none ∧ ab_fr mdX8_goRound = 3 ∧ ab_lo mdX8_goRound = 79 ∧ ab_na mdX8_goRound = 1 := ⟨rfl, rfl, rfl, rfl, rfl, rfl, rfl⟩
theorem moX3_open : ab_own mdX3_open = 3 ∧ ab_cc mdX3_open = cX3_open ∧ ab_ml mdX3_open = 1 ∧ ab_rt mdX3_open = none ∧ ab_fr mdX3_open = 1 ∧ ab_lo mdX3_open = 23 ∧ ab_na mdX3_open = 1 := ⟨rfl, rfl, rfl, rfl, rfl, rfl, rfl⟩
theorem moX10_open : ab_own mdX10_open = 10 ∧ ab_cc mdX10_open = cX10_open ∧ ab_ml mdX10_open = 1 ∧ ab_rt mdX10_open = none ∧ ab_fr mdX10_open = 0 ∧ ab_lo mdX10_open = 0 ∧ ab_na mdX10_open = 1 := ⟨rfl, rfl, rfl, rfl, rfl, rfl, rfl⟩
theorem moX8_markStreets : ab_own mdX8_markStreets = 8 ∧ ab_cc mdX8_markStreets = cX8_markStreets ∧ ab_ml mdX8_markStreets = 2 ∧ ab_rt mdX8_markStreets = none ∧ ab_fr mdX8_markStreets = 1 ∧ ab_lo mdX8_markStreets = 23 ∧ ab_na mdX8_markStreets = 1 := ⟨rfl, rfl, rfl, rfl, rfl, rfl, rfl⟩
theorem moX8_cheapest : ab_own mdX8_cheapest = 8 ∧ ab_cc mdX8_cheapest = cX8_cheapest ∧ ab_ml mdX8_cheapest = 4 ∧ ab_rt mdX8_cheapest = (some .int) ∧ ab_fr mdX8_cheapest = 1 ∧ ab_lo mdX8_cheapest = 21 ∧ ab_na mdX8_cheapest = 2 := ⟨rfl, rfl, rfl, rfl, rfl, rfl, rfl⟩
theorem moX8_cheaper : ab_own mdX8_cheaper = 8 ∧ ab_cc mdX8_cheaper = cX8_cheaper ∧ ab_ml mdX8_cheaper = 2 ∧ ab_rt mdX8_cheaper = (some .int) ∧ ab_fr mdX8_cheaper = 0 ∧ ab_lo mdX8_cheaper = 0 ∧ ab_na mdX8_cheaper = 2 := ⟨rfl, rfl, rfl, rfl, rfl, rfl, rfl⟩
theorem moX3_meetCorner : ab_own mdX3_meetCorner = 3 ∧ ab_cc mdX3_meetCorner = cX3_meetCorner ∧ ab_ml mdX3_meetCorner = 6 ∧ ab_rt mdX3_meetCorner = none ∧ ab_fr mdX3_meetCorner = 0 ∧ ab_lo mdX3_meetCorner = 0 ∧ ab_na mdX3_meetCorner = 2 := ⟨rfl, rfl, rfl, rfl, rfl, rfl, rfl⟩
theorem moX10_meetCorner : ab_own mdX10_meetCorner = 10 ∧ ab_cc mdX10_meetCorner = cX10_meetCorner ∧ ab_ml mdX10_meetCorner = 3 ∧ ab_rt mdX10_meetCorner = none ∧ ab_fr mdX10_meetCorner = 0 ∧ ab_lo mdX10_meetCorner = 0 ∧ ab_na mdX10_meetCorner = 2 := ⟨rfl, rfl, rfl, rfl, rfl, rfl, rfl⟩
theorem moX8_meetStreet : ab_own mdX8_meetStreet = 8 ∧ ab_cc mdX8_meetStreet = cX8_meetStreet ∧ ab_ml mdX8_meetStreet = 8 ∧ ab_rt mdX8_meetStreet = none ∧ ab_fr mdX8_meetStreet = 2 ∧ ab_lo mdX8_meetStreet = 52 ∧ ab_na mdX8_meetStreet = 2 := ⟨rfl, rfl, rfl, rfl, rfl, rfl, rfl⟩
theorem moX8_cheapestOn : ab_own mdX8_cheapestOn = 8 ∧ ab_cc mdX8_cheapestOn = cX8_cheapestOn ∧ ab_ml mdX8_cheapestOn = 8 ∧ ab_rt mdX8_cheapestOn = (some .int) ∧ ab_fr mdX8_cheapestOn = 1 ∧ ab_lo mdX8_cheapestOn = 23 ∧ ab_na mdX8_cheapestOn = 3 := ⟨rfl, rfl, rfl, rfl, rfl, rfl, rfl⟩
theorem moX3_meetStretch : ab_own mdX3_meetStretch = 3 ∧ ab_cc mdX3_meetStretch = cX3_meetStretch ∧ ab_ml mdX3_meetStretch = 10 ∧ ab_rt mdX3_meetStretch = none ∧ ab_fr mdX3_meetStretch = 1 ∧ ab_lo mdX3_meetStretch = 23 ∧ ab_na mdX3_meetStretch = 5 := ⟨rfl, rfl, rfl, rfl, rfl, rfl, rfl⟩
theorem moX10_meetStretch : ab_own mdX10_meetStretch = 10 ∧ ab_cc mdX10_meetStretch = cX10_meetStretch ∧ ab_ml mdX10_meetStretch = 13 ∧ ab_rt mdX10_meetStretch = none ∧ ab_fr mdX10_meetStretch = 0 ∧ ab_lo mdX10_meetStretch = 0 ∧ ab_na mdX10_meetStretch = 5 := ⟨rfl, rfl, rfl, rfl, rfl, rfl, rfl⟩
theorem moX3_close : ab_own mdX3_close = 3 ∧ ab_cc mdX3_close = cX3_close ∧ ab_ml mdX3_close = 4 ∧ ab_rt mdX3_close = none ∧ ab_fr mdX3_close = 1 ∧ ab_lo mdX3_close = 20 ∧ ab_na mdX3_close = 1 := ⟨rfl, rfl, rfl, rfl, rfl, rfl, rfl⟩
theorem moJ6_bitCount_0f7a4 : ab_own mdJ6_bitCount_0f7a4 = 26 ∧ ab_cc mdJ6_bitCount_0f7a4 = cJ6_bitCount_0f7a4 ∧ ab_ml mdJ6_bitCount_0f7a4 = 1 ∧ ab_rt mdJ6_bitCount_0f7a4 = (some .int) ∧ ab_fr mdJ6_bitCount_0f7a4 = 0 ∧ ab_lo mdJ6_bitCount_0f7a4 = 0 ∧ ab_na mdJ6_bitCount_0f7a4 = 1 := ⟨rfl, rfl, rfl, rfl, rfl, rfl, rfl⟩
theorem moX10_close : ab_own mdX10_close = 10 ∧ ab_cc mdX10_close = cX10_close ∧ ab_ml mdX10_close = 1 ∧ ab_rt mdX10_close = none ∧ ab_fr mdX10_close = 0 ∧ ab_lo mdX10_close = 0 ∧ ab_na mdX10_close = 1 := ⟨rfl, rfl, rfl, rfl, rfl, rfl, rfl⟩
theorem moX11_earns : ab_own mdX11_earns = 11 ∧ ab_cc mdX11_earns = cX11_earns ∧ ab_ml mdX11_earns = 2 ∧ ab_rt mdX11_earns = (some .long) ∧ ab_fr mdX11_earns = 5 ∧ ab_lo mdX11_earns = 153 ∧ ab_na mdX11_earns = 2 := ⟨rfl, rfl, rfl, rfl, rfl, rfl, rfl⟩
theorem moX3_takings : ab_own mdX3_takings = 3 ∧ ab_cc mdX3_takings = cX3_takings ∧ ab_ml mdX3_takings = 5 ∧ ab_rt mdX3_takings = (some .long) ∧ ab_fr mdX3_takings = 1 ∧ ab_lo mdX3_takings = 21 ∧ ab_na mdX3_takings = 2 := ⟨rfl, rfl, rfl, rfl, rfl, rfl, rfl⟩
theorem moX3_worth : ab_own mdX3_worth = 3 ∧ ab_cc mdX3_worth = cX3_worth ∧ ab_ml mdX3_worth = 2 ∧ ab_rt mdX3_worth = (some .long) ∧ ab_fr mdX3_worth = 0 ∧ ab_lo mdX3_worth = 0 ∧ ab_na mdX3_worth = 2 := ⟨rfl, rfl, rfl, rfl, rfl, rfl, rfl⟩
theorem moX11_home : ab_own mdX11_home = 11 ∧ ab_cc mdX11_home = cX11_home ∧ ab_ml mdX11_home = 1 ∧ ab_rt mdX11_home = (some .long) ∧ ab_fr mdX11_home = 5 ∧ ab_lo mdX11_home = 153 ∧ ab_na mdX11_home = 1 := ⟨rfl, rfl, rfl, rfl, rfl, rfl, rfl⟩
theorem moX11_buys : ab_own mdX11_buys = 11 ∧ ab_cc mdX11_buys = cX11_buys ∧ ab_ml mdX11_buys = 2 ∧ ab_rt mdX11_buys = (some .int) ∧ ab_fr mdX11_buys = 5 ∧ ab_lo mdX11_buys = 153 ∧ ab_na mdX11_buys = 2 := ⟨rfl, rfl, rfl, rfl, rfl, rfl, rfl⟩
theorem moX11_best : ab_own mdX11_best = 11 ∧ ab_cc mdX11_best = cX11_best ∧ ab_ml mdX11_best = 3 ∧ ab_rt mdX11_best = (some .long) ∧ ab_fr mdX11_best = 5 ∧ ab_lo mdX11_best = 159 ∧ ab_na mdX11_best = 3 := ⟨rfl, rfl, rfl, rfl, rfl, rfl, rfl⟩
theorem moX4_findBest : ab_own mdX4_findBest = 4 ∧ ab_cc mdX4_findBest = cX4_findBest ∧ ab_ml mdX4_findBest = 7 ∧ ab_rt mdX4_findBest = none ∧ ab_fr mdX4_findBest = 4 ∧ ab_lo mdX4_findBest = 133 ∧ ab_na mdX4_findBest = 2 := ⟨rfl, rfl, rfl, rfl, rfl, rfl, rfl⟩
theorem moX4_standing : ab_own mdX4_standing = 4 ∧ ab_cc mdX4_standing = cX4_standing ∧ ab_ml mdX4_standing = 2 ∧ ab_rt mdX4_standing = (some .int) ∧ ab_fr mdX4_standing = 0 ∧ ab_lo mdX4_standing = 0 ∧ ab_na mdX4_standing = 2 := ⟨rfl, rfl, rfl, rfl, rfl, rfl, rfl⟩
theorem moX4_listOthers : ab_own mdX4_listOthers = 4 ∧ ab_cc mdX4_listOthers = cX4_listOthers ∧ ab_ml mdX4_listOthers = 8 ∧ ab_rt mdX4_listOthers = none ∧ ab_fr mdX4_listOthers = 3 ∧ ab_lo mdX4_listOthers = 73 ∧ ab_na mdX4_listOthers = 2 := ⟨rfl, rfl, rfl, rfl, rfl, rfl, rfl⟩
theorem moX4_addOther : ab_own mdX4_addOther = 4 ∧ ab_cc mdX4_addOther = cX4_addOther ∧ ab_ml mdX4_addOther = 3 ∧ ab_rt mdX4_addOther = none ∧ ab_fr mdX4_addOther = 0 ∧ ab_lo mdX4_addOther = 0 ∧ ab_na mdX4_addOther = 3 := ⟨rfl, rfl, rfl, rfl, rfl, rfl, rfl⟩
theorem moX3_isFarEnough : ab_own mdX3_isFarEnough = 3 ∧ ab_cc mdX3_isFarEnough = cX3_isFarEnough ∧ ab_ml mdX3_isFarEnough = 4 ∧ ab_rt mdX3_isFarEnough = (some .boolean) ∧ ab_fr mdX3_isFarEnough = 2 ∧ ab_lo mdX3_isFarEnough = 50 ∧ ab_na mdX3_isFarEnough = 3 := ⟨rfl, rfl, rfl, rfl, rfl, rfl, rfl⟩
theorem moX8_stepsTo : ab_own mdX8_stepsTo = 8 ∧ ab_cc mdX8_stepsTo = cX8_stepsTo ∧ ab_ml mdX8_stepsTo = 8 ∧ ab_rt mdX8_stepsTo = (some .int) ∧ ab_fr mdX8_stepsTo = 1 ∧ ab_lo mdX8_stepsTo = 23 ∧ ab_na mdX8_stepsTo = 3 := ⟨rfl, rfl, rfl, rfl, rfl, rfl, rfl⟩
theorem moX9_spotOn : ab_own mdX9_spotOn = 9 ∧ ab_cc mdX9_spotOn = cX9_spotOn ∧ ab_ml mdX9_spotOn = 2 ∧ ab_rt mdX9_spotOn = (some .int) ∧ ab_fr mdX9_spotOn = 0 ∧ ab_lo mdX9_spotOn = 0 ∧ ab_na mdX9_spotOn = 2 := ⟨rfl, rfl, rfl, rfl, rfl, rfl, rfl⟩
theorem moX4_take : ab_own mdX4_take = 4 ∧ ab_cc mdX4_take = cX4_take ∧ ab_ml mdX4_take = 3 ∧ ab_rt mdX4_take = none ∧ ab_fr mdX4_take = 3 ∧ ab_lo mdX4_take = 111 ∧ ab_na mdX4_take = 3 := ⟨rfl, rfl, rfl, rfl, rfl, rfl, rfl⟩
theorem moX11_rest : ab_own mdX11_rest = 11 ∧ ab_cc mdX11_rest = cX11_rest ∧ ab_ml mdX11_rest = 1 ∧ ab_rt mdX11_rest = (some .int) ∧ ab_fr mdX11_rest = 6 ∧ ab_lo mdX11_rest = 180 ∧ ab_na mdX11_rest = 1 := ⟨rfl, rfl, rfl, rfl, rfl, rfl, rfl⟩
theorem moX4_firstRestless : ab_own mdX4_firstRestless = 4 ∧ ab_cc mdX4_firstRestless = cX4_firstRestless ∧ ab_ml mdX4_firstRestless = 2 ∧ ab_rt mdX4_firstRestless = (some .int) ∧ ab_fr mdX4_firstRestless = 5 ∧ ab_lo mdX4_firstRestless = 159 ∧ ab_na mdX4_firstRestless = 1 := ⟨rfl, rfl, rfl, rfl, rfl, rfl, rfl⟩
theorem moX11_turn : ab_own mdX11_turn = 11 ∧ ab_cc mdX11_turn = cX11_turn ∧ ab_ml mdX11_turn = 2 ∧ ab_rt mdX11_turn = (some .boolean) ∧ ab_fr mdX11_turn = 5 ∧ ab_lo mdX11_turn = 159 ∧ ab_na mdX11_turn = 2 := ⟨rfl, rfl, rfl, rfl, rfl, rfl, rfl⟩
theorem moX11_chase : ab_own mdX11_chase = 11 ∧ ab_cc mdX11_chase = cX11_chase ∧ ab_ml mdX11_chase = 5 ∧ ab_rt mdX11_chase = (some .int) ∧ ab_fr mdX11_chase = 7 ∧ ab_lo mdX11_chase = 206 ∧ ab_na mdX11_chase = 3 := ⟨rfl, rfl, rfl, rfl, rfl, rfl, rfl⟩
theorem moX4_runChase : ab_own mdX4_runChase = 4 ∧ ab_cc mdX4_runChase = cX4_runChase ∧ ab_ml mdX4_runChase = 6 ∧ ab_rt mdX4_runChase = none ∧ ab_fr mdX4_runChase = 6 ∧ ab_lo mdX4_runChase = 181 ∧ ab_na mdX4_runChase = 3 := ⟨rfl, rfl, rfl, rfl, rfl, rfl, rfl⟩
theorem moX4_snapshot : ab_own mdX4_snapshot = 4 ∧ ab_cc mdX4_snapshot = cX4_snapshot ∧ ab_ml mdX4_snapshot = 4 ∧ ab_rt mdX4_snapshot = (some .long) ∧ ab_fr mdX4_snapshot = 0 ∧ ab_lo mdX4_snapshot = 0 ∧ ab_na mdX4_snapshot = 1 := ⟨rfl, rfl, rfl, rfl, rfl, rfl, rfl⟩
theorem moX4_endChase : ab_own mdX4_endChase = 4 ∧ ab_cc mdX4_endChase = cX4_endChase ∧ ab_ml mdX4_endChase = 4 ∧ ab_rt mdX4_endChase = none ∧ ab_fr mdX4_endChase = 0 ∧ ab_lo mdX4_endChase = 0 ∧ ab_na mdX4_endChase = 4 := ⟨rfl, rfl, rfl, rfl, rfl, rfl, rfl⟩
theorem moX4_goOneRound : ab_own mdX4_goOneRound = 4 ∧ ab_cc mdX4_goOneRound = cX4_goOneRound ∧ ab_ml mdX4_goOneRound = 3 ∧ ab_rt mdX4_goOneRound = (some .boolean) ∧ ab_fr mdX4_goOneRound = 5 ∧ ab_lo mdX4_goOneRound = 159 ∧ ab_na mdX4_goOneRound = 1 := ⟨rfl, rfl, rfl, rfl, rfl, rfl, rfl⟩
theorem moX4_sameAgo : ab_own mdX4_sameAgo = 4 ∧ ab_cc mdX4_sameAgo = cX4_sameAgo ∧ ab_ml mdX4_sameAgo = 3 ∧ ab_rt mdX4_sameAgo = (some .int) ∧ ab_fr mdX4_sameAgo = 0 ∧ ab_lo mdX4_sameAgo = 0 ∧ ab_na mdX4_sameAgo = 2 := ⟨rfl, rfl, rfl, rfl, rfl, rfl, rfl⟩
theorem moX11_rests : ab_own mdX11_rests = 11 ∧ ab_cc mdX11_rests = cX11_rests ∧ ab_ml mdX11_rests = 5 ∧ ab_rt mdX11_rests = (some .int) ∧ ab_fr mdX11_rests = 7 ∧ ab_lo mdX11_rests = 186 ∧ ab_na mdX11_rests = 5 := ⟨rfl, rfl, rfl, rfl, rfl, rfl, rfl⟩
theorem moX11_isPair : ab_own mdX11_isPair = 11 ∧ ab_cc mdX11_isPair = cX11_isPair ∧ ab_ml mdX11_isPair = 3 ∧ ab_rt mdX11_isPair = (some .boolean) ∧ ab_fr mdX11_isPair = 1 ∧ ab_lo mdX11_isPair = 21 ∧ ab_na mdX11_isPair = 3 := ⟨rfl, rfl, rfl, rfl, rfl, rfl, rfl⟩
theorem moX1_prepare : ab_own mdX1_prepare = 1 ∧ ab_cc mdX1_prepare = cX1_prepare ∧ ab_ml mdX1_prepare = 6 ∧ ab_rt mdX1_prepare = none ∧ ab_fr mdX1_prepare = 6 ∧ ab_lo mdX1_prepare = 161 ∧ ab_na mdX1_prepare = 5 := ⟨rfl, rfl, rfl, rfl, rfl, rfl, rfl⟩
theorem moX1_weighAll : ab_own mdX1_weighAll = 1 ∧ ab_cc mdX1_weighAll = cX1_weighAll ∧ ab_ml mdX1_weighAll = 9 ∧ ab_rt mdX1_weighAll = none ∧ ab_fr mdX1_weighAll = 5 ∧ ab_lo mdX1_weighAll = 133 ∧ ab_na mdX1_weighAll = 4 := ⟨rfl, rfl, rfl, rfl, rfl, rfl, rfl⟩
theorem moX1_weighRow : ab_own mdX1_weighRow = 1 ∧ ab_cc mdX1_weighRow = cX1_weighRow ∧ ab_ml mdX1_weighRow = 4 ∧ ab_rt mdX1_weighRow = none ∧ ab_fr mdX1_weighRow = 4 ∧ ab_lo mdX1_weighRow = 100 ∧ ab_na mdX1_weighRow = 2 := ⟨rfl, rfl, rfl, rfl, rfl, rfl, rfl⟩
theorem moX1_findRests : ab_own mdX1_findRests = 1 ∧ ab_cc mdX1_findRests = cX1_findRests ∧ ab_ml mdX1_findRests = 3 ∧ ab_rt mdX1_findRests = none ∧ ab_fr mdX1_findRests = 2 ∧ ab_lo mdX1_findRests = 48 ∧ ab_na mdX1_findRests = 1 := ⟨rfl, rfl, rfl, rfl, rfl, rfl, rfl⟩
theorem moX1_isRest : ab_own mdX1_isRest = 1 ∧ ab_cc mdX1_isRest = cX1_isRest ∧ ab_ml mdX1_isRest = 7 ∧ ab_rt mdX1_isRest = (some .boolean) ∧ ab_fr mdX1_isRest = 1 ∧ ab_lo mdX1_isRest = 22 ∧ ab_na mdX1_isRest = 2 := ⟨rfl, rfl, rfl, rfl, rfl, rfl, rfl⟩
theorem moX1_cornerIn : ab_own mdX1_cornerIn = 1 ∧ ab_cc mdX1_cornerIn = cX1_cornerIn ∧ ab_ml mdX1_cornerIn = 3 ∧ ab_rt mdX1_cornerIn = (some .int) ∧ ab_fr mdX1_cornerIn = 0 ∧ ab_lo mdX1_cornerIn = 0 ∧ ab_na mdX1_cornerIn = 3 := ⟨rfl, rfl, rfl, rfl, rfl, rfl, rfl⟩
theorem moX1_cornersOf : ab_own mdX1_cornersOf = 1 ∧ ab_cc mdX1_cornersOf = cX1_cornersOf ∧ ab_ml mdX1_cornersOf = 2 ∧ ab_rt mdX1_cornersOf = (some .int) ∧ ab_fr mdX1_cornersOf = 1 ∧ ab_lo mdX1_cornersOf = 22 ∧ ab_na mdX1_cornersOf = 2 := ⟨rfl, rfl, rfl, rfl, rfl, rfl, rfl⟩
theorem moX11_lots : ab_own mdX11_lots = 11 ∧ ab_cc mdX11_lots = cX11_lots ∧ ab_ml mdX11_lots = 6 ∧ ab_rt mdX11_lots = (some .long) ∧ ab_fr mdX11_lots = 5 ∧ ab_lo mdX11_lots = 159 ∧ ab_na mdX11_lots = 6 := ⟨rfl, rfl, rfl, rfl, rfl, rfl, rfl⟩
theorem moX11_areTwoCorners : ab_own mdX11_areTwoCorners = 11 ∧ ab_cc mdX11_areTwoCorners = cX11_areTwoCorners ∧ ab_ml mdX11_areTwoCorners = 3 ∧ ab_rt mdX11_areTwoCorners = (some .boolean) ∧ ab_fr mdX11_areTwoCorners = 1 ∧ ab_lo mdX11_areTwoCorners = 21 ∧ ab_na mdX11_areTwoCorners = 3 := ⟨rfl, rfl, rfl, rfl, rfl, rfl, rfl⟩
theorem moX1_drawLots : ab_own mdX1_drawLots = 1 ∧ ab_cc mdX1_drawLots = cX1_drawLots ∧ ab_ml mdX1_drawLots = 7 ∧ ab_rt mdX1_drawLots = (some .long) ∧ ab_fr mdX1_drawLots = 4 ∧ ab_lo mdX1_drawLots = 133 ∧ ab_na mdX1_drawLots = 6 := ⟨rfl, rfl, rfl, rfl, rfl, rfl, rfl⟩
theorem moX11_standsStill : ab_own mdX11_standsStill = 11 ∧ ab_cc mdX11_standsStill = cX11_standsStill ∧ ab_ml mdX11_standsStill = 3 ∧ ab_rt mdX11_standsStill = (some .boolean) ∧ ab_fr mdX11_standsStill = 0 ∧ ab_lo mdX11_standsStill = 0 ∧ ab_na mdX11_standsStill = 3 := ⟨rfl, rfl, rfl, rfl, rfl, rfl, rfl⟩
theorem moX1_sumOf : ab_own mdX1_sumOf = 1 ∧ ab_cc mdX1_sumOf = cX1_sumOf ∧ ab_ml mdX1_sumOf = 1 ∧ ab_rt mdX1_sumOf = (some .long) ∧ ab_fr mdX1_sumOf = 0 ∧ ab_lo mdX1_sumOf = 0 ∧ ab_na mdX1_sumOf = 1 := ⟨rfl, rfl, rfl, rfl, rfl, rfl, rfl⟩
theorem moX1_inLowest : ab_own mdX1_inLowest = 1 ∧ ab_cc mdX1_inLowest = cX1_inLowest ∧ ab_ml mdX1_inLowest = 9 ∧ ab_rt mdX1_inLowest = (some .long) ∧ ab_fr mdX1_inLowest = 1 ∧ ab_lo mdX1_inLowest = 30 ∧ ab_na mdX1_inLowest = 3 := ⟨rfl, rfl, rfl, rfl, rfl, rfl, rfl⟩
theorem moX1_commonDivisor : ab_own mdX1_commonDivisor = 1 ∧ ab_cc mdX1_commonDivisor = cX1_commonDivisor ∧ ab_ml mdX1_commonDivisor = 11 ∧ ab_rt mdX1_commonDivisor = (some .long) ∧ ab_fr mdX1_commonDivisor = 0 ∧ ab_lo mdX1_commonDivisor = 0 ∧ ab_na mdX1_commonDivisor = 2 := ⟨rfl, rfl, rfl, rfl, rfl, rfl, rfl⟩
theorem moX11_lead : ab_own mdX11_lead = 11 ∧ ab_cc mdX11_lead = cX11_lead ∧ ab_ml mdX11_lead = 6 ∧ ab_rt mdX11_lead = (some .long) ∧ ab_fr mdX11_lead = 7 ∧ ab_lo mdX11_lead = 186 ∧ ab_na mdX11_lead = 4 := ⟨rfl, rfl, rfl, rfl, rfl, rfl, rfl⟩
theorem moX1_ledRow : ab_own mdX1_ledRow = 1 ∧ ab_cc mdX1_ledRow = cX1_ledRow ∧ ab_ml mdX1_ledRow = 5 ∧ ab_rt mdX1_ledRow = (some .int) ∧ ab_fr mdX1_ledRow = 2 ∧ ab_lo mdX1_ledRow = 49 ∧ ab_na mdX1_ledRow = 2 := ⟨rfl, rfl, rfl, rfl, rfl, rfl, rfl⟩
theorem moX1_answerTo : ab_own mdX1_answerTo = 1 ∧ ab_cc mdX1_answerTo = cX1_answerTo ∧ ab_ml mdX1_answerTo = 8 ∧ ab_rt mdX1_answerTo = (some .int) ∧ ab_fr mdX1_answerTo = 1 ∧ ab_lo mdX1_answerTo = 22 ∧ ab_na mdX1_answerTo = 3 := ⟨rfl, rfl, rfl, rfl, rfl, rfl, rfl⟩
theorem moX1_worthOf : ab_own mdX1_worthOf = 1 ∧ ab_cc mdX1_worthOf = cX1_worthOf ∧ ab_ml mdX1_worthOf = 3 ∧ ab_rt mdX1_worthOf = (some .long) ∧ ab_fr mdX1_worthOf = 0 ∧ ab_lo mdX1_worthOf = 0 ∧ ab_na mdX1_worthOf = 3 := ⟨rfl, rfl, rfl, rfl, rfl, rfl, rfl⟩
theorem moX11_prices : ab_own mdX11_prices = 11 ∧ ab_cc mdX11_prices = cX11_prices ∧ ab_ml mdX11_prices = 4 ∧ ab_rt mdX11_prices = (some .int) ∧ ab_fr mdX11_prices = 6 ∧ ab_lo mdX11_prices = 156 ∧ ab_na mdX11_prices = 4 := ⟨rfl, rfl, rfl, rfl, rfl, rfl, rfl⟩
theorem moX5_prepare : ab_own mdX5_prepare = 5 ∧ ab_cc mdX5_prepare = cX5_prepare ∧ ab_ml mdX5_prepare = 4 ∧ ab_rt mdX5_prepare = none ∧ ab_fr mdX5_prepare = 5 ∧ ab_lo mdX5_prepare = 133 ∧ ab_na mdX5_prepare = 4 := ⟨rfl, rfl, rfl, rfl, rfl, rfl, rfl⟩
theorem moX5_findPairs : ab_own mdX5_findPairs = 5 ∧ ab_cc mdX5_findPairs = cX5_findPairs ∧ ab_ml mdX5_findPairs = 6 ∧ ab_rt mdX5_findPairs = none ∧ ab_fr mdX5_findPairs = 4 ∧ ab_lo mdX5_findPairs = 100 ∧ ab_na mdX5_findPairs = 3 := ⟨rfl, rfl, rfl, rfl, rfl, rfl, rfl⟩
theorem moX5_isRest : ab_own mdX5_isRest = 5 ∧ ab_cc mdX5_isRest = cX5_isRest ∧ ab_ml mdX5_isRest = 5 ∧ ab_rt mdX5_isRest = (some .boolean) ∧ ab_fr mdX5_isRest = 0 ∧ ab_lo mdX5_isRest = 0 ∧ ab_na mdX5_isRest = 3 := ⟨rfl, rfl, rfl, rfl, rfl, rfl, rfl⟩
theorem moX5_pairAt : ab_own mdX5_pairAt = 5 ∧ ab_cc mdX5_pairAt = cX5_pairAt ∧ ab_ml mdX5_pairAt = 2 ∧ ab_rt mdX5_pairAt = (some .int) ∧ ab_fr mdX5_pairAt = 0 ∧ ab_lo mdX5_pairAt = 0 ∧ ab_na mdX5_pairAt = 2 := ⟨rfl, rfl, rfl, rfl, rfl, rfl, rfl⟩
theorem moX11_stage : ab_own mdX11_stage = 11 ∧ ab_cc mdX11_stage = cX11_stage ∧ ab_ml mdX11_stage = 7 ∧ ab_rt mdX11_stage = (some .int) ∧ ab_fr mdX11_stage = 7 ∧ ab_lo mdX11_stage = 173 ∧ ab_na mdX11_stage = 6 := ⟨rfl, rfl, rfl, rfl, rfl, rfl, rfl⟩
theorem moX5_firstStage : ab_own mdX5_firstStage = 5 ∧ ab_cc mdX5_firstStage = cX5_firstStage ∧ ab_ml mdX5_firstStage = 6 ∧ ab_rt mdX5_firstStage = (some .int) ∧ ab_fr mdX5_firstStage = 6 ∧ ab_lo mdX5_firstStage = 148 ∧ ab_na mdX5_firstStage = 5 := ⟨rfl, rfl, rfl, rfl, rfl, rfl, rfl⟩
theorem moX5_weighStage : ab_own mdX5_weighStage = 5 ∧ ab_cc mdX5_weighStage = cX5_weighStage ∧ ab_ml mdX5_weighStage = 4 ∧ ab_rt mdX5_weighStage = none ∧ ab_fr mdX5_weighStage = 5 ∧ ab_lo mdX5_weighStage = 125 ∧ ab_na mdX5_weighStage = 4 := ⟨rfl, rfl, rfl, rfl, rfl, rfl, rfl⟩
theorem moX11_walk : ab_own mdX11_walk = 11 ∧ ab_cc mdX11_walk = cX11_walk ∧ ab_ml mdX11_walk = 3 ∧ ab_rt mdX11_walk = (some .long) ∧ ab_fr mdX11_walk = 5 ∧ ab_lo mdX11_walk = 133 ∧ ab_na mdX11_walk = 3 := ⟨rfl, rfl, rfl, rfl, rfl, rfl, rfl⟩
theorem moX10_toSpots : ab_own mdX10_toSpots = 10 ∧ ab_cc mdX10_toSpots = cX10_toSpots ∧ ab_ml mdX10_toSpots = 3 ∧ ab_rt mdX10_toSpots = (some .long) ∧ ab_fr mdX10_toSpots = 4 ∧ ab_lo mdX10_toSpots = 111 ∧ ab_na mdX10_toSpots = 3 := ⟨rfl, rfl, rfl, rfl, rfl, rfl, rfl⟩
theorem moX11_own : ab_own mdX11_own = 11 ∧ ab_cc mdX11_own = cX11_own ∧ ab_ml mdX11_own = 3 ∧ ab_rt mdX11_own = (some .long) ∧ ab_fr mdX11_own = 7 ∧ ab_lo mdX11_own = 180 ∧ ab_na mdX11_own = 3 := ⟨rfl, rfl, rfl, rfl, rfl, rfl, rfl⟩
theorem moX10_findOwn : ab_own mdX10_findOwn = 10 ∧ ab_cc mdX10_findOwn = cX10_findOwn ∧ ab_ml mdX10_findOwn = 4 ∧ ab_rt mdX10_findOwn = none ∧ ab_fr mdX10_findOwn = 6 ∧ ab_lo mdX10_findOwn = 157 ∧ ab_na mdX10_findOwn = 2 := ⟨rfl, rfl, rfl, rfl, rfl, rfl, rfl⟩
theorem moX10_noteOwn : ab_own mdX10_noteOwn = 10 ∧ ab_cc mdX10_noteOwn = cX10_noteOwn ∧ ab_ml mdX10_noteOwn = 5 ∧ ab_rt mdX10_noteOwn = none ∧ ab_fr mdX10_noteOwn = 5 ∧ ab_lo mdX10_noteOwn = 133 ∧ ab_na mdX10_noteOwn = 3 := ⟨rfl, rfl, rfl, rfl, rfl, rfl, rfl⟩
theorem moX11_loss : ab_own mdX11_loss = 11 ∧ ab_cc mdX11_loss = cX11_loss ∧ ab_ml mdX11_loss = 3 ∧ ab_rt mdX11_loss = (some .long) ∧ ab_fr mdX11_loss = 7 ∧ ab_lo mdX11_loss = 180 ∧ ab_na mdX11_loss = 1 := ⟨rfl, rfl, rfl, rfl, rfl, rfl, rfl⟩
theorem moX10_toBakers : ab_own mdX10_toBakers = 10 ∧ ab_cc mdX10_toBakers = cX10_toBakers ∧ ab_ml mdX10_toBakers = 3 ∧ ab_rt mdX10_toBakers = (some .long) ∧ ab_fr mdX10_toBakers = 4 ∧ ab_lo mdX10_toBakers = 111 ∧ ab_na mdX10_toBakers = 2 := ⟨rfl, rfl, rfl, rfl, rfl, rfl, rfl⟩
theorem moX11_bestLaw : ab_own mdX11_bestLaw = 11 ∧ ab_cc mdX11_bestLaw = cX11_bestLaw ∧ ab_ml mdX11_bestLaw = 4 ∧ ab_rt mdX11_bestLaw = (some .long) ∧ ab_fr mdX11_bestLaw = 7 ∧ ab_lo mdX11_bestLaw = 188 ∧ ab_na mdX11_bestLaw = 4 := ⟨rfl, rfl, rfl, rfl, rfl, rfl, rfl⟩
theorem moX1_choose : ab_own mdX1_choose = 1 ∧ ab_cc mdX1_choose = cX1_choose ∧ ab_ml mdX1_choose = 8 ∧ ab_rt mdX1_choose = none ∧ ab_fr mdX1_choose = 6 ∧ ab_lo mdX1_choose = 161 ∧ ab_na mdX1_choose = 5 := ⟨rfl, rfl, rfl, rfl, rfl, rfl, rfl⟩
theorem moJ7_fill_d0a16 : ab_own mdJ7_fill_d0a16 = 27 ∧ ab_cc mdJ7_fill_d0a16 = cJ7_fill_d0a16 ∧ ab_ml mdJ7_fill_d0a16 = 5 ∧ ab_rt mdJ7_fill_d0a16 = none ∧ ab_fr mdJ7_fill_d0a16 = 0 ∧ ab_lo mdJ7_fill_d0a16 = 0 ∧ ab_na mdJ7_fill_d0a16 = 2 := ⟨rfl, rfl, rfl, rfl, rfl, rfl, rfl⟩
theorem moX1_leastWalk : ab_own mdX1_leastWalk = 1 ∧ ab_cc mdX1_leastWalk = cX1_leastWalk ∧ ab_ml mdX1_leastWalk = 6 ∧ ab_rt mdX1_leastWalk = (some .long) ∧ ab_fr mdX1_leastWalk = 5 ∧ ab_lo mdX1_leastWalk = 133 ∧ ab_na mdX1_leastWalk = 1 := ⟨rfl, rfl, rfl, rfl, rfl, rfl, rfl⟩
theorem moX11_shift : ab_own mdX11_shift = 11 ∧ ab_cc mdX11_shift = cX11_shift ∧ ab_ml mdX11_shift = 3 ∧ ab_rt mdX11_shift = (some .int) ∧ ab_fr mdX11_shift = 6 ∧ ab_lo mdX11_shift = 191 ∧ ab_na mdX11_shift = 3 := ⟨rfl, rfl, rfl, rfl, rfl, rfl, rfl⟩
theorem moX4_leastShift : ab_own mdX4_leastShift = 4 ∧ ab_cc mdX4_leastShift = cX4_leastShift ∧ ab_ml mdX4_leastShift = 5 ∧ ab_rt mdX4_leastShift = (some .int) ∧ ab_fr mdX4_leastShift = 5 ∧ ab_lo mdX4_leastShift = 167 ∧ ab_na mdX4_leastShift = 3 := ⟨rfl, rfl, rfl, rfl, rfl, rfl, rfl⟩
theorem moX4_leastShiftFor : ab_own mdX4_leastShiftFor = 4 ∧ ab_cc mdX4_leastShiftFor = cX4_leastShiftFor ∧ ab_ml mdX4_leastShiftFor = 15 ∧ ab_rt mdX4_leastShiftFor = (some .int) ∧ ab_fr mdX4_leastShiftFor = 4 ∧ ab_lo mdX4_leastShiftFor = 133 ∧ ab_na mdX4_leastShiftFor = 4 := ⟨rfl, rfl, rfl, rfl, rfl, rfl, rfl⟩
theorem moX3_takingsOfOne : ab_own mdX3_takingsOfOne = 3 ∧ ab_cc mdX3_takingsOfOne = cX3_takingsOfOne ∧ ab_ml mdX3_takingsOfOne = 7 ∧ ab_rt mdX3_takingsOfOne = (some .int) ∧ ab_fr mdX3_takingsOfOne = 1 ∧ ab_lo mdX3_takingsOfOne = 20 ∧ ab_na mdX3_takingsOfOne = 3 := ⟨rfl, rfl, rfl, rfl, rfl, rfl, rfl⟩
theorem moX11_image : ab_own mdX11_image = 11 ∧ ab_cc mdX11_image = cX11_image ∧ ab_ml mdX11_image = 1 ∧ ab_rt mdX11_image = (some .int) ∧ ab_fr mdX11_image = 2 ∧ ab_lo mdX11_image = 81 ∧ ab_na mdX11_image = 1 := ⟨rfl, rfl, rfl, rfl, rfl, rfl, rfl⟩
theorem moX0_copyFrom : ab_own mdX0_copyFrom = 0 ∧ ab_cc mdX0_copyFrom = cX0_copyFrom ∧ ab_ml mdX0_copyFrom = 2 ∧ ab_rt mdX0_copyFrom = none ∧ ab_fr mdX0_copyFrom = 1 ∧ ab_lo mdX0_copyFrom = 60 ∧ ab_na mdX0_copyFrom = 2 := ⟨rfl, rfl, rfl, rfl, rfl, rfl, rfl⟩
theorem moX11_back : ab_own mdX11_back = 11 ∧ ab_cc mdX11_back = cX11_back ∧ ab_ml mdX11_back = 2 ∧ ab_rt mdX11_back = (some .boolean) ∧ ab_fr mdX11_back = 5 ∧ ab_lo mdX11_back = 115 ∧ ab_na mdX11_back = 2 := ⟨rfl, rfl, rfl, rfl, rfl, rfl, rfl⟩
theorem moX11_count : ab_own mdX11_count = 11 ∧ ab_cc mdX11_count = cX11_count ∧ ab_ml mdX11_count = 2 ∧ ab_rt mdX11_count = (some .int) ∧ ab_fr mdX11_count = 1 ∧ ab_lo mdX11_count = 22 ∧ ab_na mdX11_count = 2 := ⟨rfl, rfl, rfl, rfl, rfl, rfl, rfl⟩
theorem moX7_openSpots : ab_own mdX7_openSpots = 7 ∧ ab_cc mdX7_openSpots = cX7_openSpots ∧ ab_ml mdX7_openSpots = 3 ∧ ab_rt mdX7_openSpots = (some .int) ∧ ab_fr mdX7_openSpots = 0 ∧ ab_lo mdX7_openSpots = 0 ∧ ab_na mdX7_openSpots = 1 := ⟨rfl, rfl, rfl, rfl, rfl, rfl, rfl⟩
theorem moX7_openPeople : ab_own mdX7_openPeople = 7 ∧ ab_cc mdX7_openPeople = cX7_openPeople ∧ ab_ml mdX7_openPeople = 3 ∧ ab_rt mdX7_openPeople = (some .int) ∧ ab_fr mdX7_openPeople = 0 ∧ ab_lo mdX7_openPeople = 0 ∧ ab_na mdX7_openPeople = 1 := ⟨rfl, rfl, rfl, rfl, rfl, rfl, rfl⟩
theorem moX12_feed : ab_own mdX12_feed = 12 ∧ ab_cc mdX12_feed = cX12_feed ∧ ab_ml mdX12_feed = 8 ∧ ab_rt mdX12_feed = (some .int) ∧ ab_fr mdX12_feed = 0 ∧ ab_lo mdX12_feed = 0 ∧ ab_na mdX12_feed = 6 := ⟨rfl, rfl, rfl, rfl, rfl, rfl, rfl⟩
theorem moX12_town : ab_own mdX12_town = 12 ∧ ab_cc mdX12_town = cX12_town ∧ ab_ml mdX12_town = 5 ∧ ab_rt mdX12_town = (some .int) ∧ ab_fr mdX12_town = 5 ∧ ab_lo mdX12_town = 110 ∧ ab_na mdX12_town = 2 := ⟨rfl, rfl, rfl, rfl, rfl, rfl, rfl⟩
theorem moX12_beginsText : ab_own mdX12_beginsText = 12 ∧ ab_cc mdX12_beginsText = cX12_beginsText ∧ ab_ml mdX12_beginsText = 2 ∧ ab_rt mdX12_beginsText = none ∧ ab_fr mdX12_beginsText = 2 ∧ ab_lo mdX12_beginsText = 43 ∧ ab_na mdX12_beginsText = 2 := ⟨rfl, rfl, rfl, rfl, rfl, rfl, rfl⟩
theorem moX12_next : ab_own mdX12_next = 12 ∧ ab_cc mdX12_next = cX12_next ∧ ab_ml mdX12_next = 2 ∧ ab_rt mdX12_next = none ∧ ab_fr mdX12_next = 1 ∧ ab_lo mdX12_next = 22 ∧ ab_na mdX12_next = 1 := ⟨rfl, rfl, rfl, rfl, rfl, rfl, rfl⟩
theorem moX12_here : ab_own mdX12_here = 12 ∧ ab_cc mdX12_here = cX12_here ∧ ab_ml mdX12_here = 1 ∧ ab_rt mdX12_here = (some .int) ∧ ab_fr mdX12_here = 0 ∧ ab_lo mdX12_here = 0 ∧ ab_na mdX12_here = 1 := ⟨rfl, rfl, rfl, rfl, rfl, rfl, rfl⟩
theorem moX12_within : ab_own mdX12_within = 12 ∧ ab_cc mdX12_within = cX12_within ∧ ab_ml mdX12_within = 3 ∧ ab_rt mdX12_within = (some .boolean) ∧ ab_fr mdX12_within = 0 ∧ ab_lo mdX12_within = 0 ∧ ab_na mdX12_within = 3 := ⟨rfl, rfl, rfl, rfl, rfl, rfl, rfl⟩
theorem moX12_min : ab_own mdX12_min = 12 ∧ ab_cc mdX12_min = cX12_min ∧ ab_ml mdX12_min = 2 ∧ ab_rt mdX12_min = (some .int) ∧ ab_fr mdX12_min = 0 ∧ ab_lo mdX12_min = 0 ∧ ab_na mdX12_min = 2 := ⟨rfl, rfl, rfl, rfl, rfl, rfl, rfl⟩
theorem moX12_errs : ab_own mdX12_errs = 12 ∧ ab_cc mdX12_errs = cX12_errs ∧ ab_ml mdX12_errs = 1 ∧ ab_rt mdX12_errs = none ∧ ab_fr mdX12_errs = 0 ∧ ab_lo mdX12_errs = 0 ∧ ab_na mdX12_errs = 1 := ⟨rfl, rfl, rfl, rfl, rfl, rfl, rfl⟩
theorem moX12_readStatement : ab_own mdX12_readStatement = 12 ∧ ab_cc mdX12_readStatement = cX12_readStatement ∧ ab_ml mdX12_readStatement = 2 ∧ ab_rt mdX12_readStatement = none ∧ ab_fr mdX12_readStatement = 4 ∧ ab_lo mdX12_readStatement = 89 ∧ ab_na mdX12_readStatement = 1 := ⟨rfl, rfl, rfl, rfl, rfl, rfl, rfl⟩
theorem moX12_wordHere : ab_own mdX12_wordHere = 12 ∧ ab_cc mdX12_wordHere = cX12_wordHere ∧ ab_ml mdX12_wordHere = 1 ∧ ab_rt mdX12_wordHere = (some .int) ∧ ab_fr mdX12_wordHere = 1 ∧ ab_lo mdX12_wordHere = 22 ∧ ab_na mdX12_wordHere = 1 := ⟨rfl, rfl, rfl, rfl, rfl, rfl, rfl⟩
theorem moX12_wordOf : ab_own mdX12_wordOf = 12 ∧ ab_cc mdX12_wordOf = cX12_wordOf ∧ ab_ml mdX12_wordOf = 3 ∧ ab_rt mdX12_wordOf = (some .int) ∧ ab_fr mdX12_wordOf = 0 ∧ ab_lo mdX12_wordOf = 0 ∧ ab_na mdX12_wordOf = 2 := ⟨rfl, rfl, rfl, rfl, rfl, rfl, rfl⟩
theorem moX12_readCorner : ab_own mdX12_readCorner = 12 ∧ ab_cc mdX12_readCorner = cX12_readCorner ∧ ab_ml mdX12_readCorner = 3 ∧ ab_rt mdX12_readCorner = none ∧ ab_fr mdX12_readCorner = 3 ∧ ab_lo mdX12_readCorner = 66 ∧ ab_na mdX12_readCorner = 1 := ⟨rfl, rfl, rfl, rfl, rfl, rfl, rfl⟩
theorem moX12_isName : ab_own mdX12_isName = 12 ∧ ab_cc mdX12_isName = cX12_isName ∧ ab_ml mdX12_isName = 1 ∧ ab_rt mdX12_isName = (some .boolean) ∧ ab_fr mdX12_isName = 1 ∧ ab_lo mdX12_isName = 22 ∧ ab_na mdX12_isName = 1 := ⟨rfl, rfl, rfl, rfl, rfl, rfl, rfl⟩
theorem moX12_number : ab_own mdX12_number = 12 ∧ ab_cc mdX12_number = cX12_number ∧ ab_ml mdX12_number = 4 ∧ ab_rt mdX12_number = (some .int) ∧ ab_fr mdX12_number = 2 ∧ ab_lo mdX12_number = 43 ∧ ab_na mdX12_number = 3 := ⟨rfl, rfl, rfl, rfl, rfl, rfl, rfl⟩
theorem moX12_readStreet : ab_own mdX12_readStreet = 12 ∧ ab_cc mdX12_readStreet = cX12_readStreet ∧ ab_ml mdX12_readStreet = 4 ∧ ab_rt mdX12_readStreet = none ∧ ab_fr mdX12_readStreet = 3 ∧ ab_lo mdX12_readStreet = 66 ∧ ab_na mdX12_readStreet = 1 := ⟨rfl, rfl, rfl, rfl, rfl, rfl, rfl⟩
theorem moX12_cornerHere : ab_own mdX12_cornerHere = 12 ∧ ab_cc mdX12_cornerHere = cX12_cornerHere ∧ ab_ml mdX12_cornerHere = 5 ∧ ab_rt mdX12_cornerHere = (some .int) ∧ ab_fr mdX12_cornerHere = 2 ∧ ab_lo mdX12_cornerHere = 42 ∧ ab_na mdX12_cornerHere = 3 := ⟨rfl, rfl, rfl, rfl, rfl, rfl, rfl⟩
theorem moX12_ends : ab_own mdX12_ends = 12 ∧ ab_cc mdX12_ends = cX12_ends ∧ ab_ml mdX12_ends = 1 ∧ ab_rt mdX12_ends = none ∧ ab_fr mdX12_ends = 2 ∧ ab_lo mdX12_ends = 43 ∧ ab_na mdX12_ends = 1 := ⟨rfl, rfl, rfl, rfl, rfl, rfl, rfl⟩
theorem moX12_laysTown : ab_own mdX12_laysTown = 12 ∧ ab_cc mdX12_laysTown = cX12_laysTown ∧ ab_ml mdX12_laysTown = 4 ∧ ab_rt mdX12_laysTown = none ∧ ab_fr mdX12_laysTown = 1 ∧ ab_lo mdX12_laysTown = 22 ∧ ab_na mdX12_laysTown = 1 := ⟨rfl, rfl, rfl, rfl, rfl, rfl, rfl⟩
theorem moX12_lays : ab_own mdX12_lays = 12 ∧ ab_cc mdX12_lays = cX12_lays ∧ ab_ml mdX12_lays = 3 ∧ ab_rt mdX12_lays = none ∧ ab_fr mdX12_lays = 0 ∧ ab_lo mdX12_lays = 0 ∧ ab_na mdX12_lays = 2 := ⟨rfl, rfl, rfl, rfl, rfl, rfl, rfl⟩
theorem moX12_fault : ab_own mdX12_fault = 12 ∧ ab_cc mdX12_fault = cX12_fault ∧ ab_ml mdX12_fault = 1 ∧ ab_rt mdX12_fault = (some .int) ∧ ab_fr mdX12_fault = 0 ∧ ab_lo mdX12_fault = 0 ∧ ab_na mdX12_fault = 1 := ⟨rfl, rfl, rfl, rfl, rfl, rfl, rfl⟩
theorem moX12_told : ab_own mdX12_told = 12 ∧ ab_cc mdX12_told = cX12_told ∧ ab_ml mdX12_told = 4 ∧ ab_rt mdX12_told = (some .int) ∧ ab_fr mdX12_told = 1 ∧ ab_lo mdX12_told = 22 ∧ ab_na mdX12_told = 2 := ⟨rfl, rfl, rfl, rfl, rfl, rfl, rfl⟩
theorem moX12_name : ab_own mdX12_name = 12 ∧ ab_cc mdX12_name = cX12_name ∧ ab_ml mdX12_name = 8 ∧ ab_rt mdX12_name = (some .int) ∧ ab_fr mdX12_name = 1 ∧ ab_lo mdX12_name = 22 ∧ ab_na mdX12_name = 3 := ⟨rfl, rfl, rfl, rfl, rfl, rfl, rfl⟩
theorem moX12_law : ab_own mdX12_law = 12 ∧ ab_cc mdX12_law = cX12_law ∧ ab_ml mdX12_law = 4 ∧ ab_rt mdX12_law = (some .int) ∧ ab_fr mdX12_law = 4 ∧ ab_lo mdX12_law = 89 ∧ ab_na mdX12_law = 2 := ⟨rfl, rfl, rfl, rfl, rfl, rfl, rfl⟩
theorem moX12_readLaw : ab_own mdX12_readLaw = 12 ∧ ab_cc mdX12_readLaw = cX12_readLaw ∧ ab_ml mdX12_readLaw = 4 ∧ ab_rt mdX12_readLaw = none ∧ ab_fr mdX12_readLaw = 3 ∧ ab_lo mdX12_readLaw = 66 ∧ ab_na mdX12_readLaw = 3 := ⟨rfl, rfl, rfl, rfl, rfl, rfl, rfl⟩
theorem moX12_force : ab_own mdX12_force = 12 ∧ ab_cc mdX12_force = cX12_force ∧ ab_ml mdX12_force = 2 ∧ ab_rt mdX12_force = (some .boolean) ∧ ab_fr mdX12_force = 2 ∧ ab_lo mdX12_force = 45 ∧ ab_na mdX12_force = 2 := ⟨rfl, rfl, rfl, rfl, rfl, rfl, rfl⟩
theorem moX12_far : ab_own mdX12_far = 12 ∧ ab_cc mdX12_far = cX12_far ∧ ab_ml mdX12_far = 4 ∧ ab_rt mdX12_far = (some .int) ∧ ab_fr mdX12_far = 3 ∧ ab_lo mdX12_far = 68 ∧ ab_na mdX12_far = 3 := ⟨rfl, rfl, rfl, rfl, rfl, rfl, rfl⟩
theorem moX12_isSpot : ab_own mdX12_isSpot = 12 ∧ ab_cc mdX12_isSpot = cX12_isSpot ∧ ab_ml mdX12_isSpot = 2 ∧ ab_rt mdX12_isSpot = (some .boolean) ∧ ab_fr mdX12_isSpot = 1 ∧ ab_lo mdX12_isSpot = 22 ∧ ab_na mdX12_isSpot = 2 := ⟨rfl, rfl, rfl, rfl, rfl, rfl, rfl⟩
theorem moX12_farOf : ab_own mdX12_farOf = 12 ∧ ab_cc mdX12_farOf = cX12_farOf ∧ ab_ml mdX12_farOf = 5 ∧ ab_rt mdX12_farOf = (some .int) ∧ ab_fr mdX12_farOf = 2 ∧ ab_lo mdX12_farOf = 44 ∧ ab_na mdX12_farOf = 3 := ⟨rfl, rfl, rfl, rfl, rfl, rfl, rfl⟩
theorem moX12_toCorner : ab_own mdX12_toCorner = 12 ∧ ab_cc mdX12_toCorner = cX12_toCorner ∧ ab_ml mdX12_toCorner = 4 ∧ ab_rt mdX12_toCorner = (some .int) ∧ ab_fr mdX12_toCorner = 1 ∧ ab_lo mdX12_toCorner = 21 ∧ ab_na mdX12_toCorner = 3 := ⟨rfl, rfl, rfl, rfl, rfl, rfl, rfl⟩
theorem moX12_streetOf : ab_own mdX12_streetOf = 12 ∧ ab_cc mdX12_streetOf = cX12_streetOf ∧ ab_ml mdX12_streetOf = 1 ∧ ab_rt mdX12_streetOf = (some .int) ∧ ab_fr mdX12_streetOf = 0 ∧ ab_lo mdX12_streetOf = 0 ∧ ab_na mdX12_streetOf = 1 := ⟨rfl, rfl, rfl, rfl, rfl, rfl, rfl⟩
theorem moX12_partOf : ab_own mdX12_partOf = 12 ∧ ab_cc mdX12_partOf = cX12_partOf ∧ ab_ml mdX12_partOf = 1 ∧ ab_rt mdX12_partOf = (some .int) ∧ ab_fr mdX12_partOf = 0 ∧ ab_lo mdX12_partOf = 0 ∧ ab_na mdX12_partOf = 1 := ⟨rfl, rfl, rfl, rfl, rfl, rfl, rfl⟩
theorem moX12_abs : ab_own mdX12_abs = 12 ∧ ab_cc mdX12_abs = cX12_abs ∧ ab_ml mdX12_abs = 1 ∧ ab_rt mdX12_abs = (some .int) ∧ ab_fr mdX12_abs = 0 ∧ ab_lo mdX12_abs = 0 ∧ ab_na mdX12_abs = 1 := ⟨rfl, rfl, rfl, rfl, rfl, rfl, rfl⟩
theorem moX12_seller : ab_own mdX12_seller = 12 ∧ ab_cc mdX12_seller = cX12_seller ∧ ab_ml mdX12_seller = 6 ∧ ab_rt mdX12_seller = (some .int) ∧ ab_fr mdX12_seller = 2 ∧ ab_lo mdX12_seller = 43 ∧ ab_na mdX12_seller = 6 := ⟨rfl, rfl, rfl, rfl, rfl, rfl, rfl⟩
theorem moX12_put : ab_own mdX12_put = 12 ∧ ab_cc mdX12_put = cX12_put ∧ ab_ml mdX12_put = 4 ∧ ab_rt mdX12_put = (some .boolean) ∧ ab_fr mdX12_put = 2 ∧ ab_lo mdX12_put = 43 ∧ ab_na mdX12_put = 4 := ⟨rfl, rfl, rfl, rfl, rfl, rfl, rfl⟩
theorem moX12_isSeller : ab_own mdX12_isSeller = 12 ∧ ab_cc mdX12_isSeller = cX12_isSeller ∧ ab_ml mdX12_isSeller = 2 ∧ ab_rt mdX12_isSeller = (some .boolean) ∧ ab_fr mdX12_isSeller = 0 ∧ ab_lo mdX12_isSeller = 0 ∧ ab_na mdX12_isSeller = 2 := ⟨rfl, rfl, rfl, rfl, rfl, rfl, rfl⟩
theorem moX12_of : ab_own mdX12_of = 12 ∧ ab_cc mdX12_of = cX12_of ∧ ab_ml mdX12_of = 3 ∧ ab_rt mdX12_of = (some .int) ∧ ab_fr mdX12_of = 1 ∧ ab_lo mdX12_of = 22 ∧ ab_na mdX12_of = 3 := ⟨rfl, rfl, rfl, rfl, rfl, rfl, rfl⟩
theorem moX12_priceOf : ab_own mdX12_priceOf = 12 ∧ ab_cc mdX12_priceOf = cX12_priceOf ∧ ab_ml mdX12_priceOf = 2 ∧ ab_rt mdX12_priceOf = (some .int) ∧ ab_fr mdX12_priceOf = 0 ∧ ab_lo mdX12_priceOf = 0 ∧ ab_na mdX12_priceOf = 2 := ⟨rfl, rfl, rfl, rfl, rfl, rfl, rfl⟩
theorem moX12_sold : ab_own mdX12_sold = 12 ∧ ab_cc mdX12_sold = cX12_sold ∧ ab_ml mdX12_sold = 2 ∧ ab_rt mdX12_sold = (some .long) ∧ ab_fr mdX12_sold = 4 ∧ ab_lo mdX12_sold = 88 ∧ ab_na mdX12_sold = 2 := ⟨rfl, rfl, rfl, rfl, rfl, rfl, rfl⟩
theorem moX12_sells : ab_own mdX12_sells = 12 ∧ ab_cc mdX12_sells = cX12_sells ∧ ab_ml mdX12_sells = 3 ∧ ab_rt mdX12_sells = none ∧ ab_fr mdX12_sells = 3 ∧ ab_lo mdX12_sells = 66 ∧ ab_na mdX12_sells = 1 := ⟨rfl, rfl, rfl, rfl, rfl, rfl, rfl⟩
theorem moX12_paces : ab_own mdX12_paces = 12 ∧ ab_cc mdX12_paces = cX12_paces ∧ ab_ml mdX12_paces = 3 ∧ ab_rt mdX12_paces = none ∧ ab_fr mdX12_paces = 2 ∧ ab_lo mdX12_paces = 44 ∧ ab_na mdX12_paces = 1 := ⟨rfl, rfl, rfl, rfl, rfl, rfl, rfl⟩
theorem moX12_buyersAt : ab_own mdX12_buyersAt = 12 ∧ ab_cc mdX12_buyersAt = cX12_buyersAt ∧ ab_ml mdX12_buyersAt = 6 ∧ ab_rt mdX12_buyersAt = (some .int) ∧ ab_fr mdX12_buyersAt = 1 ∧ ab_lo mdX12_buyersAt = 21 ∧ ab_na mdX12_buyersAt = 2 := ⟨rfl, rfl, rfl, rfl, rfl, rfl, rfl⟩
theorem moX12_gives : ab_own mdX12_gives = 12 ∧ ab_cc mdX12_gives = cX12_gives ∧ ab_ml mdX12_gives = 6 ∧ ab_rt mdX12_gives = none ∧ ab_fr mdX12_gives = 0 ∧ ab_lo mdX12_gives = 0 ∧ ab_na mdX12_gives = 3 := ⟨rfl, rfl, rfl, rfl, rfl, rfl, rfl⟩
theorem moX12_buyersOn : ab_own mdX12_buyersOn = 12 ∧ ab_cc mdX12_buyersOn = cX12_buyersOn ∧ ab_ml mdX12_buyersOn = 9 ∧ ab_rt mdX12_buyersOn = (some .int) ∧ ab_fr mdX12_buyersOn = 1 ∧ ab_lo mdX12_buyersOn = 21 ∧ ab_na mdX12_buyersOn = 3 := ⟨rfl, rfl, rfl, rfl, rfl, rfl, rfl⟩
theorem moX12_earns : ab_own mdX12_earns = 12 ∧ ab_cc mdX12_earns = cX12_earns ∧ ab_ml mdX12_earns = 2 ∧ ab_rt mdX12_earns = (some .long) ∧ ab_fr mdX12_earns = 4 ∧ ab_lo mdX12_earns = 88 ∧ ab_na mdX12_earns = 2 := ⟨rfl, rfl, rfl, rfl, rfl, rfl, rfl⟩
theorem moX12_chainEarns : ab_own mdX12_chainEarns = 12 ∧ ab_cc mdX12_chainEarns = cX12_chainEarns ∧ ab_ml mdX12_chainEarns = 5 ∧ ab_rt mdX12_chainEarns = (some .long) ∧ ab_fr mdX12_chainEarns = 2 ∧ ab_lo mdX12_chainEarns = 42 ∧ ab_na mdX12_chainEarns = 2 := ⟨rfl, rfl, rfl, rfl, rfl, rfl, rfl⟩
theorem moX12_earnsOf : ab_own mdX12_earnsOf = 12 ∧ ab_cc mdX12_earnsOf = cX12_earnsOf ∧ ab_ml mdX12_earnsOf = 2 ∧ ab_rt mdX12_earnsOf = (some .long) ∧ ab_fr mdX12_earnsOf = 1 ∧ ab_lo mdX12_earnsOf = 21 ∧ ab_na mdX12_earnsOf = 2 := ⟨rfl, rfl, rfl, rfl, rfl, rfl, rfl⟩
theorem moX12_home : ab_own mdX12_home = 12 ∧ ab_cc mdX12_home = cX12_home ∧ ab_ml mdX12_home = 1 ∧ ab_rt mdX12_home = (some .long) ∧ ab_fr mdX12_home = 4 ∧ ab_lo mdX12_home = 88 ∧ ab_na mdX12_home = 1 := ⟨rfl, rfl, rfl, rfl, rfl, rfl, rfl⟩
theorem moX12_buys : ab_own mdX12_buys = 12 ∧ ab_cc mdX12_buys = cX12_buys ∧ ab_ml mdX12_buys = 2 ∧ ab_rt mdX12_buys = (some .int) ∧ ab_fr mdX12_buys = 3 ∧ ab_lo mdX12_buys = 66 ∧ ab_na mdX12_buys = 2 := ⟨rfl, rfl, rfl, rfl, rfl, rfl, rfl⟩
theorem moX12_best : ab_own mdX12_best = 12 ∧ ab_cc mdX12_best = cX12_best ∧ ab_ml mdX12_best = 3 ∧ ab_rt mdX12_best = (some .long) ∧ ab_fr mdX12_best = 6 ∧ ab_lo mdX12_best = 137 ∧ ab_na mdX12_best = 3 := ⟨rfl, rfl, rfl, rfl, rfl, rfl, rfl⟩
theorem moX12_findBest : ab_own mdX12_findBest = 12 ∧ ab_cc mdX12_findBest = cX12_findBest ∧ ab_ml mdX12_findBest = 5 ∧ ab_rt mdX12_findBest = none ∧ ab_fr mdX12_findBest = 5 ∧ ab_lo mdX12_findBest = 113 ∧ ab_na mdX12_findBest = 2 := ⟨rfl, rfl, rfl, rfl, rfl, rfl, rfl⟩
theorem moX12_tries : ab_own mdX12_tries = 12 ∧ ab_cc mdX12_tries = cX12_tries ∧ ab_ml mdX12_tries = 6 ∧ ab_rt mdX12_tries = none ∧ ab_fr mdX12_tries = 4 ∧ ab_lo mdX12_tries = 88 ∧ ab_na mdX12_tries = 4 := ⟨rfl, rfl, rfl, rfl, rfl, rfl, rfl⟩
theorem moX12_isLet : ab_own mdX12_isLet = 12 ∧ ab_cc mdX12_isLet = cX12_isLet ∧ ab_ml mdX12_isLet = 5 ∧ ab_rt mdX12_isLet = (some .boolean) ∧ ab_fr mdX12_isLet = 3 ∧ ab_lo mdX12_isLet = 68 ∧ ab_na mdX12_isLet = 3 := ⟨rfl, rfl, rfl, rfl, rfl, rfl, rfl⟩
theorem moX12_rest : ab_own mdX12_rest = 12 ∧ ab_cc mdX12_rest = cX12_rest ∧ ab_ml mdX12_rest = 2 ∧ ab_rt mdX12_rest = (some .int) ∧ ab_fr mdX12_rest = 6 ∧ ab_lo mdX12_rest = 137 ∧ ab_na mdX12_rest = 1 := ⟨rfl, rfl, rfl, rfl, rfl, rfl, rfl⟩
theorem moX12_turn : ab_own mdX12_turn = 12 ∧ ab_cc mdX12_turn = cX12_turn ∧ ab_ml mdX12_turn = 2 ∧ ab_rt mdX12_turn = (some .boolean) ∧ ab_fr mdX12_turn = 6 ∧ ab_lo mdX12_turn = 137 ∧ ab_na mdX12_turn = 2 := ⟨rfl, rfl, rfl, rfl, rfl, rfl, rfl⟩
theorem moX12_chase : ab_own mdX12_chase = 12 ∧ ab_cc mdX12_chase = cX12_chase ∧ ab_ml mdX12_chase = 8 ∧ ab_rt mdX12_chase = (some .int) ∧ ab_fr mdX12_chase = 7 ∧ ab_lo mdX12_chase = 158 ∧ ab_na mdX12_chase = 3 := ⟨rfl, rfl, rfl, rfl, rfl, rfl, rfl⟩
theorem moX12_notes : ab_own mdX12_notes = 12 ∧ ab_cc mdX12_notes = cX12_notes ∧ ab_ml mdX12_notes = 3 ∧ ab_rt mdX12_notes = none ∧ ab_fr mdX12_notes = 0 ∧ ab_lo mdX12_notes = 0 ∧ ab_na mdX12_notes = 2 := ⟨rfl, rfl, rfl, rfl, rfl, rfl, rfl⟩
theorem moX12_isAs : ab_own mdX12_isAs = 12 ∧ ab_cc mdX12_isAs = cX12_isAs ∧ ab_ml mdX12_isAs = 4 ∧ ab_rt mdX12_isAs = (some .boolean) ∧ ab_fr mdX12_isAs = 0 ∧ ab_lo mdX12_isAs = 0 ∧ ab_na mdX12_isAs = 2 := ⟨rfl, rfl, rfl, rfl, rfl, rfl, rfl⟩
theorem moX12_rests : ab_own mdX12_rests = 12 ∧ ab_cc mdX12_rests = cX12_rests ∧ ab_ml mdX12_rests = 9 ∧ ab_rt mdX12_rests = (some .int) ∧ ab_fr mdX12_rests = 6 ∧ ab_lo mdX12_rests = 142 ∧ ab_na mdX12_rests = 5 := ⟨rfl, rfl, rfl, rfl, rfl, rfl, rfl⟩
theorem moX12_areTwo : ab_own mdX12_areTwo = 12 ∧ ab_cc mdX12_areTwo = cX12_areTwo ∧ ab_ml mdX12_areTwo = 3 ∧ ab_rt mdX12_areTwo = (some .boolean) ∧ ab_fr mdX12_areTwo = 1 ∧ ab_lo mdX12_areTwo = 21 ∧ ab_na mdX12_areTwo = 3 := ⟨rfl, rfl, rfl, rfl, rfl, rfl, rfl⟩
theorem moX12_plays : ab_own mdX12_plays = 12 ∧ ab_cc mdX12_plays = cX12_plays ∧ ab_ml mdX12_plays = 8 ∧ ab_rt mdX12_plays = none ∧ ab_fr mdX12_plays = 5 ∧ ab_lo mdX12_plays = 115 ∧ ab_na mdX12_plays = 4 := ⟨rfl, rfl, rfl, rfl, rfl, rfl, rfl⟩
theorem moX12_rowOf : ab_own mdX12_rowOf = 12 ∧ ab_cc mdX12_rowOf = cX12_rowOf ∧ ab_ml mdX12_rowOf = 3 ∧ ab_rt mdX12_rowOf = (some .int) ∧ ab_fr mdX12_rowOf = 0 ∧ ab_lo mdX12_rowOf = 0 ∧ ab_na mdX12_rowOf = 3 := ⟨rfl, rfl, rfl, rfl, rfl, rfl, rfl⟩
theorem moX12_isRowLet : ab_own mdX12_isRowLet = 12 ∧ ab_cc mdX12_isRowLet = cX12_isRowLet ∧ ab_ml mdX12_isRowLet = 6 ∧ ab_rt mdX12_isRowLet = (some .boolean) ∧ ab_fr mdX12_isRowLet = 4 ∧ ab_lo mdX12_isRowLet = 90 ∧ ab_na mdX12_isRowLet = 4 := ⟨rfl, rfl, rfl, rfl, rfl, rfl, rfl⟩
theorem moX12_isApart : ab_own mdX12_isApart = 12 ∧ ab_cc mdX12_isApart = cX12_isApart ∧ ab_ml mdX12_isApart = 3 ∧ ab_rt mdX12_isApart = (some .boolean) ∧ ab_fr mdX12_isApart = 3 ∧ ab_lo mdX12_isApart = 68 ∧ ab_na mdX12_isApart = 3 := ⟨rfl, rfl, rfl, rfl, rfl, rfl, rfl⟩
theorem moX12_isRest : ab_own mdX12_isRest = 12 ∧ ab_cc mdX12_isRest = cX12_isRest ∧ ab_ml mdX12_isRest = 8 ∧ ab_rt mdX12_isRest = (some .boolean) ∧ ab_fr mdX12_isRest = 1 ∧ ab_lo mdX12_isRest = 22 ∧ ab_na mdX12_isRest = 5 := ⟨rfl, rfl, rfl, rfl, rfl, rfl, rfl⟩
theorem moX12_lots : ab_own mdX12_lots = 12 ∧ ab_cc mdX12_lots = cX12_lots ∧ ab_ml mdX12_lots = 17 ∧ ab_rt mdX12_lots = (some .long) ∧ ab_fr mdX12_lots = 6 ∧ ab_lo mdX12_lots = 142 ∧ ab_na mdX12_lots = 6 := ⟨rfl, rfl, rfl, rfl, rfl, rfl, rfl⟩
theorem moX12_isCorner : ab_own mdX12_isCorner = 12 ∧ ab_cc mdX12_isCorner = cX12_isCorner ∧ ab_ml mdX12_isCorner = 2 ∧ ab_rt mdX12_isCorner = (some .boolean) ∧ ab_fr mdX12_isCorner = 0 ∧ ab_lo mdX12_isCorner = 0 ∧ ab_na mdX12_isCorner = 2 := ⟨rfl, rfl, rfl, rfl, rfl, rfl, rfl⟩
theorem moX12_isRestOf : ab_own mdX12_isRestOf = 12 ∧ ab_cc mdX12_isRestOf = cX12_isRestOf ∧ ab_ml mdX12_isRestOf = 7 ∧ ab_rt mdX12_isRestOf = (some .boolean) ∧ ab_fr mdX12_isRestOf = 1 ∧ ab_lo mdX12_isRestOf = 22 ∧ ab_na mdX12_isRestOf = 4 := ⟨rfl, rfl, rfl, rfl, rfl, rfl, rfl⟩
theorem moX12_divisor : ab_own mdX12_divisor = 12 ∧ ab_cc mdX12_divisor = cX12_divisor ∧ ab_ml mdX12_divisor = 10 ∧ ab_rt mdX12_divisor = (some .long) ∧ ab_fr mdX12_divisor = 0 ∧ ab_lo mdX12_divisor = 0 ∧ ab_na mdX12_divisor = 2 := ⟨rfl, rfl, rfl, rfl, rfl, rfl, rfl⟩
theorem moX12_lead : ab_own mdX12_lead = 12 ∧ ab_cc mdX12_lead = cX12_lead ∧ ab_ml mdX12_lead = 5 ∧ ab_rt mdX12_lead = (some .long) ∧ ab_fr mdX12_lead = 6 ∧ ab_lo mdX12_lead = 142 ∧ ab_na mdX12_lead = 4 := ⟨rfl, rfl, rfl, rfl, rfl, rfl, rfl⟩
theorem moX12_leads : ab_own mdX12_leads = 12 ∧ ab_cc mdX12_leads = cX12_leads ∧ ab_ml mdX12_leads = 8 ∧ ab_rt mdX12_leads = (some .boolean) ∧ ab_fr mdX12_leads = 2 ∧ ab_lo mdX12_leads = 48 ∧ ab_na mdX12_leads = 2 := ⟨rfl, rfl, rfl, rfl, rfl, rfl, rfl⟩
theorem moX12_answerTo : ab_own mdX12_answerTo = 12 ∧ ab_cc mdX12_answerTo = cX12_answerTo ∧ ab_ml mdX12_answerTo = 7 ∧ ab_rt mdX12_answerTo = (some .int) ∧ ab_fr mdX12_answerTo = 1 ∧ ab_lo mdX12_answerTo = 22 ∧ ab_na mdX12_answerTo = 3 := ⟨rfl, rfl, rfl, rfl, rfl, rfl, rfl⟩
theorem moX12_prices : ab_own mdX12_prices = 12 ∧ ab_cc mdX12_prices = cX12_prices ∧ ab_ml mdX12_prices = 5 ∧ ab_rt mdX12_prices = (some .int) ∧ ab_fr mdX12_prices = 5 ∧ ab_lo mdX12_prices = 114 ∧ ab_na mdX12_prices = 4 := ⟨rfl, rfl, rfl, rfl, rfl, rfl, rfl⟩
theorem moX12_asks : ab_own mdX12_asks = 12 ∧ ab_cc mdX12_asks = cX12_asks ∧ ab_ml mdX12_asks = 7 ∧ ab_rt mdX12_asks = none ∧ ab_fr mdX12_asks = 4 ∧ ab_lo mdX12_asks = 88 ∧ ab_na mdX12_asks = 3 := ⟨rfl, rfl, rfl, rfl, rfl, rfl, rfl⟩
theorem moX12_pairOf : ab_own mdX12_pairOf = 12 ∧ ab_cc mdX12_pairOf = cX12_pairOf ∧ ab_ml mdX12_pairOf = 5 ∧ ab_rt mdX12_pairOf = (some .int) ∧ ab_fr mdX12_pairOf = 1 ∧ ab_lo mdX12_pairOf = 24 ∧ ab_na mdX12_pairOf = 2 := ⟨rfl, rfl, rfl, rfl, rfl, rfl, rfl⟩
theorem moX12_arePrices : ab_own mdX12_arePrices = 12 ∧ ab_cc mdX12_arePrices = cX12_arePrices ∧ ab_ml mdX12_arePrices = 5 ∧ ab_rt mdX12_arePrices = (some .boolean) ∧ ab_fr mdX12_arePrices = 0 ∧ ab_lo mdX12_arePrices = 0 ∧ ab_na mdX12_arePrices = 3 := ⟨rfl, rfl, rfl, rfl, rfl, rfl, rfl⟩
theorem moX12_stage : ab_own mdX12_stage = 12 ∧ ab_cc mdX12_stage = cX12_stage ∧ ab_ml mdX12_stage = 11 ∧ ab_rt mdX12_stage = (some .int) ∧ ab_fr mdX12_stage = 5 ∧ ab_lo mdX12_stage = 115 ∧ ab_na mdX12_stage = 6 := ⟨rfl, rfl, rfl, rfl, rfl, rfl, rfl⟩
theorem moX12_walk : ab_own mdX12_walk = 12 ∧ ab_cc mdX12_walk = cX12_walk ∧ ab_ml mdX12_walk = 3 ∧ ab_rt mdX12_walk = (some .long) ∧ ab_fr mdX12_walk = 4 ∧ ab_lo mdX12_walk = 93 ∧ ab_na mdX12_walk = 3 := ⟨rfl, rfl, rfl, rfl, rfl, rfl, rfl⟩
theorem moX12_walkTo : ab_own mdX12_walkTo = 12 ∧ ab_cc mdX12_walkTo = cX12_walkTo ∧ ab_ml mdX12_walkTo = 3 ∧ ab_rt mdX12_walkTo = (some .long) ∧ ab_fr mdX12_walkTo = 3 ∧ ab_lo mdX12_walkTo = 71 ∧ ab_na mdX12_walkTo = 3 := ⟨rfl, rfl, rfl, rfl, rfl, rfl, rfl⟩
theorem moX12_walkOf : ab_own mdX12_walkOf = 12 ∧ ab_cc mdX12_walkOf = cX12_walkOf ∧ ab_ml mdX12_walkOf = 7 ∧ ab_rt mdX12_walkOf = (some .long) ∧ ab_fr mdX12_walkOf = 2 ∧ ab_lo mdX12_walkOf = 45 ∧ ab_na mdX12_walkOf = 1 := ⟨rfl, rfl, rfl, rfl, rfl, rfl, rfl⟩
theorem moX12_halves : ab_own mdX12_halves = 12 ∧ ab_cc mdX12_halves = cX12_halves ∧ ab_ml mdX12_halves = 5 ∧ ab_rt mdX12_halves = (some .int) ∧ ab_fr mdX12_halves = 1 ∧ ab_lo mdX12_halves = 21 ∧ ab_na mdX12_halves = 3 := ⟨rfl, rfl, rfl, rfl, rfl, rfl, rfl⟩
theorem moX12_own : ab_own mdX12_own = 12 ∧ ab_cc mdX12_own = cX12_own ∧ ab_ml mdX12_own = 5 ∧ ab_rt mdX12_own = (some .long) ∧ ab_fr mdX12_own = 5 ∧ ab_lo mdX12_own = 120 ∧ ab_na mdX12_own = 3 := ⟨rfl, rfl, rfl, rfl, rfl, rfl, rfl⟩
theorem moX12_ownOf : ab_own mdX12_ownOf = 12 ∧ ab_cc mdX12_ownOf = cX12_ownOf ∧ ab_ml mdX12_ownOf = 8 ∧ ab_rt mdX12_ownOf = (some .long) ∧ ab_fr mdX12_ownOf = 4 ∧ ab_lo mdX12_ownOf = 93 ∧ ab_na mdX12_ownOf = 2 := ⟨rfl, rfl, rfl, rfl, rfl, rfl, rfl⟩
theorem moX12_loss : ab_own mdX12_loss = 12 ∧ ab_cc mdX12_loss = cX12_loss ∧ ab_ml mdX12_loss = 5 ∧ ab_rt mdX12_loss = (some .long) ∧ ab_fr mdX12_loss = 5 ∧ ab_lo mdX12_loss = 120 ∧ ab_na mdX12_loss = 1 := ⟨rfl, rfl, rfl, rfl, rfl, rfl, rfl⟩
theorem moX12_bestLaw : ab_own mdX12_bestLaw = 12 ∧ ab_cc mdX12_bestLaw = cX12_bestLaw ∧ ab_ml mdX12_bestLaw = 12 ∧ ab_rt mdX12_bestLaw = (some .long) ∧ ab_fr mdX12_bestLaw = 7 ∧ ab_lo mdX12_bestLaw = 170 ∧ ab_na mdX12_bestLaw = 4 := ⟨rfl, rfl, rfl, rfl, rfl, rfl, rfl⟩
theorem moX12_lawWalk : ab_own mdX12_lawWalk = 12 ∧ ab_cc mdX12_lawWalk = cX12_lawWalk ∧ ab_ml mdX12_lawWalk = 9 ∧ ab_rt mdX12_lawWalk = (some .long) ∧ ab_fr mdX12_lawWalk = 6 ∧ ab_lo mdX12_lawWalk = 142 ∧ ab_na mdX12_lawWalk = 3 := ⟨rfl, rfl, rfl, rfl, rfl, rfl, rfl⟩
theorem moX12_shift : ab_own mdX12_shift = 12 ∧ ab_cc mdX12_shift = cX12_shift ∧ ab_ml mdX12_shift = 7 ∧ ab_rt mdX12_shift = (some .int) ∧ ab_fr mdX12_shift = 7 ∧ ab_lo mdX12_shift = 158 ∧ ab_na mdX12_shift = 3 := ⟨rfl, rfl, rfl, rfl, rfl, rfl, rfl⟩
theorem moX12_image : ab_own mdX12_image = 12 ∧ ab_cc mdX12_image = cX12_image ∧ ab_ml mdX12_image = 3 ∧ ab_rt mdX12_image = (some .int) ∧ ab_fr mdX12_image = 0 ∧ ab_lo mdX12_image = 0 ∧ ab_na mdX12_image = 1 := ⟨rfl, rfl, rfl, rfl, rfl, rfl, rfl⟩
theorem moX12_back : ab_own mdX12_back = 12 ∧ ab_cc mdX12_back = cX12_back ∧ ab_ml mdX12_back = 4 ∧ ab_rt mdX12_back = (some .boolean) ∧ ab_fr mdX12_back = 2 ∧ ab_lo mdX12_back = 45 ∧ ab_na mdX12_back = 2 := ⟨rfl, rfl, rfl, rfl, rfl, rfl, rfl⟩
theorem moX12_count : ab_own mdX12_count = 12 ∧ ab_cc mdX12_count = cX12_count ∧ ab_ml mdX12_count = 2 ∧ ab_rt mdX12_count = (some .int) ∧ ab_fr mdX12_count = 1 ∧ ab_lo mdX12_count = 22 ∧ ab_na mdX12_count = 2 := ⟨rfl, rfl, rfl, rfl, rfl, rfl, rfl⟩
theorem moX12_spotsOpen : ab_own mdX12_spotsOpen = 12 ∧ ab_cc mdX12_spotsOpen = cX12_spotsOpen ∧ ab_ml mdX12_spotsOpen = 3 ∧ ab_rt mdX12_spotsOpen = (some .int) ∧ ab_fr mdX12_spotsOpen = 0 ∧ ab_lo mdX12_spotsOpen = 0 ∧ ab_na mdX12_spotsOpen = 1 := ⟨rfl, rfl, rfl, rfl, rfl, rfl, rfl⟩
theorem moX12_partsOpen : ab_own mdX12_partsOpen = 12 ∧ ab_cc mdX12_partsOpen = cX12_partsOpen ∧ ab_ml mdX12_partsOpen = 3 ∧ ab_rt mdX12_partsOpen = (some .int) ∧ ab_fr mdX12_partsOpen = 0 ∧ ab_lo mdX12_partsOpen = 0 ∧ ab_na mdX12_partsOpen = 1 := ⟨rfl, rfl, rfl, rfl, rfl, rfl, rfl⟩
