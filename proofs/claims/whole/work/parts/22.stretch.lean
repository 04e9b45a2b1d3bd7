-- CLASS: a stretch of a street
theorem zabs (x : Int) : (if 0 ≤ x then x else -x) = max x (-x) := by split <;> omega
/-- four times the costs at a quarter place X of street s -/
def zCX (σ : ab_S) (o : Nat) (s X j : Int) : Int := if 100 ≤ σ (o + 1) j ∧ (σ (o + 1) j - 100) / 20 = s then min (min (4 * (σ (o + 2) j + σ o 8 * σ (o + 3) (12 * j + σ 8 s)) + X) (4 * (σ (o + 2) j + σ o 8 * σ (o + 3) (12 * j + σ 9 s)) + (4 * (σ o 8 * σ 10 s) - X))) (4 * σ (o + 2) j + max (X - 4 * (σ o 8 * ((σ (o + 1) j - 100) % 20))) (-(X - 4 * (σ o 8 * ((σ (o + 1) j - 100) % 20))))) else min (4 * (σ (o + 2) j + σ o 8 * σ (o + 3) (12 * j + σ 8 s)) + X) (4 * (σ (o + 2) j + σ o 8 * σ (o + 3) (12 * j + σ 9 s)) + (4 * (σ o 8 * σ 10 s) - X))
theorem zCX_t {σ : ab_S} {o : Nat} {s t j : Int} (hp : 1 ≤ σ o 8 ∧ σ o 8 ≤ 5) : zCX σ o s (4 * (σ o 8 * t)) j = 4 * zCt σ o s t j := by
  unfold zCX zCt
  have e1 : σ o 8 * (σ 10 s - t) = σ o 8 * σ 10 s - σ o 8 * t := Int.mul_sub _ _ _
  have e3 : σ o 8 * (t - (σ (o + 1) j - 100) % 20) = σ o 8 * t - σ o 8 * ((σ (o + 1) j - 100) % 20) := Int.mul_sub _ _ _
  rw [e1]
  by_cases h : 100 ≤ σ (o + 1) j ∧ (σ (o + 1) j - 100) / 20 = s
  · rw [if_pos h, if_pos h]
    by_cases h2 : 0 ≤ t - (σ (o + 1) j - 100) % 20
    · rw [if_pos h2, e3]
      have : 0 ≤ σ o 8 * (t - (σ (o + 1) j - 100) % 20) := Int.mul_nonneg (by omega) h2
      rw [e3] at this
      omega
    · rw [if_neg h2, Int.mul_neg, e3]
      have : 0 ≤ σ o 8 * (-(t - (σ (o + 1) j - 100) % 20)) := Int.mul_nonneg (by omega) (by omega)
      rw [Int.mul_neg, e3] at this
      omega
  · rw [if_neg h, if_neg h]
    omega
theorem zCX_mid {σ : ab_S} {o : Nat} {s t0 t1 j i : Int} (hp : 1 ≤ σ o 8 ∧ σ o 8 ≤ 5) (ht : t0 ≤ t1) (hno : (100 ≤ σ (o + 1) j ∧ (σ (o + 1) j - 100) / 20 = s) → ((σ (o + 1) j - 100) % 20 ≤ t0 ∨ t1 ≤ (σ (o + 1) j - 100) % 20)) (hi : 0 ≤ i ∧ i < 2 * (σ o 8 * t1 - σ o 8 * t0)) :
    zCX σ o s (4 * (σ o 8 * t0) + (2 * i + 1)) j = min (zCX σ o s (4 * (σ o 8 * t0)) j + (2 * i + 1)) (zCX σ o s (4 * (σ o 8 * t1)) j + (4 * (σ o 8 * t1 - σ o 8 * t0) - (2 * i + 1))) := by
  unfold zCX
  by_cases h : 100 ≤ σ (o + 1) j ∧ (σ (o + 1) j - 100) / 20 = s
  · rw [if_pos h, if_pos h, if_pos h]
    rcases hno h with q | q
    · have : σ o 8 * ((σ (o + 1) j - 100) % 20) ≤ σ o 8 * t0 := Int.mul_le_mul_of_nonneg_left q (by omega)
      omega
    · have : σ o 8 * t1 ≤ σ o 8 * ((σ (o + 1) j - 100) % 20) := Int.mul_le_mul_of_nonneg_left q (by omega)
      omega
  · rw [if_neg h, if_neg h, if_neg h]
    omega
theorem zCX_lip {σ : ab_S} {o : Nat} {s t0 t1 j : Int} (hp : 1 ≤ σ o 8 ∧ σ o 8 ≤ 5) (ht : t0 ≤ t1) : zCX σ o s (4 * (σ o 8 * t1)) j ≤ zCX σ o s (4 * (σ o 8 * t0)) j + 4 * (σ o 8 * t1 - σ o 8 * t0) ∧ zCX σ o s (4 * (σ o 8 * t0)) j ≤ zCX σ o s (4 * (σ o 8 * t1)) j + 4 * (σ o 8 * t1 - σ o 8 * t0) := by
  have : σ o 8 * t0 ≤ σ o 8 * t1 := Int.mul_le_mul_of_nonneg_left ht (by omega)
  unfold zCX
  by_cases h : 100 ≤ σ (o + 1) j ∧ (σ (o + 1) j - 100) / 20 = s
  · rw [if_pos h, if_pos h]
    omega
  · rw [if_neg h, if_neg h]
    omega
theorem zmi (a b i x : Int) : a * (b * (if i = x then 1 else 0)) = if i = x then a * b else 0 := by
  by_cases h : i = x
  · rw [if_pos h, if_pos h, Int.mul_one]
  · rw [if_neg h, if_neg h, Int.mul_zero, Int.mul_zero]
theorem zu_add (T : Int → Int) (i a : Int) : zu T i (T i + a) = fun x => T x + (if i = x then a else 0) := by
  funext x
  unfold zu
  by_cases h : x = i
  · rw [if_pos h, if_pos h.symm, h]
  · rw [if_neg h, if_neg (fun q => h q.symm), Int.add_zero]
-- Market.meetStretch
set_option maxRecDepth 100000 in
set_option maxHeartbeats 4000000 in
theorem r_mStretch {σ : ab_S} {m0 M0 m1 M1 len cr : Int} {K : ab_V → ab_S → Prop} (hm0 : 0 ≤ m0 ∧ m0 ≤ 1000060) (hM0 : 0 ≤ M0 ∧ M0 < 16) (hm1 : 0 ≤ m1 ∧ m1 ≤ 1000060) (hM1 : 0 ≤ M1 ∧ M1 < 16) (hl : 0 ≤ σ 65 8 * len ∧ σ 65 8 * len ≤ 60) (hh : 0 ≤ σ 3 11 ∧ σ 3 11 ≤ 9999)
    (h : ∀ f, (∀ x, f x = σ 73 x + 12 * cr * (max 0 (min (m1 - m0 + σ 65 8 * len) (2 * (σ 3 11 - m0))) * (if M0 = x then 1 else 0) + max 0 (min (2 * (σ 65 8 * len) - (m1 - m0 + σ 65 8 * len)) (2 * (σ 3 11 - m1))) * (if M1 = x then 1 else 0) + (2 * (σ 65 8 * len) - max 0 (min (m1 - m0 + σ 65 8 * len) (2 * (σ 3 11 - m0))) - max 0 (min (2 * (σ 65 8 * len) - (m1 - m0 + σ 65 8 * len)) (2 * (σ 3 11 - m1)))) * (if 0 = x then 1 else 0))) → K (vI 0) (ab_set σ 73 f)) :
    ab_Runs ab_G1 mdX3_meetStretch [vR 65, vI (16 * m0 + M0), vI (16 * m1 + M1), vI len, vI cr] σ K := by
  refine ab_runs mwX3_meetStretch (by decide +kernel) (Nat.le_of_ble_eq_true rfl) (fun G hG => ?_)
  show G 0 [some (vR 65), some (vI (16 * m0 + M0)), some (vI (16 * m1 + M1)), some (vI len), some (vI cr), none, none, none, none, none] [] _
  have a1 : 2 * σ 65 8 * len = 2 * (σ 65 8 * len) := Int.mul_assoc _ _ _
  have b1 : ab_shr (16 * m0 + M0) 4 = m0 := by rw [z_shr4 (by omega)]; omega
  have b2 : ab_shr (16 * m1 + M1) 4 = m1 := by rw [z_shr4 (by omega)]; omega
  have b3 : ab_and (16 * m0 + M0) 15 = M0 := by rw [z_and15 (by omega)]; omega
  have b4 : ab_and (16 * m1 + M1) 15 = M1 := by rw [z_and15 (by omega)]; omega
  apply hG [] 120
  simp only [cq_lt, cq_le, cq_gt, cq_ge, cq_eq, cq_r1, cq_r2, ab_r32, ab_r64, ab_go, ab_stp, wp_z, wp_s, ab_in, ab_gv, ab_psh, ab_rok, ab_wsum, ab_prm, ab_ret, ab_sw, ab_cd, ab_tg, ab_cat_i, ab_cat_l, ab_cat_r, ab_cl_n, ab_cl_i, ab_cl_l, ab_cl_r, ab_f2_0, ab_f2_1, ab_f4_0, ab_f4_1, ab_f4_2, ab_f4_3, ab_op_s, ab_gI_s, ab_gL_s, ab_gR_s, ab_b1_s, ab_b2_s, ab_l1_s, ab_l2_s, ab_li_s, ab_o1_s, ab_io_s, ab_lo1_s, ab_iio_s, ab_lio_s, ab_cp5_s, ab_d2_l, ab_d2_i, ab_d2_o, ex_iconst, ex_bipush, ex_sipush, ex_lconst, ex_ldc, ex_ldc_w, ex_ldc2_w, ex_iload_n, ex_iload, ex_lload_n, ex_lload, ex_aload_n, ex_aload, ex_istore_n, ex_istore, ex_lstore_n, ex_lstore, ex_iinc, ex_iadd, ex_isub, ex_imul, ex_iand, ex_ior, ex_ixor, ex_ishl, ex_ishr, ex_iushr, ex_idiv, ex_irem, ex_ladd, ex_lsub, ex_lmul, ex_lor, ex_ldiv, ex_lrem, ex_lshl, ex_lcmp, ex_ineg, ex_lneg, ex_i2l, ex_l2i, ex_i2b, ex_dup, ex_pop, ex_dup2, ex_goto, ex_ifCond, ex_if_icmp, ex_tableswitch, ex_getfield, ex_putfield, ex_iaload, ex_laload, ex_baload, ex_iastore, ex_lastore, ex_bastore, ex_aaload, ex_arraylength, ex_invokevirtual, ex_invokestatic, ex_ireturn, ex_lreturn, ex_return_, List.map_cons, List.map_nil, List.sum_cons, List.sum_nil, List.drop_succ_cons, List.drop_zero, List.take_succ_cons, List.take_zero, List.reverse_cons, List.reverse_nil, List.nil_append, List.cons_append, List.length_cons, List.length_nil, true_and, and_true, cond_false, cond_true, Bool.false_or, Bool.or_false, Bool.or_true, Bool.true_or, true_or, or_true, false_or, or_false, if_true, if_false, reduceIte, ite_true, ite_false, implies_true, true_implies, false_implies, forall_const, not_true_eq_false, not_false_eq_true, Nat.reduceAdd, Nat.reduceMul, Nat.reduceSub, Nat.reduceBEq, Nat.reduceEqDiff, Nat.reduceLeDiff, Nat.reduceLT, Int.reduceAdd, Int.reduceSub, Int.reduceMul, Int.reduceNeg, Int.reduceToNat, Int.reduceLE, Int.reduceLT, Int.reduceEq, Int.reduceNe, Int.reduceNatCast, Nat.add_zero, Nat.zero_add, reduceCtorEq, Int.reduceNatCast', moX3_meetStretch, dX3_meetStretch_0, dX3_meetStretch_1, dX3_meetStretch_2, gt1_3_43_65, dX3_meetStretch_5, dX3_meetStretch_6, dX3_meetStretch_7, dX3_meetStretch_8, dX3_meetStretch_10, dX3_meetStretch_11, dX3_meetStretch_12, dX3_meetStretch_13, dX3_meetStretch_14, dX3_meetStretch_15, dX3_meetStretch_16, dX3_meetStretch_17, dX3_meetStretch_18, dX3_meetStretch_21, dX3_meetStretch_22, dX3_meetStretch_23, dX3_meetStretch_24, dX3_meetStretch_26, dX3_meetStretch_27, dX3_meetStretch_29, dX3_meetStretch_30, dX3_meetStretch_31, gt1_3_34_65, dX3_meetStretch_34, gt1_3_73_3, gt1_3_73_12, dX3_meetStretch_37, dX3_meetStretch_38, dX3_meetStretch_39, dX3_meetStretch_40, dX3_meetStretch_41, dX3_meetStretch_42, is3_85, pr3_85, dX3_meetStretch_45, is3_91, pr3_91, dX3_meetStretch_48, dX3_meetStretch_50, dX3_meetStretch_51, dX3_meetStretch_53, dX3_meetStretch_55, dX3_meetStretch_56, dX3_meetStretch_57, dX3_meetStretch_58, dX3_meetStretch_61, dX3_meetStretch_64, dX3_meetStretch_65, dX3_meetStretch_66, dX3_meetStretch_67, dX3_meetStretch_68, dX3_meetStretch_69, dX3_meetStretch_72, dX3_meetStretch_75, dX3_meetStretch_77, dX3_meetStretch_79, dX3_meetStretch_81, dX3_meetStretch_82, dX3_meetStretch_84, dX3_meetStretch_85, gt1_3_18_65, dX3_meetStretch_88, dX3_meetStretch_89, dX3_meetStretch_91, dX3_meetStretch_92, dX3_meetStretch_93, dX3_meetStretch_94, dX3_meetStretch_96, dX3_meetStretch_98, dX3_meetStretch_99, dX3_meetStretch_100, dX3_meetStretch_101, dX3_meetStretch_102, dX3_meetStretch_105, dX3_meetStretch_106, dX3_meetStretch_108, dX3_meetStretch_109, dX3_meetStretch_110, dX3_meetStretch_111, dX3_meetStretch_113, dX3_meetStretch_115, dX3_meetStretch_116, dX3_meetStretch_117, dX3_meetStretch_118, dX3_meetStretch_119, dX3_meetStretch_122, dX3_meetStretch_123, dX3_meetStretch_124, dX3_meetStretch_125, dX3_meetStretch_127, dX3_meetStretch_129, dX3_meetStretch_131, dX3_meetStretch_132, dX3_meetStretch_134, dX3_meetStretch_135, dX3_meetStretch_136, dX3_meetStretch_137, dX3_meetStretch_138, ar1_0, ar1_1, ar1_10, ar1_100, ar1_101, ar1_102, ar1_11, ar1_12, ar1_13, ar1_14, ar1_15, ar1_16, ar1_17, ar1_18, ar1_19, ar1_2, ar1_20, ar1_21, ar1_22, ar1_23, ar1_24, ar1_25, ar1_26, ar1_27, ar1_28, ar1_29, ar1_3, ar1_30, ar1_31, ar1_32, ar1_33, ar1_34, ar1_35, ar1_36, ar1_37, ar1_38, ar1_39, ar1_4, ar1_40, ar1_41, ar1_42, ar1_43, ar1_44, ar1_45, ar1_46, ar1_47, ar1_48, ar1_49, ar1_5, ar1_50, ar1_51, ar1_52, ar1_53, ar1_54, ar1_55, ar1_56, ar1_57, ar1_58, ar1_59, ar1_6, ar1_60, ar1_61, ar1_62, ar1_63, ar1_64, ar1_65, ar1_66, ar1_67, ar1_68, ar1_69, ar1_7, ar1_70, ar1_71, ar1_72, ar1_73, ar1_74, ar1_75, ar1_76, ar1_77, ar1_78, ar1_79, ar1_8, ar1_80, ar1_81, ar1_82, ar1_83, ar1_84, ar1_85, ar1_86, ar1_87, ar1_88, ar1_89, ar1_9, ar1_90, ar1_91, ar1_92, ar1_93, ar1_94, ar1_95, ar1_96, ar1_97, ar1_98, ar1_99, lk_0, lk_1, lk_2, lk_3, lk_4, lk_5, lk_6, lk_7, lk_8, lk_9, st1_5, st1_6, st1_7, st1_8, st1_9, a1, b1, b2, b3, b4]
  repeat' (with_reducible (first | apply And.intro | intro _))
  all_goals first | omega | skip
  rw [ab_up_eq σ, ab_up_set, ab_up_set]
  simp only [ab_set_at]
  rw [zu_add, zu_add, zu_add]
  refine h _ (fun x => ?_)
  generalize max 0 (min (m1 - m0 + σ 65 8 * len) (2 * (σ 3 11 - m0))) = fl
  generalize max 0 (min (2 * (σ 65 8 * len) - (m1 - m0 + σ 65 8 * len)) (2 * (σ 3 11 - m1))) = fr
  rw [Int.mul_add, Int.mul_add, zmi, zmi, zmi]
  dsimp only
  omega
