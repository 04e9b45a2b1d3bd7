-- CLASS: Grid.weighAll, cornerIn, isRest, findRests
def zGr (ω : ab_S) (x y z : Int) (ρ : ab_S) (r : Int) : Prop := ∀ p, 0 ≤ p → p < znp z → ∀ a b c, (0 ≤ a ∧ a < ω 3 8) → (0 ≤ b ∧ b < ω 3 8) → (0 ≤ c ∧ c < zdp (ω 3 8) z) → zrw (ω 3 8) (zdp (ω 3 8) z) a b c < r → ρ 89 (1728 * p + zrw (ω 3 8) (zdp (ω 3 8) z) a b c) = zWv ω x y z p a b c
theorem zrw_b (C D a b : Int) : zrw C D a b D = zrw C D a (b + 1) 0 := by
  unfold zrw
  rw [show a * C + (b + 1) = a * C + b + 1 by omega, Int.add_mul (a * C + b) 1 D, Int.one_mul]
  omega
theorem zrw_a (C D a : Int) : zrw C D a C 0 = zrw C D (a + 1) 0 0 := by
  unfold zrw
  rw [Int.add_mul a 1 C, Int.one_mul]
  simp only [Int.add_zero]
theorem zrw_lt {C D a b c : Int} (hC : 0 ≤ C ∧ C ≤ 12) (hD : 0 ≤ D ∧ D ≤ 12) (ha : 0 ≤ a ∧ a < C) (hb : 0 ≤ b ∧ b < C) (hc : 0 ≤ c ∧ c < D) : zrw C D a b c < zrw C D C 0 0 := by
  have h2 : a * C + b + 1 ≤ C * C := by
    have : (a + 1) * C ≤ C * C := Int.mul_le_mul_of_nonneg_right (by omega) hC.1
    rw [Int.add_mul, Int.one_mul] at this
    omega
  have h3 : (a * C + b + 1) * D ≤ C * C * D := Int.mul_le_mul_of_nonneg_right h2 hD.1
  rw [Int.add_mul, Int.one_mul] at h3
  unfold zrw
  simp only [Int.add_zero]
  omega
theorem zdp_in {ω : ab_S} {z : Int} (hT : zTn ω) (hC : 0 < ω 3 8) : 1 ≤ zdp (ω 3 8) z ∧ zdp (ω 3 8) z ≤ 12 := by
  have := hT.1
  unfold zdp
  split <;> omega
set_option maxRecDepth 100000 in
set_option maxHeartbeats 4000000 in
theorem l_weighAll {ω σ : ab_S} {x y z : Int} {K : ab_V → ab_S → Prop} (hJ : zJ ω) (hK : zK ω) (hP : zPl ω x y z) (hF : zFr ω σ)
    (h : ∀ ρ, zFg σ ρ → zGh ω x y z ρ → ρ 90 = σ 90 → zGr ω x y z ρ (zrw (ω 3 8) (zdp (ω 3 8) z) (ω 3 8) 0 0) → K (vI 0) ρ) : ab_Runs ab_G1 mdX1_weighAll [vR 88, vI x, vI y, vI z] σ K := by
  refine ab_runs mwX1_weighAll (by decide +kernel) (Nat.le_of_ble_eq_true rfl) (fun G hG => ?_)
  show G 0 [some (vR 88), some (vI x), some (vI y), some (vI z), none, none, none, none, none] [] _
  have hn := hK.1
  have hT := hJ.1
  have hT1 := hT.1
  have hok := zOk_0 hJ hK
  have hPx := hP.1
  have hPy := hP.2.1
  have hPz := hP.2.2.2
  have hD0 : 0 ≤ zdp (ω 3 8) z ∧ zdp (ω 3 8) z ≤ 12 := by
    unfold zdp
    split <;> omega
  generalize hC : ω 3 8 = C at *
  generalize hDD : zdp C z = D at *
  have key3 : ∀ (a b : Int), (0 ≤ a ∧ a < C) → (0 ≤ b ∧ b < C) → (∀ (φ : ab_S) (z8 : Option ab_V) (c : Int), (z = -1 ∨ zSt ω c) → zLd ω (zGs ω x y z a b c) (zP0 ω) φ → zFg σ φ → zGh ω x y z φ → φ 90 = σ 90 → zGr ω x y z φ (zrw C D a (b + 1) 0) → G 126 [some (vR 88), some (vI x), some (vI y), some (vI z), some (vI D), some (vI (zrw C D a (b + 1) 0)), some (vI a), some (vI (b + 1)), z8] [] φ) → ∀ (k : Nat) (c c' : Int) (ρ : ab_S), D - c < k → 0 ≤ c → c ≤ D → (z = -1 ∨ zSt ω c') → zLd ω (zGs ω x y z a b c') (zP0 ω) ρ → zFg σ ρ → zGh ω x y z ρ → ρ 90 = σ 90 → zGr ω x y z ρ (zrw C D a b c) → G 151 [some (vR 88), some (vI x), some (vI y), some (vI z), some (vI D), some (vI (zrw C D a b c)), some (vI a), some (vI b), some (vI c)] [] ρ := by
    intro a b ha hb hcont k
    induction k with
    | zero => intro c c' ρ h1 h2; omega
    | succ k ih =>
      intro c c' ρ h1 h2 h3 hc' hl hf hg h90 hr
      -- the row is weighed
      have wgh : c < D → ∀ (φ : ab_S), zLd ω (zGs ω x y z a b c) (zP0 ω) φ → zFg σ φ → zGh ω x y z φ → φ 90 = σ 90 → zGr ω x y z φ (zrw C D a b c) → G 173 [some (vR 88), some (vI x), some (vI y), some (vI z), some (vI D), some (vI (zrw C D a b c)), some (vI a), some (vI b), some (vI c)] [] φ := by
        intro hcD φ gl gf gg g90 gr
        have hrow := zrw_in hT1 hD0 ha hb ⟨h2, hcD⟩
        apply hG [151] 60
        simp only [cq_lt, cq_le, cq_gt, cq_ge, cq_eq, cq_r1, cq_r2, ab_r32, ab_r64, ab_go, ab_stp, wp_z, ab_in, ab_rok, ab_wsum, ab_prm, ab_ret, ab_sw, ab_cd, ab_tg, ab_cat_i, ab_cat_l, ab_cat_r, ab_cl_n, ab_cl_i, ab_cl_l, ab_cl_r, ab_f2_0, ab_f2_1, ab_f4_0, ab_f4_1, ab_f4_2, ab_f4_3, ab_op_s, ab_b1_s, ab_b2_s, ab_l1_s, ab_l2_s, ab_li_s, ab_o1_s, ab_io_s, ab_lo1_s, ab_iio_s, ab_lio_s, ab_cp5_s, ab_d2_l, ab_d2_i, ab_d2_o, ex_iconst, ex_bipush, ex_sipush, ex_lconst, ex_ldc, ex_ldc_w, ex_ldc2_w, ex_iadd, ex_isub, ex_imul, ex_iand, ex_ior, ex_ixor, ex_ishl, ex_ishr, ex_iushr, ex_idiv, ex_irem, ex_ladd, ex_lsub, ex_lmul, ex_lor, ex_ldiv, ex_lrem, ex_lshl, ex_lcmp, ex_ineg, ex_lneg, ex_i2l, ex_l2i, ex_i2b, ex_dup, ex_pop, ex_dup2, ex_goto, ex_tableswitch, ex_aaload, ex_ireturn, ex_lreturn, ex_return_, List.map_cons, List.map_nil, List.sum_cons, List.sum_nil, List.drop_succ_cons, List.drop_zero, List.take_succ_cons, List.take_zero, List.reverse_cons, List.reverse_nil, List.nil_append, List.cons_append, List.length_cons, List.length_nil, true_and, and_true, cond_false, cond_true, Bool.false_or, Bool.or_false, Bool.or_true, Bool.true_or, true_or, or_true, false_or, or_false, if_true, if_false, reduceIte, ite_true, ite_false, implies_true, true_implies, false_implies, forall_const, not_true_eq_false, not_false_eq_true, Nat.reduceAdd, Nat.reduceMul, Nat.reduceSub, Nat.reduceBEq, Nat.reduceEqDiff, Nat.reduceLeDiff, Nat.reduceLT, Int.reduceAdd, Int.reduceSub, Int.reduceMul, Int.reduceNeg, Int.reduceToNat, Int.reduceLE, Int.reduceLT, Int.reduceEq, Int.reduceNe, Int.reduceNatCast, Nat.add_zero, Nat.zero_add, reduceCtorEq, Int.reduceNatCast', wp_c, wp_g, e2_ifCond, e2_if_icmp, ↓bq_t, ↓bq_f, ab_br, ↓ab_b1_s, ↓ab_b2_s, ↓ab_l1_s, ↓ab_l2_s, ↓ab_li_s, ↓ab_o1_s, ↓ab_io_s, ↓ab_lo1_s, ↓ab_iio_s, ↓ab_lio_s, ↓ab_cp5_s, moX1_weighAll, dX1_weighAll_0, dil_3, dX1_weighAll_1, dX1_weighAll_2, dX1_weighAll_5, dX1_weighAll_6, dX1_weighAll_9, dal_0, dX1_weighAll_10, dg1_1_53_88, dX1_weighAll_13, dg1_1_76_3, dg1_1_76_12, dX1_weighAll_16, dis_4, dX1_weighAll_18, dX1_weighAll_19, dX1_weighAll_20, dX1_weighAll_21, dX1_weighAll_24, dX1_weighAll_25, dX1_weighAll_28, dX1_weighAll_29, dp1_1_34_88, dX1_weighAll_32, dX1_weighAll_33, dg1_1_19_88, dX1_weighAll_36, dX1_weighAll_37, dil_1, dX1_weighAll_38, dX1_weighAll_39, dX1_weighAll_40, dX1_weighAll_43, dX1_weighAll_44, dil_2, dX1_weighAll_45, dX1_weighAll_46, dX1_weighAll_47, dX1_weighAll_50, dX1_weighAll_51, dX1_weighAll_52, dX1_weighAll_53, dX1_weighAll_54, dg1_1_22_88, dX1_weighAll_57, dX1_weighAll_58, dX1_weighAll_59, dX1_weighAll_62, dX1_weighAll_65, dil_4, dX1_weighAll_67, dX1_weighAll_68, dX1_weighAll_69, dX1_weighAll_70, dX1_weighAll_73, dX1_weighAll_74, dX1_weighAll_76, dX1_weighAll_77, dX1_weighAll_78, dX1_weighAll_81, dX1_weighAll_82, dX1_weighAll_83, dX1_weighAll_84, dX1_weighAll_85, dg1_1_61_88, dX1_weighAll_88, dX1_weighAll_89, dg1_1_57_88, dX1_weighAll_92, dv1_1_81_65, moX3_load, dX1_weighAll_95, dX1_weighAll_96, dis_5, dX1_weighAll_98, dX1_weighAll_99, dis_6, dX1_weighAll_101, dil_6, dX1_weighAll_103, dX1_weighAll_104, dX1_weighAll_107, dX1_weighAll_110, dX1_weighAll_113, dX1_weighAll_114, dX1_weighAll_117, dX1_weighAll_118, dX1_weighAll_120, dv1_1_87_65, moX8_place, dX1_weighAll_123, dX1_weighAll_124, dis_7, dX1_weighAll_126, dil_7, dX1_weighAll_128, dX1_weighAll_129, dX1_weighAll_132, dX1_weighAll_135, dX1_weighAll_138, dX1_weighAll_139, dX1_weighAll_142, dX1_weighAll_143, dX1_weighAll_145, dX1_weighAll_148, dX1_weighAll_149, dis_8, dX1_weighAll_151, dil_8, dX1_weighAll_153, dX1_weighAll_155, dX1_weighAll_158, dX1_weighAll_159, dX1_weighAll_160, dX1_weighAll_163, dX1_weighAll_164, dX1_weighAll_167, dX1_weighAll_168, dX1_weighAll_170, dX1_weighAll_173, dX1_weighAll_174, dil_5, dX1_weighAll_176, dv1_1_91_88, moX1_weighRow, dX1_weighAll_179, dinc_5, dX1_weighAll_182, dinc_8, dX1_weighAll_185, dX1_weighAll_188, dinc_7, dX1_weighAll_191, dX1_weighAll_194, dinc_6, dX1_weighAll_197, dX1_weighAll_200, das1_91, das1_92]
        repeat' (with_reducible (first | apply And.intro | intro _))
        all_goals first | omega | skip
        refine l_weighRow hJ hK hP gl gg (by rw [hC]; exact ha) (by rw [hC]; exact hb) (by
          by_cases e : z = -1
          · exact Or.inl e
          · right
            rw [hC]
            unfold zdp at hDD
            rw [if_neg e] at hDD
            omega) ⟨hrow.1, hrow.2.1⟩ (fun ψ d1 d2 d3 d4 d5 d6 => ?_)
        try simp only [cq_lt, cq_le, cq_gt, cq_ge, cq_eq, cq_r1, cq_r2, ab_r32, ab_r64, ab_go, ab_stp, wp_z, ab_in, ab_rok, ab_wsum, ab_prm, ab_ret, ab_sw, ab_cd, ab_tg, ab_cat_i, ab_cat_l, ab_cat_r, ab_cl_n, ab_cl_i, ab_cl_l, ab_cl_r, ab_f2_0, ab_f2_1, ab_f4_0, ab_f4_1, ab_f4_2, ab_f4_3, ab_op_s, ab_b1_s, ab_b2_s, ab_l1_s, ab_l2_s, ab_li_s, ab_o1_s, ab_io_s, ab_lo1_s, ab_iio_s, ab_lio_s, ab_cp5_s, ab_d2_l, ab_d2_i, ab_d2_o, ex_iconst, ex_bipush, ex_sipush, ex_lconst, ex_ldc, ex_ldc_w, ex_ldc2_w, ex_iadd, ex_isub, ex_imul, ex_iand, ex_ior, ex_ixor, ex_ishl, ex_ishr, ex_iushr, ex_idiv, ex_irem, ex_ladd, ex_lsub, ex_lmul, ex_lor, ex_ldiv, ex_lrem, ex_lshl, ex_lcmp, ex_ineg, ex_lneg, ex_i2l, ex_l2i, ex_i2b, ex_dup, ex_pop, ex_dup2, ex_goto, ex_tableswitch, ex_aaload, ex_ireturn, ex_lreturn, ex_return_, List.map_cons, List.map_nil, List.sum_cons, List.sum_nil, List.drop_succ_cons, List.drop_zero, List.take_succ_cons, List.take_zero, List.reverse_cons, List.reverse_nil, List.nil_append, List.cons_append, List.length_cons, List.length_nil, true_and, and_true, cond_false, cond_true, Bool.false_or, Bool.or_false, Bool.or_true, Bool.true_or, true_or, or_true, false_or, or_false, if_true, if_false, reduceIte, ite_true, ite_false, implies_true, true_implies, false_implies, forall_const, not_true_eq_false, not_false_eq_true, Nat.reduceAdd, Nat.reduceMul, Nat.reduceSub, Nat.reduceBEq, Nat.reduceEqDiff, Nat.reduceLeDiff, Nat.reduceLT, Int.reduceAdd, Int.reduceSub, Int.reduceMul, Int.reduceNeg, Int.reduceToNat, Int.reduceLE, Int.reduceLT, Int.reduceEq, Int.reduceNe, Int.reduceNatCast, Nat.add_zero, Nat.zero_add, reduceCtorEq, Int.reduceNatCast', wp_c, wp_g, e2_ifCond, e2_if_icmp, ↓bq_t, ↓bq_f, ab_br, ↓ab_b1_s, ↓ab_b2_s, ↓ab_l1_s, ↓ab_l2_s, ↓ab_li_s, ↓ab_o1_s, ↓ab_io_s, ↓ab_lo1_s, ↓ab_iio_s, ↓ab_lio_s, ↓ab_cp5_s, moX1_weighAll, dX1_weighAll_0, dil_3, dX1_weighAll_1, dX1_weighAll_2, dX1_weighAll_5, dX1_weighAll_6, dX1_weighAll_9, dal_0, dX1_weighAll_10, dg1_1_53_88, dX1_weighAll_13, dg1_1_76_3, dg1_1_76_12, dX1_weighAll_16, dis_4, dX1_weighAll_18, dX1_weighAll_19, dX1_weighAll_20, dX1_weighAll_21, dX1_weighAll_24, dX1_weighAll_25, dX1_weighAll_28, dX1_weighAll_29, dp1_1_34_88, dX1_weighAll_32, dX1_weighAll_33, dg1_1_19_88, dX1_weighAll_36, dX1_weighAll_37, dil_1, dX1_weighAll_38, dX1_weighAll_39, dX1_weighAll_40, dX1_weighAll_43, dX1_weighAll_44, dil_2, dX1_weighAll_45, dX1_weighAll_46, dX1_weighAll_47, dX1_weighAll_50, dX1_weighAll_51, dX1_weighAll_52, dX1_weighAll_53, dX1_weighAll_54, dg1_1_22_88, dX1_weighAll_57, dX1_weighAll_58, dX1_weighAll_59, dX1_weighAll_62, dX1_weighAll_65, dil_4, dX1_weighAll_67, dX1_weighAll_68, dX1_weighAll_69, dX1_weighAll_70, dX1_weighAll_73, dX1_weighAll_74, dX1_weighAll_76, dX1_weighAll_77, dX1_weighAll_78, dX1_weighAll_81, dX1_weighAll_82, dX1_weighAll_83, dX1_weighAll_84, dX1_weighAll_85, dg1_1_61_88, dX1_weighAll_88, dX1_weighAll_89, dg1_1_57_88, dX1_weighAll_92, dv1_1_81_65, moX3_load, dX1_weighAll_95, dX1_weighAll_96, dis_5, dX1_weighAll_98, dX1_weighAll_99, dis_6, dX1_weighAll_101, dil_6, dX1_weighAll_103, dX1_weighAll_104, dX1_weighAll_107, dX1_weighAll_110, dX1_weighAll_113, dX1_weighAll_114, dX1_weighAll_117, dX1_weighAll_118, dX1_weighAll_120, dv1_1_87_65, moX8_place, dX1_weighAll_123, dX1_weighAll_124, dis_7, dX1_weighAll_126, dil_7, dX1_weighAll_128, dX1_weighAll_129, dX1_weighAll_132, dX1_weighAll_135, dX1_weighAll_138, dX1_weighAll_139, dX1_weighAll_142, dX1_weighAll_143, dX1_weighAll_145, dX1_weighAll_148, dX1_weighAll_149, dis_8, dX1_weighAll_151, dil_8, dX1_weighAll_153, dX1_weighAll_155, dX1_weighAll_158, dX1_weighAll_159, dX1_weighAll_160, dX1_weighAll_163, dX1_weighAll_164, dX1_weighAll_167, dX1_weighAll_168, dX1_weighAll_170, dX1_weighAll_173, dX1_weighAll_174, dil_5, dX1_weighAll_176, dv1_1_91_88, moX1_weighRow, dX1_weighAll_179, dinc_5, dX1_weighAll_182, dinc_8, dX1_weighAll_185, dX1_weighAll_188, dinc_7, dX1_weighAll_191, dX1_weighAll_194, dinc_6, dX1_weighAll_197, dX1_weighAll_200, das1_91, das1_92]
        have e1 : zrw C D a b c + 1 = zrw C D a b (c + 1) := by
          unfold zrw
          omega
        rw [e1]
        refine ih (c + 1) c ψ (by omega) (by omega) (by omega) (by
          by_cases e : z = -1
          · exact Or.inl e
          · right
            apply zSt_cn hT
            rw [hC]
            unfold zdp at hDD
            rw [if_neg e] at hDD
            omega) d1 (zFg_trans gf d2) d3 (d4.trans g90) ?_
        intro p p1 p2 a2 b2 c2 q1 q2 q3 q4
        rw [hC] at q1 q2 q3 q4 ⊢
        rw [hDD] at q3 q4 ⊢
        have hrow2 := zrw_in hT1 hD0 q1 q2 q3
        by_cases e : zrw C D a2 b2 c2 = zrw C D a b c
        · have ea : a2 = a := by rw [← hrow2.2.2.1, e, hrow.2.2.1]
          have eb : b2 = b := by rw [← hrow2.2.2.2.1, e, hrow.2.2.2.1]
          have ec : c2 = c := by rw [← hrow2.2.2.2.2, e, hrow.2.2.2.2]
          rw [ea, eb, ec]
          exact d5 p p1 p2
        · rw [d6 p _ p1 (by unfold znp at p2; split at p2 <;> omega) hrow2.1 hrow2.2.1 e]
          have := gr p p1 p2 a2 b2 c2 (by rw [hC]; exact q1) (by rw [hC]; exact q2) (by rw [hC, hDD]; exact q3)
          rw [hC, hDD] at this
          exact this (by omega)
      apply hG [126, 151, 173] 60
      simp only [cq_lt, cq_le, cq_gt, cq_ge, cq_eq, cq_r1, cq_r2, ab_r32, ab_r64, ab_go, ab_stp, wp_z, ab_in, ab_rok, ab_wsum, ab_prm, ab_ret, ab_sw, ab_cd, ab_tg, ab_cat_i, ab_cat_l, ab_cat_r, ab_cl_n, ab_cl_i, ab_cl_l, ab_cl_r, ab_f2_0, ab_f2_1, ab_f4_0, ab_f4_1, ab_f4_2, ab_f4_3, ab_op_s, ab_b1_s, ab_b2_s, ab_l1_s, ab_l2_s, ab_li_s, ab_o1_s, ab_io_s, ab_lo1_s, ab_iio_s, ab_lio_s, ab_cp5_s, ab_d2_l, ab_d2_i, ab_d2_o, ex_iconst, ex_bipush, ex_sipush, ex_lconst, ex_ldc, ex_ldc_w, ex_ldc2_w, ex_iadd, ex_isub, ex_imul, ex_iand, ex_ior, ex_ixor, ex_ishl, ex_ishr, ex_iushr, ex_idiv, ex_irem, ex_ladd, ex_lsub, ex_lmul, ex_lor, ex_ldiv, ex_lrem, ex_lshl, ex_lcmp, ex_ineg, ex_lneg, ex_i2l, ex_l2i, ex_i2b, ex_dup, ex_pop, ex_dup2, ex_goto, ex_tableswitch, ex_aaload, ex_ireturn, ex_lreturn, ex_return_, List.map_cons, List.map_nil, List.sum_cons, List.sum_nil, List.drop_succ_cons, List.drop_zero, List.take_succ_cons, List.take_zero, List.reverse_cons, List.reverse_nil, List.nil_append, List.cons_append, List.length_cons, List.length_nil, true_and, and_true, cond_false, cond_true, Bool.false_or, Bool.or_false, Bool.or_true, Bool.true_or, true_or, or_true, false_or, or_false, if_true, if_false, reduceIte, ite_true, ite_false, implies_true, true_implies, false_implies, forall_const, not_true_eq_false, not_false_eq_true, Nat.reduceAdd, Nat.reduceMul, Nat.reduceSub, Nat.reduceBEq, Nat.reduceEqDiff, Nat.reduceLeDiff, Nat.reduceLT, Int.reduceAdd, Int.reduceSub, Int.reduceMul, Int.reduceNeg, Int.reduceToNat, Int.reduceLE, Int.reduceLT, Int.reduceEq, Int.reduceNe, Int.reduceNatCast, Nat.add_zero, Nat.zero_add, reduceCtorEq, Int.reduceNatCast', wp_c, wp_g, e2_ifCond, e2_if_icmp, ↓bq_t, ↓bq_f, ab_br, ↓ab_b1_s, ↓ab_b2_s, ↓ab_l1_s, ↓ab_l2_s, ↓ab_li_s, ↓ab_o1_s, ↓ab_io_s, ↓ab_lo1_s, ↓ab_iio_s, ↓ab_lio_s, ↓ab_cp5_s, moX1_weighAll, dX1_weighAll_0, dil_3, dX1_weighAll_1, dX1_weighAll_2, dX1_weighAll_5, dX1_weighAll_6, dX1_weighAll_9, dal_0, dX1_weighAll_10, dg1_1_53_88, dX1_weighAll_13, dg1_1_76_3, dg1_1_76_12, dX1_weighAll_16, dis_4, dX1_weighAll_18, dX1_weighAll_19, dX1_weighAll_20, dX1_weighAll_21, dX1_weighAll_24, dX1_weighAll_25, dX1_weighAll_28, dX1_weighAll_29, dp1_1_34_88, dX1_weighAll_32, dX1_weighAll_33, dg1_1_19_88, dX1_weighAll_36, dX1_weighAll_37, dil_1, dX1_weighAll_38, dX1_weighAll_39, dX1_weighAll_40, dX1_weighAll_43, dX1_weighAll_44, dil_2, dX1_weighAll_45, dX1_weighAll_46, dX1_weighAll_47, dX1_weighAll_50, dX1_weighAll_51, dX1_weighAll_52, dX1_weighAll_53, dX1_weighAll_54, dg1_1_22_88, dX1_weighAll_57, dX1_weighAll_58, dX1_weighAll_59, dX1_weighAll_62, dX1_weighAll_65, dil_4, dX1_weighAll_67, dX1_weighAll_68, dX1_weighAll_69, dX1_weighAll_70, dX1_weighAll_73, dX1_weighAll_74, dX1_weighAll_76, dX1_weighAll_77, dX1_weighAll_78, dX1_weighAll_81, dX1_weighAll_82, dX1_weighAll_83, dX1_weighAll_84, dX1_weighAll_85, dg1_1_61_88, dX1_weighAll_88, dX1_weighAll_89, dg1_1_57_88, dX1_weighAll_92, dv1_1_81_65, moX3_load, dX1_weighAll_95, dX1_weighAll_96, dis_5, dX1_weighAll_98, dX1_weighAll_99, dis_6, dX1_weighAll_101, dil_6, dX1_weighAll_103, dX1_weighAll_104, dX1_weighAll_107, dX1_weighAll_110, dX1_weighAll_113, dX1_weighAll_114, dX1_weighAll_117, dX1_weighAll_118, dX1_weighAll_120, dv1_1_87_65, moX8_place, dX1_weighAll_123, dX1_weighAll_124, dis_7, dX1_weighAll_126, dil_7, dX1_weighAll_128, dX1_weighAll_129, dX1_weighAll_132, dX1_weighAll_135, dX1_weighAll_138, dX1_weighAll_139, dX1_weighAll_142, dX1_weighAll_143, dX1_weighAll_145, dX1_weighAll_148, dX1_weighAll_149, dis_8, dX1_weighAll_151, dil_8, dX1_weighAll_153, dX1_weighAll_155, dX1_weighAll_158, dX1_weighAll_159, dX1_weighAll_160, dX1_weighAll_163, dX1_weighAll_164, dX1_weighAll_167, dX1_weighAll_168, dX1_weighAll_170, dX1_weighAll_173, dX1_weighAll_174, dil_5, dX1_weighAll_176, dv1_1_91_88, moX1_weighRow, dX1_weighAll_179, dinc_5, dX1_weighAll_182, dinc_8, dX1_weighAll_185, dX1_weighAll_188, dinc_7, dX1_weighAll_191, dX1_weighAll_194, dinc_6, dX1_weighAll_197, dX1_weighAll_200, das1_91, das1_92]
      repeat' (with_reducible (first | apply And.intro | intro _))
      all_goals first | omega | skip
      · have e : c = D := by omega
        subst e
        rw [zrw_b] at hr ⊢
        exact hcont ρ _ c' hc' hl hf hg h90 hr
      · rename_i q1 q2
        have el : zGs ω x y z a b c' = zGs ω x y z a b c := by
          unfold zGs
          rw [if_pos q2, if_pos q2]
        rw [el] at hl
        exact wgh (by omega) ρ hl hf hg h90 hr
      · rename_i q1 q2
        have hcc : zSt ω c := by
          apply zSt_cn hT
          rw [hC]
          unfold zdp at hDD
          rw [if_neg q2] at hDD
          omega
        refine l_place hJ hK hl (by omega) hcc (fun φ d1 d2 => ?_)
        rw [zGs_z q2] at d1
        try simp only [cq_lt, cq_le, cq_gt, cq_ge, cq_eq, cq_r1, cq_r2, ab_r32, ab_r64, ab_go, ab_stp, wp_z, ab_in, ab_rok, ab_wsum, ab_prm, ab_ret, ab_sw, ab_cd, ab_tg, ab_cat_i, ab_cat_l, ab_cat_r, ab_cl_n, ab_cl_i, ab_cl_l, ab_cl_r, ab_f2_0, ab_f2_1, ab_f4_0, ab_f4_1, ab_f4_2, ab_f4_3, ab_op_s, ab_b1_s, ab_b2_s, ab_l1_s, ab_l2_s, ab_li_s, ab_o1_s, ab_io_s, ab_lo1_s, ab_iio_s, ab_lio_s, ab_cp5_s, ab_d2_l, ab_d2_i, ab_d2_o, ex_iconst, ex_bipush, ex_sipush, ex_lconst, ex_ldc, ex_ldc_w, ex_ldc2_w, ex_iadd, ex_isub, ex_imul, ex_iand, ex_ior, ex_ixor, ex_ishl, ex_ishr, ex_iushr, ex_idiv, ex_irem, ex_ladd, ex_lsub, ex_lmul, ex_lor, ex_ldiv, ex_lrem, ex_lshl, ex_lcmp, ex_ineg, ex_lneg, ex_i2l, ex_l2i, ex_i2b, ex_dup, ex_pop, ex_dup2, ex_goto, ex_tableswitch, ex_aaload, ex_ireturn, ex_lreturn, ex_return_, List.map_cons, List.map_nil, List.sum_cons, List.sum_nil, List.drop_succ_cons, List.drop_zero, List.take_succ_cons, List.take_zero, List.reverse_cons, List.reverse_nil, List.nil_append, List.cons_append, List.length_cons, List.length_nil, true_and, and_true, cond_false, cond_true, Bool.false_or, Bool.or_false, Bool.or_true, Bool.true_or, true_or, or_true, false_or, or_false, if_true, if_false, reduceIte, ite_true, ite_false, implies_true, true_implies, false_implies, forall_const, not_true_eq_false, not_false_eq_true, Nat.reduceAdd, Nat.reduceMul, Nat.reduceSub, Nat.reduceBEq, Nat.reduceEqDiff, Nat.reduceLeDiff, Nat.reduceLT, Int.reduceAdd, Int.reduceSub, Int.reduceMul, Int.reduceNeg, Int.reduceToNat, Int.reduceLE, Int.reduceLT, Int.reduceEq, Int.reduceNe, Int.reduceNatCast, Nat.add_zero, Nat.zero_add, reduceCtorEq, Int.reduceNatCast', wp_c, wp_g, e2_ifCond, e2_if_icmp, ↓bq_t, ↓bq_f, ab_br, ↓ab_b1_s, ↓ab_b2_s, ↓ab_l1_s, ↓ab_l2_s, ↓ab_li_s, ↓ab_o1_s, ↓ab_io_s, ↓ab_lo1_s, ↓ab_iio_s, ↓ab_lio_s, ↓ab_cp5_s, moX1_weighAll, dX1_weighAll_0, dil_3, dX1_weighAll_1, dX1_weighAll_2, dX1_weighAll_5, dX1_weighAll_6, dX1_weighAll_9, dal_0, dX1_weighAll_10, dg1_1_53_88, dX1_weighAll_13, dg1_1_76_3, dg1_1_76_12, dX1_weighAll_16, dis_4, dX1_weighAll_18, dX1_weighAll_19, dX1_weighAll_20, dX1_weighAll_21, dX1_weighAll_24, dX1_weighAll_25, dX1_weighAll_28, dX1_weighAll_29, dp1_1_34_88, dX1_weighAll_32, dX1_weighAll_33, dg1_1_19_88, dX1_weighAll_36, dX1_weighAll_37, dil_1, dX1_weighAll_38, dX1_weighAll_39, dX1_weighAll_40, dX1_weighAll_43, dX1_weighAll_44, dil_2, dX1_weighAll_45, dX1_weighAll_46, dX1_weighAll_47, dX1_weighAll_50, dX1_weighAll_51, dX1_weighAll_52, dX1_weighAll_53, dX1_weighAll_54, dg1_1_22_88, dX1_weighAll_57, dX1_weighAll_58, dX1_weighAll_59, dX1_weighAll_62, dX1_weighAll_65, dil_4, dX1_weighAll_67, dX1_weighAll_68, dX1_weighAll_69, dX1_weighAll_70, dX1_weighAll_73, dX1_weighAll_74, dX1_weighAll_76, dX1_weighAll_77, dX1_weighAll_78, dX1_weighAll_81, dX1_weighAll_82, dX1_weighAll_83, dX1_weighAll_84, dX1_weighAll_85, dg1_1_61_88, dX1_weighAll_88, dX1_weighAll_89, dg1_1_57_88, dX1_weighAll_92, dv1_1_81_65, moX3_load, dX1_weighAll_95, dX1_weighAll_96, dis_5, dX1_weighAll_98, dX1_weighAll_99, dis_6, dX1_weighAll_101, dil_6, dX1_weighAll_103, dX1_weighAll_104, dX1_weighAll_107, dX1_weighAll_110, dX1_weighAll_113, dX1_weighAll_114, dX1_weighAll_117, dX1_weighAll_118, dX1_weighAll_120, dv1_1_87_65, moX8_place, dX1_weighAll_123, dX1_weighAll_124, dis_7, dX1_weighAll_126, dil_7, dX1_weighAll_128, dX1_weighAll_129, dX1_weighAll_132, dX1_weighAll_135, dX1_weighAll_138, dX1_weighAll_139, dX1_weighAll_142, dX1_weighAll_143, dX1_weighAll_145, dX1_weighAll_148, dX1_weighAll_149, dis_8, dX1_weighAll_151, dil_8, dX1_weighAll_153, dX1_weighAll_155, dX1_weighAll_158, dX1_weighAll_159, dX1_weighAll_160, dX1_weighAll_163, dX1_weighAll_164, dX1_weighAll_167, dX1_weighAll_168, dX1_weighAll_170, dX1_weighAll_173, dX1_weighAll_174, dil_5, dX1_weighAll_176, dv1_1_91_88, moX1_weighRow, dX1_weighAll_179, dinc_5, dX1_weighAll_182, dinc_8, dX1_weighAll_185, dX1_weighAll_188, dinc_7, dX1_weighAll_191, dX1_weighAll_194, dinc_6, dX1_weighAll_197, dX1_weighAll_200, das1_91, das1_92]
        refine wgh (by omega) φ d1 (zFg_trans hf (zFm_g d2)) (zGh_m hg (fun o o1 => d2 o (by omega))) ((d2 90 (by decide)).trans h90) ?_
        intro p p1 p2 a2 b2 c2 q1 q2 q3 q4
        rw [d2 89 (by decide)]
        exact hr p p1 p2 a2 b2 c2 q1 q2 q3 q4
  have key2 : ∀ a, (0 ≤ a ∧ a < C) → (∀ (φ : ab_S) (z7 z8 : Option ab_V) (b c : Int), zSt ω b → (z = -1 ∨ zSt ω c) → zLd ω (zGs ω x y z a b c) (zP0 ω) φ → zFg σ φ → zGh ω x y z φ → φ 90 = σ 90 → zGr ω x y z φ (zrw C D (a + 1) 0 0) → G 101 [some (vR 88), some (vI x), some (vI y), some (vI z), some (vI D), some (vI (zrw C D (a + 1) 0 0)), some (vI (a + 1)), z7, z8] [] φ) → ∀ (k : Nat) (b b' c' : Int) (ρ : ab_S) (z8 : Option ab_V), C - b < k → 0 ≤ b → b ≤ C → zSt ω b' → (z = -1 ∨ zSt ω c') → zLd ω (zGs ω x y z a b' c') (zP0 ω) ρ → zFg σ ρ → zGh ω x y z ρ → ρ 90 = σ 90 → zGr ω x y z ρ (zrw C D a b 0) → G 126 [some (vR 88), some (vI x), some (vI y), some (vI z), some (vI D), some (vI (zrw C D a b 0)), some (vI a), some (vI b), z8] [] ρ := by
    intro a ha hcont k
    induction k with
    | zero => intro b b' c' ρ z8 h1 h2; omega
    | succ k ih =>
      intro b b' c' ρ z8 h1 h2 h3 hb' hc' hl hf hg h90 hr
      have e3 : ρ 3 8 = C := by
        rw [hl.1 3 (by decide)]
        exact hC
      apply hG [101, 126, 151] 60
      simp only [cq_lt, cq_le, cq_gt, cq_ge, cq_eq, cq_r1, cq_r2, ab_r32, ab_r64, ab_go, ab_stp, wp_z, ab_in, ab_rok, ab_wsum, ab_prm, ab_ret, ab_sw, ab_cd, ab_tg, ab_cat_i, ab_cat_l, ab_cat_r, ab_cl_n, ab_cl_i, ab_cl_l, ab_cl_r, ab_f2_0, ab_f2_1, ab_f4_0, ab_f4_1, ab_f4_2, ab_f4_3, ab_op_s, ab_b1_s, ab_b2_s, ab_l1_s, ab_l2_s, ab_li_s, ab_o1_s, ab_io_s, ab_lo1_s, ab_iio_s, ab_lio_s, ab_cp5_s, ab_d2_l, ab_d2_i, ab_d2_o, ex_iconst, ex_bipush, ex_sipush, ex_lconst, ex_ldc, ex_ldc_w, ex_ldc2_w, ex_iadd, ex_isub, ex_imul, ex_iand, ex_ior, ex_ixor, ex_ishl, ex_ishr, ex_iushr, ex_idiv, ex_irem, ex_ladd, ex_lsub, ex_lmul, ex_lor, ex_ldiv, ex_lrem, ex_lshl, ex_lcmp, ex_ineg, ex_lneg, ex_i2l, ex_l2i, ex_i2b, ex_dup, ex_pop, ex_dup2, ex_goto, ex_tableswitch, ex_aaload, ex_ireturn, ex_lreturn, ex_return_, List.map_cons, List.map_nil, List.sum_cons, List.sum_nil, List.drop_succ_cons, List.drop_zero, List.take_succ_cons, List.take_zero, List.reverse_cons, List.reverse_nil, List.nil_append, List.cons_append, List.length_cons, List.length_nil, true_and, and_true, cond_false, cond_true, Bool.false_or, Bool.or_false, Bool.or_true, Bool.true_or, true_or, or_true, false_or, or_false, if_true, if_false, reduceIte, ite_true, ite_false, implies_true, true_implies, false_implies, forall_const, not_true_eq_false, not_false_eq_true, Nat.reduceAdd, Nat.reduceMul, Nat.reduceSub, Nat.reduceBEq, Nat.reduceEqDiff, Nat.reduceLeDiff, Nat.reduceLT, Int.reduceAdd, Int.reduceSub, Int.reduceMul, Int.reduceNeg, Int.reduceToNat, Int.reduceLE, Int.reduceLT, Int.reduceEq, Int.reduceNe, Int.reduceNatCast, Nat.add_zero, Nat.zero_add, reduceCtorEq, Int.reduceNatCast', wp_c, wp_g, e2_ifCond, e2_if_icmp, ↓bq_t, ↓bq_f, ab_br, ↓ab_b1_s, ↓ab_b2_s, ↓ab_l1_s, ↓ab_l2_s, ↓ab_li_s, ↓ab_o1_s, ↓ab_io_s, ↓ab_lo1_s, ↓ab_iio_s, ↓ab_lio_s, ↓ab_cp5_s, moX1_weighAll, dX1_weighAll_0, dil_3, dX1_weighAll_1, dX1_weighAll_2, dX1_weighAll_5, dX1_weighAll_6, dX1_weighAll_9, dal_0, dX1_weighAll_10, dg1_1_53_88, dX1_weighAll_13, dg1_1_76_3, dg1_1_76_12, dX1_weighAll_16, dis_4, dX1_weighAll_18, dX1_weighAll_19, dX1_weighAll_20, dX1_weighAll_21, dX1_weighAll_24, dX1_weighAll_25, dX1_weighAll_28, dX1_weighAll_29, dp1_1_34_88, dX1_weighAll_32, dX1_weighAll_33, dg1_1_19_88, dX1_weighAll_36, dX1_weighAll_37, dil_1, dX1_weighAll_38, dX1_weighAll_39, dX1_weighAll_40, dX1_weighAll_43, dX1_weighAll_44, dil_2, dX1_weighAll_45, dX1_weighAll_46, dX1_weighAll_47, dX1_weighAll_50, dX1_weighAll_51, dX1_weighAll_52, dX1_weighAll_53, dX1_weighAll_54, dg1_1_22_88, dX1_weighAll_57, dX1_weighAll_58, dX1_weighAll_59, dX1_weighAll_62, dX1_weighAll_65, dil_4, dX1_weighAll_67, dX1_weighAll_68, dX1_weighAll_69, dX1_weighAll_70, dX1_weighAll_73, dX1_weighAll_74, dX1_weighAll_76, dX1_weighAll_77, dX1_weighAll_78, dX1_weighAll_81, dX1_weighAll_82, dX1_weighAll_83, dX1_weighAll_84, dX1_weighAll_85, dg1_1_61_88, dX1_weighAll_88, dX1_weighAll_89, dg1_1_57_88, dX1_weighAll_92, dv1_1_81_65, moX3_load, dX1_weighAll_95, dX1_weighAll_96, dis_5, dX1_weighAll_98, dX1_weighAll_99, dis_6, dX1_weighAll_101, dil_6, dX1_weighAll_103, dX1_weighAll_104, dX1_weighAll_107, dX1_weighAll_110, dX1_weighAll_113, dX1_weighAll_114, dX1_weighAll_117, dX1_weighAll_118, dX1_weighAll_120, dv1_1_87_65, moX8_place, dX1_weighAll_123, dX1_weighAll_124, dis_7, dX1_weighAll_126, dil_7, dX1_weighAll_128, dX1_weighAll_129, dX1_weighAll_132, dX1_weighAll_135, dX1_weighAll_138, dX1_weighAll_139, dX1_weighAll_142, dX1_weighAll_143, dX1_weighAll_145, dX1_weighAll_148, dX1_weighAll_149, dis_8, dX1_weighAll_151, dil_8, dX1_weighAll_153, dX1_weighAll_155, dX1_weighAll_158, dX1_weighAll_159, dX1_weighAll_160, dX1_weighAll_163, dX1_weighAll_164, dX1_weighAll_167, dX1_weighAll_168, dX1_weighAll_170, dX1_weighAll_173, dX1_weighAll_174, dil_5, dX1_weighAll_176, dv1_1_91_88, moX1_weighRow, dX1_weighAll_179, dinc_5, dX1_weighAll_182, dinc_8, dX1_weighAll_185, dX1_weighAll_188, dinc_7, dX1_weighAll_191, dX1_weighAll_194, dinc_6, dX1_weighAll_197, dX1_weighAll_200, das1_91, das1_92, e3]
      repeat' (with_reducible (first | apply And.intro | intro _))
      all_goals first | omega | skip
      · have e : b = C := by omega
        subst e
        rw [zrw_a] at hr ⊢
        exact hcont ρ _ _ b' c' hb' hc' hl hf hg h90 hr
      · rename_i q1
        have hbb : zSt ω b := zSt_cn hT (by omega)
        refine l_place hJ hK hl hPy hbb (fun φ d1 d2 => ?_)
        rw [zGs_y hP] at d1
        try simp only [cq_lt, cq_le, cq_gt, cq_ge, cq_eq, cq_r1, cq_r2, ab_r32, ab_r64, ab_go, ab_stp, wp_z, ab_in, ab_rok, ab_wsum, ab_prm, ab_ret, ab_sw, ab_cd, ab_tg, ab_cat_i, ab_cat_l, ab_cat_r, ab_cl_n, ab_cl_i, ab_cl_l, ab_cl_r, ab_f2_0, ab_f2_1, ab_f4_0, ab_f4_1, ab_f4_2, ab_f4_3, ab_op_s, ab_b1_s, ab_b2_s, ab_l1_s, ab_l2_s, ab_li_s, ab_o1_s, ab_io_s, ab_lo1_s, ab_iio_s, ab_lio_s, ab_cp5_s, ab_d2_l, ab_d2_i, ab_d2_o, ex_iconst, ex_bipush, ex_sipush, ex_lconst, ex_ldc, ex_ldc_w, ex_ldc2_w, ex_iadd, ex_isub, ex_imul, ex_iand, ex_ior, ex_ixor, ex_ishl, ex_ishr, ex_iushr, ex_idiv, ex_irem, ex_ladd, ex_lsub, ex_lmul, ex_lor, ex_ldiv, ex_lrem, ex_lshl, ex_lcmp, ex_ineg, ex_lneg, ex_i2l, ex_l2i, ex_i2b, ex_dup, ex_pop, ex_dup2, ex_goto, ex_tableswitch, ex_aaload, ex_ireturn, ex_lreturn, ex_return_, List.map_cons, List.map_nil, List.sum_cons, List.sum_nil, List.drop_succ_cons, List.drop_zero, List.take_succ_cons, List.take_zero, List.reverse_cons, List.reverse_nil, List.nil_append, List.cons_append, List.length_cons, List.length_nil, true_and, and_true, cond_false, cond_true, Bool.false_or, Bool.or_false, Bool.or_true, Bool.true_or, true_or, or_true, false_or, or_false, if_true, if_false, reduceIte, ite_true, ite_false, implies_true, true_implies, false_implies, forall_const, not_true_eq_false, not_false_eq_true, Nat.reduceAdd, Nat.reduceMul, Nat.reduceSub, Nat.reduceBEq, Nat.reduceEqDiff, Nat.reduceLeDiff, Nat.reduceLT, Int.reduceAdd, Int.reduceSub, Int.reduceMul, Int.reduceNeg, Int.reduceToNat, Int.reduceLE, Int.reduceLT, Int.reduceEq, Int.reduceNe, Int.reduceNatCast, Nat.add_zero, Nat.zero_add, reduceCtorEq, Int.reduceNatCast', wp_c, wp_g, e2_ifCond, e2_if_icmp, ↓bq_t, ↓bq_f, ab_br, ↓ab_b1_s, ↓ab_b2_s, ↓ab_l1_s, ↓ab_l2_s, ↓ab_li_s, ↓ab_o1_s, ↓ab_io_s, ↓ab_lo1_s, ↓ab_iio_s, ↓ab_lio_s, ↓ab_cp5_s, moX1_weighAll, dX1_weighAll_0, dil_3, dX1_weighAll_1, dX1_weighAll_2, dX1_weighAll_5, dX1_weighAll_6, dX1_weighAll_9, dal_0, dX1_weighAll_10, dg1_1_53_88, dX1_weighAll_13, dg1_1_76_3, dg1_1_76_12, dX1_weighAll_16, dis_4, dX1_weighAll_18, dX1_weighAll_19, dX1_weighAll_20, dX1_weighAll_21, dX1_weighAll_24, dX1_weighAll_25, dX1_weighAll_28, dX1_weighAll_29, dp1_1_34_88, dX1_weighAll_32, dX1_weighAll_33, dg1_1_19_88, dX1_weighAll_36, dX1_weighAll_37, dil_1, dX1_weighAll_38, dX1_weighAll_39, dX1_weighAll_40, dX1_weighAll_43, dX1_weighAll_44, dil_2, dX1_weighAll_45, dX1_weighAll_46, dX1_weighAll_47, dX1_weighAll_50, dX1_weighAll_51, dX1_weighAll_52, dX1_weighAll_53, dX1_weighAll_54, dg1_1_22_88, dX1_weighAll_57, dX1_weighAll_58, dX1_weighAll_59, dX1_weighAll_62, dX1_weighAll_65, dil_4, dX1_weighAll_67, dX1_weighAll_68, dX1_weighAll_69, dX1_weighAll_70, dX1_weighAll_73, dX1_weighAll_74, dX1_weighAll_76, dX1_weighAll_77, dX1_weighAll_78, dX1_weighAll_81, dX1_weighAll_82, dX1_weighAll_83, dX1_weighAll_84, dX1_weighAll_85, dg1_1_61_88, dX1_weighAll_88, dX1_weighAll_89, dg1_1_57_88, dX1_weighAll_92, dv1_1_81_65, moX3_load, dX1_weighAll_95, dX1_weighAll_96, dis_5, dX1_weighAll_98, dX1_weighAll_99, dis_6, dX1_weighAll_101, dil_6, dX1_weighAll_103, dX1_weighAll_104, dX1_weighAll_107, dX1_weighAll_110, dX1_weighAll_113, dX1_weighAll_114, dX1_weighAll_117, dX1_weighAll_118, dX1_weighAll_120, dv1_1_87_65, moX8_place, dX1_weighAll_123, dX1_weighAll_124, dis_7, dX1_weighAll_126, dil_7, dX1_weighAll_128, dX1_weighAll_129, dX1_weighAll_132, dX1_weighAll_135, dX1_weighAll_138, dX1_weighAll_139, dX1_weighAll_142, dX1_weighAll_143, dX1_weighAll_145, dX1_weighAll_148, dX1_weighAll_149, dis_8, dX1_weighAll_151, dil_8, dX1_weighAll_153, dX1_weighAll_155, dX1_weighAll_158, dX1_weighAll_159, dX1_weighAll_160, dX1_weighAll_163, dX1_weighAll_164, dX1_weighAll_167, dX1_weighAll_168, dX1_weighAll_170, dX1_weighAll_173, dX1_weighAll_174, dil_5, dX1_weighAll_176, dv1_1_91_88, moX1_weighRow, dX1_weighAll_179, dinc_5, dX1_weighAll_182, dinc_8, dX1_weighAll_185, dX1_weighAll_188, dinc_7, dX1_weighAll_191, dX1_weighAll_194, dinc_6, dX1_weighAll_197, dX1_weighAll_200, das1_91, das1_92]
        refine key3 a b ha ⟨h2, by omega⟩ (fun ψ z8 c2 g1 g2 g3 g4 g5 g6 => ?_) 13 0 c' φ (by omega) (by omega) (by omega) hc' d1 (zFg_trans hf (zFm_g d2)) (zGh_m hg (fun o o1 => d2 o (by omega))) ((d2 90 (by decide)).trans h90) ?_
        · exact ih (b + 1) b c2 ψ z8 (by omega) (by omega) (by omega) hbb g1 g2 g3 g4 g5 g6
        · intro p p1 p2 a2 b2 c2 q1 q2 q3 q4
          rw [d2 89 (by decide)]
          exact hr p p1 p2 a2 b2 c2 q1 q2 q3 q4
  have key1 : ∀ (k : Nat) (a a' b' c' : Int) (ρ : ab_S) (z7 z8 : Option ab_V), C - a < k → 0 ≤ a → a ≤ C → zSt ω a' → zSt ω b' → (z = -1 ∨ zSt ω c') → zLd ω (zGs ω x y z a' b' c') (zP0 ω) ρ → zFg σ ρ → zGh ω x y z ρ → ρ 90 = σ 90 → zGr ω x y z ρ (zrw C D a 0 0) → G 101 [some (vR 88), some (vI x), some (vI y), some (vI z), some (vI D), some (vI (zrw C D a 0 0)), some (vI a), z7, z8] [] ρ := by
    intro k
    induction k with
    | zero => intro a a' b' c' ρ z7 z8 h1 h2; omega
    | succ k ih =>
      intro a a' b' c' ρ z7 z8 h1 h2 h3 ha' hb' hc' hl hf hg h90 hr
      have e3 : ρ 3 8 = C := by
        rw [hl.1 3 (by decide)]
        exact hC
      apply hG [101, 126] 60
      simp only [cq_lt, cq_le, cq_gt, cq_ge, cq_eq, cq_r1, cq_r2, ab_r32, ab_r64, ab_go, ab_stp, wp_z, ab_in, ab_rok, ab_wsum, ab_prm, ab_ret, ab_sw, ab_cd, ab_tg, ab_cat_i, ab_cat_l, ab_cat_r, ab_cl_n, ab_cl_i, ab_cl_l, ab_cl_r, ab_f2_0, ab_f2_1, ab_f4_0, ab_f4_1, ab_f4_2, ab_f4_3, ab_op_s, ab_b1_s, ab_b2_s, ab_l1_s, ab_l2_s, ab_li_s, ab_o1_s, ab_io_s, ab_lo1_s, ab_iio_s, ab_lio_s, ab_cp5_s, ab_d2_l, ab_d2_i, ab_d2_o, ex_iconst, ex_bipush, ex_sipush, ex_lconst, ex_ldc, ex_ldc_w, ex_ldc2_w, ex_iadd, ex_isub, ex_imul, ex_iand, ex_ior, ex_ixor, ex_ishl, ex_ishr, ex_iushr, ex_idiv, ex_irem, ex_ladd, ex_lsub, ex_lmul, ex_lor, ex_ldiv, ex_lrem, ex_lshl, ex_lcmp, ex_ineg, ex_lneg, ex_i2l, ex_l2i, ex_i2b, ex_dup, ex_pop, ex_dup2, ex_goto, ex_tableswitch, ex_aaload, ex_ireturn, ex_lreturn, ex_return_, List.map_cons, List.map_nil, List.sum_cons, List.sum_nil, List.drop_succ_cons, List.drop_zero, List.take_succ_cons, List.take_zero, List.reverse_cons, List.reverse_nil, List.nil_append, List.cons_append, List.length_cons, List.length_nil, true_and, and_true, cond_false, cond_true, Bool.false_or, Bool.or_false, Bool.or_true, Bool.true_or, true_or, or_true, false_or, or_false, if_true, if_false, reduceIte, ite_true, ite_false, implies_true, true_implies, false_implies, forall_const, not_true_eq_false, not_false_eq_true, Nat.reduceAdd, Nat.reduceMul, Nat.reduceSub, Nat.reduceBEq, Nat.reduceEqDiff, Nat.reduceLeDiff, Nat.reduceLT, Int.reduceAdd, Int.reduceSub, Int.reduceMul, Int.reduceNeg, Int.reduceToNat, Int.reduceLE, Int.reduceLT, Int.reduceEq, Int.reduceNe, Int.reduceNatCast, Nat.add_zero, Nat.zero_add, reduceCtorEq, Int.reduceNatCast', wp_c, wp_g, e2_ifCond, e2_if_icmp, ↓bq_t, ↓bq_f, ab_br, ↓ab_b1_s, ↓ab_b2_s, ↓ab_l1_s, ↓ab_l2_s, ↓ab_li_s, ↓ab_o1_s, ↓ab_io_s, ↓ab_lo1_s, ↓ab_iio_s, ↓ab_lio_s, ↓ab_cp5_s, moX1_weighAll, dX1_weighAll_0, dil_3, dX1_weighAll_1, dX1_weighAll_2, dX1_weighAll_5, dX1_weighAll_6, dX1_weighAll_9, dal_0, dX1_weighAll_10, dg1_1_53_88, dX1_weighAll_13, dg1_1_76_3, dg1_1_76_12, dX1_weighAll_16, dis_4, dX1_weighAll_18, dX1_weighAll_19, dX1_weighAll_20, dX1_weighAll_21, dX1_weighAll_24, dX1_weighAll_25, dX1_weighAll_28, dX1_weighAll_29, dp1_1_34_88, dX1_weighAll_32, dX1_weighAll_33, dg1_1_19_88, dX1_weighAll_36, dX1_weighAll_37, dil_1, dX1_weighAll_38, dX1_weighAll_39, dX1_weighAll_40, dX1_weighAll_43, dX1_weighAll_44, dil_2, dX1_weighAll_45, dX1_weighAll_46, dX1_weighAll_47, dX1_weighAll_50, dX1_weighAll_51, dX1_weighAll_52, dX1_weighAll_53, dX1_weighAll_54, dg1_1_22_88, dX1_weighAll_57, dX1_weighAll_58, dX1_weighAll_59, dX1_weighAll_62, dX1_weighAll_65, dil_4, dX1_weighAll_67, dX1_weighAll_68, dX1_weighAll_69, dX1_weighAll_70, dX1_weighAll_73, dX1_weighAll_74, dX1_weighAll_76, dX1_weighAll_77, dX1_weighAll_78, dX1_weighAll_81, dX1_weighAll_82, dX1_weighAll_83, dX1_weighAll_84, dX1_weighAll_85, dg1_1_61_88, dX1_weighAll_88, dX1_weighAll_89, dg1_1_57_88, dX1_weighAll_92, dv1_1_81_65, moX3_load, dX1_weighAll_95, dX1_weighAll_96, dis_5, dX1_weighAll_98, dX1_weighAll_99, dis_6, dX1_weighAll_101, dil_6, dX1_weighAll_103, dX1_weighAll_104, dX1_weighAll_107, dX1_weighAll_110, dX1_weighAll_113, dX1_weighAll_114, dX1_weighAll_117, dX1_weighAll_118, dX1_weighAll_120, dv1_1_87_65, moX8_place, dX1_weighAll_123, dX1_weighAll_124, dis_7, dX1_weighAll_126, dil_7, dX1_weighAll_128, dX1_weighAll_129, dX1_weighAll_132, dX1_weighAll_135, dX1_weighAll_138, dX1_weighAll_139, dX1_weighAll_142, dX1_weighAll_143, dX1_weighAll_145, dX1_weighAll_148, dX1_weighAll_149, dis_8, dX1_weighAll_151, dil_8, dX1_weighAll_153, dX1_weighAll_155, dX1_weighAll_158, dX1_weighAll_159, dX1_weighAll_160, dX1_weighAll_163, dX1_weighAll_164, dX1_weighAll_167, dX1_weighAll_168, dX1_weighAll_170, dX1_weighAll_173, dX1_weighAll_174, dil_5, dX1_weighAll_176, dv1_1_91_88, moX1_weighRow, dX1_weighAll_179, dinc_5, dX1_weighAll_182, dinc_8, dX1_weighAll_185, dX1_weighAll_188, dinc_7, dX1_weighAll_191, dX1_weighAll_194, dinc_6, dX1_weighAll_197, dX1_weighAll_200, das1_91, das1_92, e3]
      repeat' (with_reducible (first | apply And.intro | intro _))
      all_goals first | omega | skip
      · have e : a = C := by omega
        subst e
        exact h ρ hf hg h90 hr
      · rename_i q1
        have haa : zSt ω a := zSt_cn hT (by omega)
        refine l_place hJ hK hl hPx haa (fun φ d1 d2 => ?_)
        rw [zGs_x hP] at d1
        try simp only [cq_lt, cq_le, cq_gt, cq_ge, cq_eq, cq_r1, cq_r2, ab_r32, ab_r64, ab_go, ab_stp, wp_z, ab_in, ab_rok, ab_wsum, ab_prm, ab_ret, ab_sw, ab_cd, ab_tg, ab_cat_i, ab_cat_l, ab_cat_r, ab_cl_n, ab_cl_i, ab_cl_l, ab_cl_r, ab_f2_0, ab_f2_1, ab_f4_0, ab_f4_1, ab_f4_2, ab_f4_3, ab_op_s, ab_b1_s, ab_b2_s, ab_l1_s, ab_l2_s, ab_li_s, ab_o1_s, ab_io_s, ab_lo1_s, ab_iio_s, ab_lio_s, ab_cp5_s, ab_d2_l, ab_d2_i, ab_d2_o, ex_iconst, ex_bipush, ex_sipush, ex_lconst, ex_ldc, ex_ldc_w, ex_ldc2_w, ex_iadd, ex_isub, ex_imul, ex_iand, ex_ior, ex_ixor, ex_ishl, ex_ishr, ex_iushr, ex_idiv, ex_irem, ex_ladd, ex_lsub, ex_lmul, ex_lor, ex_ldiv, ex_lrem, ex_lshl, ex_lcmp, ex_ineg, ex_lneg, ex_i2l, ex_l2i, ex_i2b, ex_dup, ex_pop, ex_dup2, ex_goto, ex_tableswitch, ex_aaload, ex_ireturn, ex_lreturn, ex_return_, List.map_cons, List.map_nil, List.sum_cons, List.sum_nil, List.drop_succ_cons, List.drop_zero, List.take_succ_cons, List.take_zero, List.reverse_cons, List.reverse_nil, List.nil_append, List.cons_append, List.length_cons, List.length_nil, true_and, and_true, cond_false, cond_true, Bool.false_or, Bool.or_false, Bool.or_true, Bool.true_or, true_or, or_true, false_or, or_false, if_true, if_false, reduceIte, ite_true, ite_false, implies_true, true_implies, false_implies, forall_const, not_true_eq_false, not_false_eq_true, Nat.reduceAdd, Nat.reduceMul, Nat.reduceSub, Nat.reduceBEq, Nat.reduceEqDiff, Nat.reduceLeDiff, Nat.reduceLT, Int.reduceAdd, Int.reduceSub, Int.reduceMul, Int.reduceNeg, Int.reduceToNat, Int.reduceLE, Int.reduceLT, Int.reduceEq, Int.reduceNe, Int.reduceNatCast, Nat.add_zero, Nat.zero_add, reduceCtorEq, Int.reduceNatCast', wp_c, wp_g, e2_ifCond, e2_if_icmp, ↓bq_t, ↓bq_f, ab_br, ↓ab_b1_s, ↓ab_b2_s, ↓ab_l1_s, ↓ab_l2_s, ↓ab_li_s, ↓ab_o1_s, ↓ab_io_s, ↓ab_lo1_s, ↓ab_iio_s, ↓ab_lio_s, ↓ab_cp5_s, moX1_weighAll, dX1_weighAll_0, dil_3, dX1_weighAll_1, dX1_weighAll_2, dX1_weighAll_5, dX1_weighAll_6, dX1_weighAll_9, dal_0, dX1_weighAll_10, dg1_1_53_88, dX1_weighAll_13, dg1_1_76_3, dg1_1_76_12, dX1_weighAll_16, dis_4, dX1_weighAll_18, dX1_weighAll_19, dX1_weighAll_20, dX1_weighAll_21, dX1_weighAll_24, dX1_weighAll_25, dX1_weighAll_28, dX1_weighAll_29, dp1_1_34_88, dX1_weighAll_32, dX1_weighAll_33, dg1_1_19_88, dX1_weighAll_36, dX1_weighAll_37, dil_1, dX1_weighAll_38, dX1_weighAll_39, dX1_weighAll_40, dX1_weighAll_43, dX1_weighAll_44, dil_2, dX1_weighAll_45, dX1_weighAll_46, dX1_weighAll_47, dX1_weighAll_50, dX1_weighAll_51, dX1_weighAll_52, dX1_weighAll_53, dX1_weighAll_54, dg1_1_22_88, dX1_weighAll_57, dX1_weighAll_58, dX1_weighAll_59, dX1_weighAll_62, dX1_weighAll_65, dil_4, dX1_weighAll_67, dX1_weighAll_68, dX1_weighAll_69, dX1_weighAll_70, dX1_weighAll_73, dX1_weighAll_74, dX1_weighAll_76, dX1_weighAll_77, dX1_weighAll_78, dX1_weighAll_81, dX1_weighAll_82, dX1_weighAll_83, dX1_weighAll_84, dX1_weighAll_85, dg1_1_61_88, dX1_weighAll_88, dX1_weighAll_89, dg1_1_57_88, dX1_weighAll_92, dv1_1_81_65, moX3_load, dX1_weighAll_95, dX1_weighAll_96, dis_5, dX1_weighAll_98, dX1_weighAll_99, dis_6, dX1_weighAll_101, dil_6, dX1_weighAll_103, dX1_weighAll_104, dX1_weighAll_107, dX1_weighAll_110, dX1_weighAll_113, dX1_weighAll_114, dX1_weighAll_117, dX1_weighAll_118, dX1_weighAll_120, dv1_1_87_65, moX8_place, dX1_weighAll_123, dX1_weighAll_124, dis_7, dX1_weighAll_126, dil_7, dX1_weighAll_128, dX1_weighAll_129, dX1_weighAll_132, dX1_weighAll_135, dX1_weighAll_138, dX1_weighAll_139, dX1_weighAll_142, dX1_weighAll_143, dX1_weighAll_145, dX1_weighAll_148, dX1_weighAll_149, dis_8, dX1_weighAll_151, dil_8, dX1_weighAll_153, dX1_weighAll_155, dX1_weighAll_158, dX1_weighAll_159, dX1_weighAll_160, dX1_weighAll_163, dX1_weighAll_164, dX1_weighAll_167, dX1_weighAll_168, dX1_weighAll_170, dX1_weighAll_173, dX1_weighAll_174, dil_5, dX1_weighAll_176, dv1_1_91_88, moX1_weighRow, dX1_weighAll_179, dinc_5, dX1_weighAll_182, dinc_8, dX1_weighAll_185, dX1_weighAll_188, dinc_7, dX1_weighAll_191, dX1_weighAll_194, dinc_6, dX1_weighAll_197, dX1_weighAll_200, das1_91, das1_92]
        refine key2 a ⟨h2, by omega⟩ (fun ψ z7 z8 b2 c2 g1 g2 g3 g4 g5 g6 g7 => ?_) 13 0 b' c' φ _ (by omega) (by omega) (by omega) hb' hc' d1 (zFg_trans hf (zFm_g d2)) (zGh_m hg (fun o o1 => d2 o (by omega))) ((d2 90 (by decide)).trans h90) ?_
        · exact ih (a + 1) a b2 c2 ψ z7 z8 (by omega) (by omega) (by omega) haa g1 g2 g3 g4 g5 g6 g7
        · intro p p1 p2 a2 b2 c2 q1 q2 q3 q4
          rw [d2 89 (by decide)]
          exact hr p p1 p2 a2 b2 c2 q1 q2 q3 q4
  -- the head
  have e3 : σ 3 8 = C := by
    rw [hF 3 (by decide)]
    exact hC
  have hst := hK.2
  have body : ∀ np d, np = znp z → d = D → ∀ φ, φ = ab_up (ab_up (ab_up (ab_up (ab_up (ab_up (ab_up σ 88 11 np) 91 0 x) 91 1 y) 91 2 z) 92 0 (C * d)) 92 1 d) 92 2 1 → ab_Runs ab_G1 mdX3_load [vR 65, vR 34] φ (fun _ τ => G 101 [some (vR 88), some (vI x), some (vI y), some (vI z), some (vI d), some (vI 0), some (vI 0), none, none] [] τ) := by
    rintro np d rfl rfl φ rfl
    have hF2 : zFr ω (ab_up (ab_up (ab_up (ab_up (ab_up (ab_up (ab_up σ 88 11 (znp z)) 91 0 x) 91 1 y) 91 2 z) 92 0 (C * d)) 92 1 d) 92 2 1) := fun o o1 => by
      rw [ab_up_o o (by omega), ab_up_o o (by omega), ab_up_o o (by omega), ab_up_o o (by omega), ab_up_o o (by omega), ab_up_o o (by omega), ab_up_o o (by omega)]
      exact hF o o1
    refine l_load hJ hK hF2 (fun ψ g1 g2 => ?_)
    rw [← zGs_0 hP] at g1
    have e0 : zrw C d 0 0 0 = 0 := by
      unfold zrw
      rw [Int.zero_mul, Int.zero_add, Int.zero_mul, Int.zero_add]
    have hgf : zFg σ ψ := by
      refine zFg_trans ⟨fun o o1 => ?_, fun k k1 => ?_⟩ (zFm_g g2)
      · rw [ab_up_o o (by omega), ab_up_o o (by omega), ab_up_o o (by omega), ab_up_o o (by omega), ab_up_o o (by omega), ab_up_o o (by omega), ab_up_o o (by omega)]
      · show (if k = 11 then _ else σ 88 k) = _
        rw [if_neg (by omega)]
    have hgg : zGh ω x y z ψ := by
      refine zGh_m (σ := ab_up (ab_up (ab_up (ab_up (ab_up (ab_up (ab_up σ 88 11 (znp z)) 91 0 x) 91 1 y) 91 2 z) 92 0 (C * d)) 92 1 d) 92 2 1) ?_ (fun o o1 => g2 o (by omega))
      unfold zGh
      rw [hC, hDD]
      exact ⟨rfl, ⟨rfl, rfl, rfl⟩, rfl, rfl, rfl⟩
    have := key1 13 0 _ _ _ ψ none none (by omega) (by omega) (by omega) (hst x hPx.1 hPx.2).1 (hst y hPy.1 hPy.2).1 (by
      rcases hPz with e | e
      · exact Or.inl e
      · exact Or.inr (hst z e.1.1 e.1.2).1) g1 hgf hgg (g2 90 (by decide)) (fun p p1 p2 a b c q1 q2 q3 q4 => by
      rw [hC] at q1 q2 q3 q4
      rw [hDD] at q3 q4
      have := (zrw_in hT1 hD0 q1 q2 q3).1
      rw [e0] at q4
      omega)
    rw [e0] at this
    exact this
  have hzr : -1 ≤ z ∧ z ≤ 4 := by
    rcases hPz with e | e <;> omega
  have e3' : ∀ np, ab_up (ab_up (ab_up (ab_up σ 88 11 np) 91 0 x) 91 1 y) 91 2 z 3 8 = C := fun _ => e3
  apply hG [101] 80
  simp only [cq_lt, cq_le, cq_gt, cq_ge, cq_eq, cq_r1, cq_r2, ab_r32, ab_r64, ab_go, ab_stp, wp_z, ab_in, ab_rok, ab_wsum, ab_prm, ab_ret, ab_sw, ab_cd, ab_tg, ab_cat_i, ab_cat_l, ab_cat_r, ab_cl_n, ab_cl_i, ab_cl_l, ab_cl_r, ab_f2_0, ab_f2_1, ab_f4_0, ab_f4_1, ab_f4_2, ab_f4_3, ab_op_s, ab_b1_s, ab_b2_s, ab_l1_s, ab_l2_s, ab_li_s, ab_o1_s, ab_io_s, ab_lo1_s, ab_iio_s, ab_lio_s, ab_cp5_s, ab_d2_l, ab_d2_i, ab_d2_o, ex_iconst, ex_bipush, ex_sipush, ex_lconst, ex_ldc, ex_ldc_w, ex_ldc2_w, ex_iadd, ex_isub, ex_imul, ex_iand, ex_ior, ex_ixor, ex_ishl, ex_ishr, ex_iushr, ex_idiv, ex_irem, ex_ladd, ex_lsub, ex_lmul, ex_lor, ex_ldiv, ex_lrem, ex_lshl, ex_lcmp, ex_ineg, ex_lneg, ex_i2l, ex_l2i, ex_i2b, ex_dup, ex_pop, ex_dup2, ex_goto, ex_tableswitch, ex_aaload, ex_ireturn, ex_lreturn, ex_return_, List.map_cons, List.map_nil, List.sum_cons, List.sum_nil, List.drop_succ_cons, List.drop_zero, List.take_succ_cons, List.take_zero, List.reverse_cons, List.reverse_nil, List.nil_append, List.cons_append, List.length_cons, List.length_nil, true_and, and_true, cond_false, cond_true, Bool.false_or, Bool.or_false, Bool.or_true, Bool.true_or, true_or, or_true, false_or, or_false, if_true, if_false, reduceIte, ite_true, ite_false, implies_true, true_implies, false_implies, forall_const, not_true_eq_false, not_false_eq_true, Nat.reduceAdd, Nat.reduceMul, Nat.reduceSub, Nat.reduceBEq, Nat.reduceEqDiff, Nat.reduceLeDiff, Nat.reduceLT, Int.reduceAdd, Int.reduceSub, Int.reduceMul, Int.reduceNeg, Int.reduceToNat, Int.reduceLE, Int.reduceLT, Int.reduceEq, Int.reduceNe, Int.reduceNatCast, Nat.add_zero, Nat.zero_add, reduceCtorEq, Int.reduceNatCast', wp_c, wp_g, e2_ifCond, e2_if_icmp, ↓bq_t, ↓bq_f, ab_br, ↓ab_b1_s, ↓ab_b2_s, ↓ab_l1_s, ↓ab_l2_s, ↓ab_li_s, ↓ab_o1_s, ↓ab_io_s, ↓ab_lo1_s, ↓ab_iio_s, ↓ab_lio_s, ↓ab_cp5_s, moX1_weighAll, dX1_weighAll_0, dil_3, dX1_weighAll_1, dX1_weighAll_2, dX1_weighAll_5, dX1_weighAll_6, dX1_weighAll_9, dal_0, dX1_weighAll_10, dg1_1_53_88, dX1_weighAll_13, dg1_1_76_3, dg1_1_76_12, dX1_weighAll_16, dis_4, dX1_weighAll_18, dX1_weighAll_19, dX1_weighAll_20, dX1_weighAll_21, dX1_weighAll_24, dX1_weighAll_25, dX1_weighAll_28, dX1_weighAll_29, dp1_1_34_88, dX1_weighAll_32, dX1_weighAll_33, dg1_1_19_88, dX1_weighAll_36, dX1_weighAll_37, dil_1, dX1_weighAll_38, dX1_weighAll_39, dX1_weighAll_40, dX1_weighAll_43, dX1_weighAll_44, dil_2, dX1_weighAll_45, dX1_weighAll_46, dX1_weighAll_47, dX1_weighAll_50, dX1_weighAll_51, dX1_weighAll_52, dX1_weighAll_53, dX1_weighAll_54, dg1_1_22_88, dX1_weighAll_57, dX1_weighAll_58, dX1_weighAll_59, dX1_weighAll_62, dX1_weighAll_65, dil_4, dX1_weighAll_67, dX1_weighAll_68, dX1_weighAll_69, dX1_weighAll_70, dX1_weighAll_73, dX1_weighAll_74, dX1_weighAll_76, dX1_weighAll_77, dX1_weighAll_78, dX1_weighAll_81, dX1_weighAll_82, dX1_weighAll_83, dX1_weighAll_84, dX1_weighAll_85, dg1_1_61_88, dX1_weighAll_88, dX1_weighAll_89, dg1_1_57_88, dX1_weighAll_92, dv1_1_81_65, moX3_load, dX1_weighAll_95, dX1_weighAll_96, dis_5, dX1_weighAll_98, dX1_weighAll_99, dis_6, dX1_weighAll_101, dil_6, dX1_weighAll_103, dX1_weighAll_104, dX1_weighAll_107, dX1_weighAll_110, dX1_weighAll_113, dX1_weighAll_114, dX1_weighAll_117, dX1_weighAll_118, dX1_weighAll_120, dv1_1_87_65, moX8_place, dX1_weighAll_123, dX1_weighAll_124, dis_7, dX1_weighAll_126, dil_7, dX1_weighAll_128, dX1_weighAll_129, dX1_weighAll_132, dX1_weighAll_135, dX1_weighAll_138, dX1_weighAll_139, dX1_weighAll_142, dX1_weighAll_143, dX1_weighAll_145, dX1_weighAll_148, dX1_weighAll_149, dis_8, dX1_weighAll_151, dil_8, dX1_weighAll_153, dX1_weighAll_155, dX1_weighAll_158, dX1_weighAll_159, dX1_weighAll_160, dX1_weighAll_163, dX1_weighAll_164, dX1_weighAll_167, dX1_weighAll_168, dX1_weighAll_170, dX1_weighAll_173, dX1_weighAll_174, dil_5, dX1_weighAll_176, dv1_1_91_88, moX1_weighRow, dX1_weighAll_179, dinc_5, dX1_weighAll_182, dinc_8, dX1_weighAll_185, dX1_weighAll_188, dinc_7, dX1_weighAll_191, dX1_weighAll_194, dinc_6, dX1_weighAll_197, dX1_weighAll_200, das1_91, das1_92, e3, e3']
  repeat' (with_reducible (first | apply And.intro | intro _))
  all_goals first | omega | skip
  all_goals (rename_i q1)
  all_goals (try rename_i q2)
  all_goals first | omega | skip
  all_goals refine body _ _ ?_ ?_ _ rfl
  all_goals first
    | (show (2 : Int) = znp z; unfold znp; rw [if_pos (by omega)])
    | (show (3 : Int) = znp z; unfold znp; rw [if_neg (by omega)])
    | (show (1 : Int) = D; rw [← hDD]; unfold zdp; rw [if_pos (by omega)])
    | (show C = D; rw [← hDD]; unfold zdp; rw [if_neg (by omega)])
set_option maxRecDepth 100000 in
set_option maxHeartbeats 4000000 in
theorem r_cornerIn {ω σ : ab_S} {x y z p a b c : Int} {K : ab_V → ab_S → Prop} (hT : zTn ω) (hF : σ 3 = ω 3) (hH : zGh ω x y z σ) (hp : p = 0 ∨ p = 1 ∨ (p = 2 ∧ z ≠ -1)) (ha : 0 ≤ a ∧ a < ω 3 8) (hb : 0 ≤ b ∧ b < ω 3 8) (hc : 0 ≤ c ∧ c < zdp (ω 3 8) z) (h : K (vI (zpl a b c p)) σ) : ab_Runs ab_G1 mdX1_cornerIn [vR 88, vI (zrw (ω 3 8) (zdp (ω 3 8) z) a b c), vI p] σ K := by
  have hT1 := hT.1
  have hD0 : 0 ≤ zdp (ω 3 8) z ∧ zdp (ω 3 8) z ≤ 12 := by
    unfold zdp
    split <;> omega
  obtain ⟨q1, q2, q3, q4, q5⟩ := zrw_in hT1 hD0 ha hb hc
  obtain ⟨-, -, s0, s1, s2⟩ := hH
  have hD1 : 0 < ω 3 8 * zdp (ω 3 8) z := Int.mul_pos (by omega) (by omega)
  have hD2 : ω 3 8 * zdp (ω 3 8) z ≤ 144 := by
    have := Int.mul_le_mul hT1.2 hD0.2 hD0.1 (by omega)
    omega
  generalize hrr : zrw (ω 3 8) (zdp (ω 3 8) z) a b c = r at *
  have d1 : 0 ≤ r / zdp (ω 3 8) z := Int.ediv_nonneg q1 hD0.1
  have d2 : r / zdp (ω 3 8) z ≤ r := Int.ediv_le_self _ q1
  refine ab_runs mwX1_cornerIn (by decide +kernel) (Nat.le_of_ble_eq_true rfl) (fun G hG => ?_)
  show G 0 [some (vR 88), some (vI r), some (vI p)] [] _
  rcases hp with rfl | rfl | ⟨rfl, hz⟩
  · apply hG [9999] 40
    simp only [cq_lt, cq_le, cq_gt, cq_ge, cq_eq, cq_r1, cq_r2, ab_r32, ab_r64, ab_go, ab_stp, wp_z, ab_in, ab_rok, ab_wsum, ab_prm, ab_ret, ab_sw, ab_cd, ab_tg, ab_cat_i, ab_cat_l, ab_cat_r, ab_cl_n, ab_cl_i, ab_cl_l, ab_cl_r, ab_f2_0, ab_f2_1, ab_f4_0, ab_f4_1, ab_f4_2, ab_f4_3, ab_op_s, ab_b1_s, ab_b2_s, ab_l1_s, ab_l2_s, ab_li_s, ab_o1_s, ab_io_s, ab_lo1_s, ab_iio_s, ab_lio_s, ab_cp5_s, ab_d2_l, ab_d2_i, ab_d2_o, ex_iconst, ex_bipush, ex_sipush, ex_lconst, ex_ldc, ex_ldc_w, ex_ldc2_w, ex_iadd, ex_isub, ex_imul, ex_iand, ex_ior, ex_ixor, ex_ishl, ex_ishr, ex_iushr, ex_idiv, ex_irem, ex_ladd, ex_lsub, ex_lmul, ex_lor, ex_ldiv, ex_lrem, ex_lshl, ex_lcmp, ex_ineg, ex_lneg, ex_i2l, ex_l2i, ex_i2b, ex_dup, ex_pop, ex_dup2, ex_goto, ex_tableswitch, ex_aaload, ex_ireturn, ex_lreturn, ex_return_, List.map_cons, List.map_nil, List.sum_cons, List.sum_nil, List.drop_succ_cons, List.drop_zero, List.take_succ_cons, List.take_zero, List.reverse_cons, List.reverse_nil, List.nil_append, List.cons_append, List.length_cons, List.length_nil, true_and, and_true, cond_false, cond_true, Bool.false_or, Bool.or_false, Bool.or_true, Bool.true_or, true_or, or_true, false_or, or_false, if_true, if_false, reduceIte, ite_true, ite_false, implies_true, true_implies, false_implies, forall_const, not_true_eq_false, not_false_eq_true, Nat.reduceAdd, Nat.reduceMul, Nat.reduceSub, Nat.reduceBEq, Nat.reduceEqDiff, Nat.reduceLeDiff, Nat.reduceLT, Int.reduceAdd, Int.reduceSub, Int.reduceMul, Int.reduceNeg, Int.reduceToNat, Int.reduceLE, Int.reduceLT, Int.reduceEq, Int.reduceNe, Int.reduceNatCast, Nat.add_zero, Nat.zero_add, reduceCtorEq, Int.reduceNatCast', wp_c, wp_g, e2_ifCond, e2_if_icmp, ↓bq_t, ↓bq_f, ab_br, ↓ab_b1_s, ↓ab_b2_s, ↓ab_l1_s, ↓ab_l2_s, ↓ab_li_s, ↓ab_o1_s, ↓ab_io_s, ↓ab_lo1_s, ↓ab_iio_s, ↓ab_lio_s, ↓ab_cp5_s, moX1_cornerIn, dX1_cornerIn_0, dal_0, dX1_cornerIn_1, dg1_1_22_88, dX1_cornerIn_4, dil_2, dX1_cornerIn_5, dX1_cornerIn_6, dX1_cornerIn_9, dX1_cornerIn_10, dg1_1_53_88, dX1_cornerIn_13, dg1_1_76_3, dg1_1_76_12, dX1_cornerIn_16, dX1_cornerIn_19, dil_1, dX1_cornerIn_20, dX1_cornerIn_21, dX1_cornerIn_24, dX1_cornerIn_25, dX1_cornerIn_26, dX1_cornerIn_27, dX1_cornerIn_28, dX1_cornerIn_31, dX1_cornerIn_34, dX1_cornerIn_35, dX1_cornerIn_38, dX1_cornerIn_39, dal1_92, s0, hF]
    repeat' (with_reducible (first | apply And.intro | intro _))
    all_goals first | omega | skip
    rw [q3, Int.emod_eq_of_lt ha.1 ha.2]
    exact h
  · apply hG [9999] 40
    simp only [cq_lt, cq_le, cq_gt, cq_ge, cq_eq, cq_r1, cq_r2, ab_r32, ab_r64, ab_go, ab_stp, wp_z, ab_in, ab_rok, ab_wsum, ab_prm, ab_ret, ab_sw, ab_cd, ab_tg, ab_cat_i, ab_cat_l, ab_cat_r, ab_cl_n, ab_cl_i, ab_cl_l, ab_cl_r, ab_f2_0, ab_f2_1, ab_f4_0, ab_f4_1, ab_f4_2, ab_f4_3, ab_op_s, ab_b1_s, ab_b2_s, ab_l1_s, ab_l2_s, ab_li_s, ab_o1_s, ab_io_s, ab_lo1_s, ab_iio_s, ab_lio_s, ab_cp5_s, ab_d2_l, ab_d2_i, ab_d2_o, ex_iconst, ex_bipush, ex_sipush, ex_lconst, ex_ldc, ex_ldc_w, ex_ldc2_w, ex_iadd, ex_isub, ex_imul, ex_iand, ex_ior, ex_ixor, ex_ishl, ex_ishr, ex_iushr, ex_idiv, ex_irem, ex_ladd, ex_lsub, ex_lmul, ex_lor, ex_ldiv, ex_lrem, ex_lshl, ex_lcmp, ex_ineg, ex_lneg, ex_i2l, ex_l2i, ex_i2b, ex_dup, ex_pop, ex_dup2, ex_goto, ex_tableswitch, ex_aaload, ex_ireturn, ex_lreturn, ex_return_, List.map_cons, List.map_nil, List.sum_cons, List.sum_nil, List.drop_succ_cons, List.drop_zero, List.take_succ_cons, List.take_zero, List.reverse_cons, List.reverse_nil, List.nil_append, List.cons_append, List.length_cons, List.length_nil, true_and, and_true, cond_false, cond_true, Bool.false_or, Bool.or_false, Bool.or_true, Bool.true_or, true_or, or_true, false_or, or_false, if_true, if_false, reduceIte, ite_true, ite_false, implies_true, true_implies, false_implies, forall_const, not_true_eq_false, not_false_eq_true, Nat.reduceAdd, Nat.reduceMul, Nat.reduceSub, Nat.reduceBEq, Nat.reduceEqDiff, Nat.reduceLeDiff, Nat.reduceLT, Int.reduceAdd, Int.reduceSub, Int.reduceMul, Int.reduceNeg, Int.reduceToNat, Int.reduceLE, Int.reduceLT, Int.reduceEq, Int.reduceNe, Int.reduceNatCast, Nat.add_zero, Nat.zero_add, reduceCtorEq, Int.reduceNatCast', wp_c, wp_g, e2_ifCond, e2_if_icmp, ↓bq_t, ↓bq_f, ab_br, ↓ab_b1_s, ↓ab_b2_s, ↓ab_l1_s, ↓ab_l2_s, ↓ab_li_s, ↓ab_o1_s, ↓ab_io_s, ↓ab_lo1_s, ↓ab_iio_s, ↓ab_lio_s, ↓ab_cp5_s, moX1_cornerIn, dX1_cornerIn_0, dal_0, dX1_cornerIn_1, dg1_1_22_88, dX1_cornerIn_4, dil_2, dX1_cornerIn_5, dX1_cornerIn_6, dX1_cornerIn_9, dX1_cornerIn_10, dg1_1_53_88, dX1_cornerIn_13, dg1_1_76_3, dg1_1_76_12, dX1_cornerIn_16, dX1_cornerIn_19, dil_1, dX1_cornerIn_20, dX1_cornerIn_21, dX1_cornerIn_24, dX1_cornerIn_25, dX1_cornerIn_26, dX1_cornerIn_27, dX1_cornerIn_28, dX1_cornerIn_31, dX1_cornerIn_34, dX1_cornerIn_35, dX1_cornerIn_38, dX1_cornerIn_39, dal1_92, s1, hF]
    repeat' (with_reducible (first | apply And.intro | intro _))
    all_goals first | omega | skip
    rw [q4]
    exact h
  · have hz2 : zdp (ω 3 8) z = ω 3 8 := by
      unfold zdp
      rw [if_neg hz]
    rw [hz2] at q5
    apply hG [9999] 40
    simp only [cq_lt, cq_le, cq_gt, cq_ge, cq_eq, cq_r1, cq_r2, ab_r32, ab_r64, ab_go, ab_stp, wp_z, ab_in, ab_rok, ab_wsum, ab_prm, ab_ret, ab_sw, ab_cd, ab_tg, ab_cat_i, ab_cat_l, ab_cat_r, ab_cl_n, ab_cl_i, ab_cl_l, ab_cl_r, ab_f2_0, ab_f2_1, ab_f4_0, ab_f4_1, ab_f4_2, ab_f4_3, ab_op_s, ab_b1_s, ab_b2_s, ab_l1_s, ab_l2_s, ab_li_s, ab_o1_s, ab_io_s, ab_lo1_s, ab_iio_s, ab_lio_s, ab_cp5_s, ab_d2_l, ab_d2_i, ab_d2_o, ex_iconst, ex_bipush, ex_sipush, ex_lconst, ex_ldc, ex_ldc_w, ex_ldc2_w, ex_iadd, ex_isub, ex_imul, ex_iand, ex_ior, ex_ixor, ex_ishl, ex_ishr, ex_iushr, ex_idiv, ex_irem, ex_ladd, ex_lsub, ex_lmul, ex_lor, ex_ldiv, ex_lrem, ex_lshl, ex_lcmp, ex_ineg, ex_lneg, ex_i2l, ex_l2i, ex_i2b, ex_dup, ex_pop, ex_dup2, ex_goto, ex_tableswitch, ex_aaload, ex_ireturn, ex_lreturn, ex_return_, List.map_cons, List.map_nil, List.sum_cons, List.sum_nil, List.drop_succ_cons, List.drop_zero, List.take_succ_cons, List.take_zero, List.reverse_cons, List.reverse_nil, List.nil_append, List.cons_append, List.length_cons, List.length_nil, true_and, and_true, cond_false, cond_true, Bool.false_or, Bool.or_false, Bool.or_true, Bool.true_or, true_or, or_true, false_or, or_false, if_true, if_false, reduceIte, ite_true, ite_false, implies_true, true_implies, false_implies, forall_const, not_true_eq_false, not_false_eq_true, Nat.reduceAdd, Nat.reduceMul, Nat.reduceSub, Nat.reduceBEq, Nat.reduceEqDiff, Nat.reduceLeDiff, Nat.reduceLT, Int.reduceAdd, Int.reduceSub, Int.reduceMul, Int.reduceNeg, Int.reduceToNat, Int.reduceLE, Int.reduceLT, Int.reduceEq, Int.reduceNe, Int.reduceNatCast, Nat.add_zero, Nat.zero_add, reduceCtorEq, Int.reduceNatCast', wp_c, wp_g, e2_ifCond, e2_if_icmp, ↓bq_t, ↓bq_f, ab_br, ↓ab_b1_s, ↓ab_b2_s, ↓ab_l1_s, ↓ab_l2_s, ↓ab_li_s, ↓ab_o1_s, ↓ab_io_s, ↓ab_lo1_s, ↓ab_iio_s, ↓ab_lio_s, ↓ab_cp5_s, moX1_cornerIn, dX1_cornerIn_0, dal_0, dX1_cornerIn_1, dg1_1_22_88, dX1_cornerIn_4, dil_2, dX1_cornerIn_5, dX1_cornerIn_6, dX1_cornerIn_9, dX1_cornerIn_10, dg1_1_53_88, dX1_cornerIn_13, dg1_1_76_3, dg1_1_76_12, dX1_cornerIn_16, dX1_cornerIn_19, dil_1, dX1_cornerIn_20, dX1_cornerIn_21, dX1_cornerIn_24, dX1_cornerIn_25, dX1_cornerIn_26, dX1_cornerIn_27, dX1_cornerIn_28, dX1_cornerIn_31, dX1_cornerIn_34, dX1_cornerIn_35, dX1_cornerIn_38, dX1_cornerIn_39, dal1_92, s2, hF]
    repeat' (with_reducible (first | apply And.intro | intro _))
    all_goals first | omega | skip
    rw [Int.ediv_one, q5]
    exact h
theorem zrw_eq {C D a b c : Int} : zrw C D a b c - a * (C * D) = zrw C D 0 b c ∧ zrw C D a b c - b * D = zrw C D a 0 c ∧ zrw C D a b c - c = zrw C D a b 0 := by
  unfold zrw
  refine ⟨?_, ?_, by omega⟩
  · rw [Int.zero_mul, Int.zero_add, Int.add_mul, Int.mul_assoc]
    omega
  · rw [Int.add_zero, Int.add_mul]
    omega
theorem zrw_mv {C D a b c m : Int} : zrw C D 0 b c + m * (C * D) = zrw C D m b c ∧ zrw C D a 0 c + m * D = zrw C D a m c ∧ zrw C D a b 0 + m = zrw C D a b m := by
  have h1 := zrw_eq (C := C) (D := D) (a := m) (b := b) (c := c)
  have h2 := zrw_eq (C := C) (D := D) (a := a) (b := m) (c := c)
  have h3 := zrw_eq (C := C) (D := D) (a := a) (b := b) (c := m)
  omega
/-- a player's row with another corner -/
noncomputable def zwo (ω : ab_S) (x y z p a b c m : Int) : Int := if p = 0 then zWv ω x y z 0 m b c else if p = 1 then zWv ω x y z 1 a m c else zWv ω x y z 2 a b m
set_option maxRecDepth 100000 in
set_option maxHeartbeats 4000000 in
theorem l_isRest {ω σ : ab_S} {x y z a b c : Int} {K : ab_V → ab_S → Prop} (hJ : zJ ω) (hK : zK ω) (hP : zPl ω x y z) (hF : σ 3 = ω 3) (hH : zGh ω x y z σ) (hG : zGr ω x y z σ (zrw (ω 3 8) (zdp (ω 3 8) z) (ω 3 8) 0 0)) (ha : 0 ≤ a ∧ a < ω 3 8) (hb : 0 ≤ b ∧ b < ω 3 8) (hc : 0 ≤ c ∧ c < zdp (ω 3 8) z) (hl : zLet ω x y z a b c) (h : ∀ v, (zRt ω x y z a b c ∧ v = 1 ∨ ¬ zRt ω x y z a b c ∧ v = 0) → K (vI v) σ) : ab_Runs ab_G1 mdX1_isRest [vR 88, vI (zrw (ω 3 8) (zdp (ω 3 8) z) a b c)] σ K := by
  have hT := hJ.1
  have hT1 := hT.1
  have hD0 := zdp_in (z := z) hT (by omega)
  have hD3 : 0 ≤ zdp (ω 3 8) z ∧ zdp (ω 3 8) z ≤ 12 := by omega
  have hrow := zrw_in hT1 hD3 ha hb hc
  have hnp : 2 ≤ znp z ∧ znp z ≤ 3 := by
    unfold znp
    split <;> omega
  have hwin := fun p a b c (hp : 0 ≤ p ∧ p < znp z) => zWv_in (a := a) (b := b) (c := c) hJ hK hP (zW_p hp)
  have hrt : zRt ω x y z a b c ↔ ∀ p, 0 ≤ p → p < znp z → ∀ m, 0 ≤ m → m < ω 3 8 → zwo ω x y z p a b c m ≤ zWv ω x y z p a b c := by
    unfold zRt
    constructor
    · rintro ⟨-, y⟩ p p1 p2 m m1 m2
      obtain ⟨y1, y2, y3⟩ := y m m1 m2
      unfold zwo
      rcases zW_p ⟨p1, p2⟩ with rfl | rfl | ⟨rfl, hz⟩
      · exact y1
      · exact y2
      · exact y3 hz
    · intro y
      refine ⟨hl, fun m m1 m2 => ⟨y 0 (by omega) (by omega) m m1 m2, y 1 (by omega) (by omega) m m1 m2, fun hz => ?_⟩⟩
      exact y 2 (by omega) (by unfold znp; rw [if_neg hz]; omega) m m1 m2
  have hmv : ∀ p m, 0 ≤ p → p < znp z → 0 ≤ m → m < ω 3 8 → ∃ i, (0 ≤ i ∧ i < 1728) ∧ 1728 * p + zrw (ω 3 8) (zdp (ω 3 8) z) a b c - zpl a b c p * σ 92 p + m * σ 92 p = 1728 * p + i ∧ σ 89 (1728 * p + i) = zwo ω x y z p a b c m := by
    intro p m p1 p2 m1 m2
    obtain ⟨-, -, s0, s1, s2⟩ := hH
    unfold zwo zpl
    rcases zW_p ⟨p1, p2⟩ with rfl | rfl | ⟨rfl, hz⟩
    · refine ⟨zrw (ω 3 8) (zdp (ω 3 8) z) m b c, ?_, ?_, ?_⟩
      · have := zrw_in hT1 hD3 ⟨m1, m2⟩ hb hc
        omega
      · rw [s0]
        have e1 := (zrw_eq (C := ω 3 8) (D := zdp (ω 3 8) z) (a := a) (b := b) (c := c)).1
        have e2 := (zrw_mv (C := ω 3 8) (D := zdp (ω 3 8) z) (a := a) (b := b) (c := c) (m := m)).1
        simp only [if_true]
        omega
      · exact hG 0 p1 p2 m b c ⟨m1, m2⟩ hb hc (zrw_lt hT1 hD3 ⟨m1, m2⟩ hb hc)
    · refine ⟨zrw (ω 3 8) (zdp (ω 3 8) z) a m c, ?_, ?_, ?_⟩
      · have := zrw_in hT1 hD3 ha ⟨m1, m2⟩ hc
        omega
      · rw [s1]
        have e1 := (zrw_eq (C := ω 3 8) (D := zdp (ω 3 8) z) (a := a) (b := b) (c := c)).2.1
        have e2 := (zrw_mv (C := ω 3 8) (D := zdp (ω 3 8) z) (a := a) (b := b) (c := c) (m := m)).2.1
        rw [if_neg (by omega), if_pos rfl]
        omega
      · exact hG 1 p1 p2 a m c ha ⟨m1, m2⟩ hc (zrw_lt hT1 hD3 ha ⟨m1, m2⟩ hc)
    · have hz2 : zdp (ω 3 8) z = ω 3 8 := by
        unfold zdp
        rw [if_neg hz]
      refine ⟨zrw (ω 3 8) (zdp (ω 3 8) z) a b m, ?_, ?_, ?_⟩
      · have := zrw_in hT1 hD3 ha hb (c := m) (by omega)
        omega
      · rw [s2]
        have e1 := (zrw_eq (C := ω 3 8) (D := zdp (ω 3 8) z) (a := a) (b := b) (c := c)).2.2
        have e2 := (zrw_mv (C := ω 3 8) (D := zdp (ω 3 8) z) (a := a) (b := b) (c := c) (m := m)).2.2
        rw [if_neg (by omega), if_neg (by omega)]
        omega
      · exact hG 2 p1 p2 a b m ha hb (by omega) (zrw_lt hT1 hD3 ha hb (by omega))
  have hown : ∀ p, 0 ≤ p → p < znp z → σ 89 (1728 * p + zrw (ω 3 8) (zdp (ω 3 8) z) a b c) = zWv ω x y z p a b c := fun p p1 p2 => hG p p1 p2 a b c ha hb hc (zrw_lt hT1 hD3 ha hb hc)
  have hcin := fun p (hp : 0 ≤ p ∧ p < znp z) (K' : ab_V → ab_S → Prop) => r_cornerIn (K := K') hT hF hH (zW_p hp) ha hb hc
  have hzwin : ∀ p m, 0 ≤ p → p < znp z → -1 ≤ zwo ω x y z p a b c m ∧ zwo ω x y z p a b c m ≤ 6000000000 := by
    intro p m p1 p2
    unfold zwo
    rcases zW_p ⟨p1, p2⟩ with rfl | rfl | ⟨rfl, hz⟩
    · have := hwin 0 m b c ⟨p1, p2⟩
      simp only [if_true]
      omega
    · have := hwin 1 a m c ⟨p1, p2⟩
      rw [if_neg (by omega), if_pos rfl]
      omega
    · have := hwin 2 a b m ⟨p1, p2⟩
      rw [if_neg (by omega), if_neg (by omega)]
      omega
  generalize zrw (ω 3 8) (zdp (ω 3 8) z) a b c = r at *
  refine ab_runs mwX1_isRest (by decide +kernel) (Nat.le_of_ble_eq_true rfl) (fun G hG => ?_)
  show G 0 [some (vR 88), some (vI r), none, none, none, none, none] [] _
  have hpl := hH.1
  have key : ∀ (k : Nat) (p : Int) (z3 z4 z5 z6 : Option ab_V), znp z - p < k → 0 ≤ p → p ≤ znp z → (∀ q, 0 ≤ q → q < p → ∀ m, 0 ≤ m → m < ω 3 8 → zwo ω x y z q a b c m ≤ zWv ω x y z q a b c) → G 2 [some (vR 88), some (vI r), some (vI p), z3, z4, z5, z6] [] σ := by
    intro k
    induction k with
    | zero => intro p z3 z4 z5 z6 h1 h2; omega
    | succ k ih =>
      intro p z3 z4 z5 z6 h1 h2 h3 hall
      have key2 : p < znp z → ∀ (k : Nat) (m : Int), ω 3 8 - m < k → 0 ≤ m → m ≤ ω 3 8 → (∀ q, 0 ≤ q → q < m → zwo ω x y z p a b c q ≤ zWv ω x y z p a b c) → G 49 [some (vR 88), some (vI r), some (vI p), some (vI (1728 * p + r - zpl a b c p * σ 92 p)), some (vJ (zWv ω x y z p a b c)), none, some (vI m)] [] σ := by
        intro hp k
        have hw0 := hwin p a b c ⟨h2, hp⟩
        induction k with
        | zero => intro m g1 g2; omega
        | succ k ihm =>
          intro m g1 g2 g3 hm
          apply hG [2, 49] 60
          simp only [cq_lt, cq_le, cq_gt, cq_ge, cq_eq, cq_r1, cq_r2, ab_r32, ab_r64, ab_go, ab_stp, wp_z, ab_in, ab_rok, ab_wsum, ab_prm, ab_ret, ab_sw, ab_cd, ab_tg, ab_cat_i, ab_cat_l, ab_cat_r, ab_cl_n, ab_cl_i, ab_cl_l, ab_cl_r, ab_f2_0, ab_f2_1, ab_f4_0, ab_f4_1, ab_f4_2, ab_f4_3, ab_op_s, ab_b1_s, ab_b2_s, ab_l1_s, ab_l2_s, ab_li_s, ab_o1_s, ab_io_s, ab_lo1_s, ab_iio_s, ab_lio_s, ab_cp5_s, ab_d2_l, ab_d2_i, ab_d2_o, ex_iconst, ex_bipush, ex_sipush, ex_lconst, ex_ldc, ex_ldc_w, ex_ldc2_w, ex_iadd, ex_isub, ex_imul, ex_iand, ex_ior, ex_ixor, ex_ishl, ex_ishr, ex_iushr, ex_idiv, ex_irem, ex_ladd, ex_lsub, ex_lmul, ex_lor, ex_ldiv, ex_lrem, ex_lshl, ex_lcmp, ex_ineg, ex_lneg, ex_i2l, ex_l2i, ex_i2b, ex_dup, ex_pop, ex_dup2, ex_goto, ex_tableswitch, ex_aaload, ex_ireturn, ex_lreturn, ex_return_, List.map_cons, List.map_nil, List.sum_cons, List.sum_nil, List.drop_succ_cons, List.drop_zero, List.take_succ_cons, List.take_zero, List.reverse_cons, List.reverse_nil, List.nil_append, List.cons_append, List.length_cons, List.length_nil, true_and, and_true, cond_false, cond_true, Bool.false_or, Bool.or_false, Bool.or_true, Bool.true_or, true_or, or_true, false_or, or_false, if_true, if_false, reduceIte, ite_true, ite_false, implies_true, true_implies, false_implies, forall_const, not_true_eq_false, not_false_eq_true, Nat.reduceAdd, Nat.reduceMul, Nat.reduceSub, Nat.reduceBEq, Nat.reduceEqDiff, Nat.reduceLeDiff, Nat.reduceLT, Int.reduceAdd, Int.reduceSub, Int.reduceMul, Int.reduceNeg, Int.reduceToNat, Int.reduceLE, Int.reduceLT, Int.reduceEq, Int.reduceNe, Int.reduceNatCast, Nat.add_zero, Nat.zero_add, reduceCtorEq, Int.reduceNatCast', wp_c, wp_g, e2_ifCond, e2_if_icmp, ↓bq_t, ↓bq_f, ab_br, ↓ab_b1_s, ↓ab_b2_s, ↓ab_l1_s, ↓ab_l2_s, ↓ab_li_s, ↓ab_o1_s, ↓ab_io_s, ↓ab_lo1_s, ↓ab_iio_s, ↓ab_lio_s, ↓ab_cp5_s, moX1_isRest, dX1_isRest_0, dX1_isRest_1, dis_2, dX1_isRest_2, dil_2, dX1_isRest_3, dal_0, dX1_isRest_4, dg1_1_34_88, dX1_isRest_7, dX1_isRest_10, dX1_isRest_13, dX1_isRest_14, dX1_isRest_15, dil_1, dX1_isRest_16, dX1_isRest_17, dX1_isRest_18, dX1_isRest_19, dX1_isRest_20, dv1_1_114_88, moX1_cornerIn, dX1_isRest_23, dX1_isRest_24, dg1_1_22_88, dX1_isRest_27, dX1_isRest_28, dX1_isRest_29, dX1_isRest_30, dX1_isRest_31, dis_3, dX1_isRest_32, dX1_isRest_33, dg1_1_11_88, dX1_isRest_36, dX1_isRest_39, dX1_isRest_40, dX1_isRest_41, dX1_isRest_42, dX1_isRest_43, dX1_isRest_44, dls_4, dX1_isRest_46, dX1_isRest_47, dis_6, dX1_isRest_49, dil_6, dX1_isRest_51, dX1_isRest_52, dg1_1_53_88, dX1_isRest_55, dg1_1_76_3, dg1_1_76_12, dX1_isRest_58, dX1_isRest_61, dX1_isRest_62, dX1_isRest_65, dil_3, dX1_isRest_66, dX1_isRest_68, dX1_isRest_69, dX1_isRest_72, dX1_isRest_73, dX1_isRest_74, dX1_isRest_75, dX1_isRest_76, dX1_isRest_77, dll_4, dX1_isRest_79, dX1_isRest_80, dX1_isRest_83, dX1_isRest_84, dX1_isRest_85, dinc_6, dX1_isRest_88, dX1_isRest_91, dinc_2, dX1_isRest_94, dX1_isRest_97, dX1_isRest_98, dal1_89, dal1_92, hF]
          repeat' (with_reducible (first | apply And.intro | intro _))
          all_goals first | omega | skip
          · refine ih (p + 1) _ _ _ _ (by omega) (by omega) (by omega) (fun q q1 q2 m m1 m2 => ?_)
            by_cases e : q = p
            · rw [e]
              exact hm m m1 (by omega)
            · exact hall q q1 (by omega) m m1 m2
          all_goals (obtain ⟨i, i1, i2, i3⟩ := hmv p m h2 hp g2 (by omega); have hz0 := hzwin p m h2 hp)
          all_goals try rw [i2]
          all_goals first | omega | skip
          · rename_i q1 q2
            rw [i2, i3] at q2
            refine ihm (m + 1) (by omega) (by omega) (by omega) (fun q q1 q2' => ?_)
            by_cases e : q = m
            · rw [e]
              exact q2
            · exact hm q q1 (by omega)
          · rename_i q1 q2
            rw [i2, i3] at q2
            refine h 0 (Or.inr ⟨fun y => ?_, rfl⟩)
            exact q2 (hrt.1 y p h2 hp m g2 (by omega))
      apply hG [2, 49] 60
      simp only [cq_lt, cq_le, cq_gt, cq_ge, cq_eq, cq_r1, cq_r2, ab_r32, ab_r64, ab_go, ab_stp, wp_z, ab_in, ab_rok, ab_wsum, ab_prm, ab_ret, ab_sw, ab_cd, ab_tg, ab_cat_i, ab_cat_l, ab_cat_r, ab_cl_n, ab_cl_i, ab_cl_l, ab_cl_r, ab_f2_0, ab_f2_1, ab_f4_0, ab_f4_1, ab_f4_2, ab_f4_3, ab_op_s, ab_b1_s, ab_b2_s, ab_l1_s, ab_l2_s, ab_li_s, ab_o1_s, ab_io_s, ab_lo1_s, ab_iio_s, ab_lio_s, ab_cp5_s, ab_d2_l, ab_d2_i, ab_d2_o, ex_iconst, ex_bipush, ex_sipush, ex_lconst, ex_ldc, ex_ldc_w, ex_ldc2_w, ex_iadd, ex_isub, ex_imul, ex_iand, ex_ior, ex_ixor, ex_ishl, ex_ishr, ex_iushr, ex_idiv, ex_irem, ex_ladd, ex_lsub, ex_lmul, ex_lor, ex_ldiv, ex_lrem, ex_lshl, ex_lcmp, ex_ineg, ex_lneg, ex_i2l, ex_l2i, ex_i2b, ex_dup, ex_pop, ex_dup2, ex_goto, ex_tableswitch, ex_aaload, ex_ireturn, ex_lreturn, ex_return_, List.map_cons, List.map_nil, List.sum_cons, List.sum_nil, List.drop_succ_cons, List.drop_zero, List.take_succ_cons, List.take_zero, List.reverse_cons, List.reverse_nil, List.nil_append, List.cons_append, List.length_cons, List.length_nil, true_and, and_true, cond_false, cond_true, Bool.false_or, Bool.or_false, Bool.or_true, Bool.true_or, true_or, or_true, false_or, or_false, if_true, if_false, reduceIte, ite_true, ite_false, implies_true, true_implies, false_implies, forall_const, not_true_eq_false, not_false_eq_true, Nat.reduceAdd, Nat.reduceMul, Nat.reduceSub, Nat.reduceBEq, Nat.reduceEqDiff, Nat.reduceLeDiff, Nat.reduceLT, Int.reduceAdd, Int.reduceSub, Int.reduceMul, Int.reduceNeg, Int.reduceToNat, Int.reduceLE, Int.reduceLT, Int.reduceEq, Int.reduceNe, Int.reduceNatCast, Nat.add_zero, Nat.zero_add, reduceCtorEq, Int.reduceNatCast', wp_c, wp_g, e2_ifCond, e2_if_icmp, ↓bq_t, ↓bq_f, ab_br, ↓ab_b1_s, ↓ab_b2_s, ↓ab_l1_s, ↓ab_l2_s, ↓ab_li_s, ↓ab_o1_s, ↓ab_io_s, ↓ab_lo1_s, ↓ab_iio_s, ↓ab_lio_s, ↓ab_cp5_s, moX1_isRest, dX1_isRest_0, dX1_isRest_1, dis_2, dX1_isRest_2, dil_2, dX1_isRest_3, dal_0, dX1_isRest_4, dg1_1_34_88, dX1_isRest_7, dX1_isRest_10, dX1_isRest_13, dX1_isRest_14, dX1_isRest_15, dil_1, dX1_isRest_16, dX1_isRest_17, dX1_isRest_18, dX1_isRest_19, dX1_isRest_20, dv1_1_114_88, moX1_cornerIn, dX1_isRest_23, dX1_isRest_24, dg1_1_22_88, dX1_isRest_27, dX1_isRest_28, dX1_isRest_29, dX1_isRest_30, dX1_isRest_31, dis_3, dX1_isRest_32, dX1_isRest_33, dg1_1_11_88, dX1_isRest_36, dX1_isRest_39, dX1_isRest_40, dX1_isRest_41, dX1_isRest_42, dX1_isRest_43, dX1_isRest_44, dls_4, dX1_isRest_46, dX1_isRest_47, dis_6, dX1_isRest_49, dil_6, dX1_isRest_51, dX1_isRest_52, dg1_1_53_88, dX1_isRest_55, dg1_1_76_3, dg1_1_76_12, dX1_isRest_58, dX1_isRest_61, dX1_isRest_62, dX1_isRest_65, dil_3, dX1_isRest_66, dX1_isRest_68, dX1_isRest_69, dX1_isRest_72, dX1_isRest_73, dX1_isRest_74, dX1_isRest_75, dX1_isRest_76, dX1_isRest_77, dll_4, dX1_isRest_79, dX1_isRest_80, dX1_isRest_83, dX1_isRest_84, dX1_isRest_85, dinc_6, dX1_isRest_88, dX1_isRest_91, dinc_2, dX1_isRest_94, dX1_isRest_97, dX1_isRest_98, dal1_89, dal1_92, hpl]
      repeat' (with_reducible (first | apply And.intro | intro _))
      all_goals first | omega | skip
      · refine h 1 (Or.inl ⟨hrt.2 (fun p p1 p2 m m1 m2 => hall p p1 (by omega) m m1 m2), rfl⟩)
      · rename_i q1
        refine hcin p ⟨h2, by omega⟩ _ ?_
        try simp only [cq_lt, cq_le, cq_gt, cq_ge, cq_eq, cq_r1, cq_r2, ab_r32, ab_r64, ab_go, ab_stp, wp_z, ab_in, ab_rok, ab_wsum, ab_prm, ab_ret, ab_sw, ab_cd, ab_tg, ab_cat_i, ab_cat_l, ab_cat_r, ab_cl_n, ab_cl_i, ab_cl_l, ab_cl_r, ab_f2_0, ab_f2_1, ab_f4_0, ab_f4_1, ab_f4_2, ab_f4_3, ab_op_s, ab_b1_s, ab_b2_s, ab_l1_s, ab_l2_s, ab_li_s, ab_o1_s, ab_io_s, ab_lo1_s, ab_iio_s, ab_lio_s, ab_cp5_s, ab_d2_l, ab_d2_i, ab_d2_o, ex_iconst, ex_bipush, ex_sipush, ex_lconst, ex_ldc, ex_ldc_w, ex_ldc2_w, ex_iadd, ex_isub, ex_imul, ex_iand, ex_ior, ex_ixor, ex_ishl, ex_ishr, ex_iushr, ex_idiv, ex_irem, ex_ladd, ex_lsub, ex_lmul, ex_lor, ex_ldiv, ex_lrem, ex_lshl, ex_lcmp, ex_ineg, ex_lneg, ex_i2l, ex_l2i, ex_i2b, ex_dup, ex_pop, ex_dup2, ex_goto, ex_tableswitch, ex_aaload, ex_ireturn, ex_lreturn, ex_return_, List.map_cons, List.map_nil, List.sum_cons, List.sum_nil, List.drop_succ_cons, List.drop_zero, List.take_succ_cons, List.take_zero, List.reverse_cons, List.reverse_nil, List.nil_append, List.cons_append, List.length_cons, List.length_nil, true_and, and_true, cond_false, cond_true, Bool.false_or, Bool.or_false, Bool.or_true, Bool.true_or, true_or, or_true, false_or, or_false, if_true, if_false, reduceIte, ite_true, ite_false, implies_true, true_implies, false_implies, forall_const, not_true_eq_false, not_false_eq_true, Nat.reduceAdd, Nat.reduceMul, Nat.reduceSub, Nat.reduceBEq, Nat.reduceEqDiff, Nat.reduceLeDiff, Nat.reduceLT, Int.reduceAdd, Int.reduceSub, Int.reduceMul, Int.reduceNeg, Int.reduceToNat, Int.reduceLE, Int.reduceLT, Int.reduceEq, Int.reduceNe, Int.reduceNatCast, Nat.add_zero, Nat.zero_add, reduceCtorEq, Int.reduceNatCast', wp_c, wp_g, e2_ifCond, e2_if_icmp, ↓bq_t, ↓bq_f, ab_br, ↓ab_b1_s, ↓ab_b2_s, ↓ab_l1_s, ↓ab_l2_s, ↓ab_li_s, ↓ab_o1_s, ↓ab_io_s, ↓ab_lo1_s, ↓ab_iio_s, ↓ab_lio_s, ↓ab_cp5_s, moX1_isRest, dX1_isRest_0, dX1_isRest_1, dis_2, dX1_isRest_2, dil_2, dX1_isRest_3, dal_0, dX1_isRest_4, dg1_1_34_88, dX1_isRest_7, dX1_isRest_10, dX1_isRest_13, dX1_isRest_14, dX1_isRest_15, dil_1, dX1_isRest_16, dX1_isRest_17, dX1_isRest_18, dX1_isRest_19, dX1_isRest_20, dv1_1_114_88, moX1_cornerIn, dX1_isRest_23, dX1_isRest_24, dg1_1_22_88, dX1_isRest_27, dX1_isRest_28, dX1_isRest_29, dX1_isRest_30, dX1_isRest_31, dis_3, dX1_isRest_32, dX1_isRest_33, dg1_1_11_88, dX1_isRest_36, dX1_isRest_39, dX1_isRest_40, dX1_isRest_41, dX1_isRest_42, dX1_isRest_43, dX1_isRest_44, dls_4, dX1_isRest_46, dX1_isRest_47, dis_6, dX1_isRest_49, dil_6, dX1_isRest_51, dX1_isRest_52, dg1_1_53_88, dX1_isRest_55, dg1_1_76_3, dg1_1_76_12, dX1_isRest_58, dX1_isRest_61, dX1_isRest_62, dX1_isRest_65, dil_3, dX1_isRest_66, dX1_isRest_68, dX1_isRest_69, dX1_isRest_72, dX1_isRest_73, dX1_isRest_74, dX1_isRest_75, dX1_isRest_76, dX1_isRest_77, dll_4, dX1_isRest_79, dX1_isRest_80, dX1_isRest_83, dX1_isRest_84, dX1_isRest_85, dinc_6, dX1_isRest_88, dX1_isRest_91, dinc_2, dX1_isRest_94, dX1_isRest_97, dX1_isRest_98, dal1_89, dal1_92]
        repeat' (with_reducible (first | apply And.intro | intro _))
        all_goals first | omega | skip
        rw [hown p h2 (by omega)]
        exact key2 (by omega) 13 0 (by omega) (by omega) (by omega) (fun q q1 q2 => by omega)
  apply hG [2] 60
  simp only [cq_lt, cq_le, cq_gt, cq_ge, cq_eq, cq_r1, cq_r2, ab_r32, ab_r64, ab_go, ab_stp, wp_z, ab_in, ab_rok, ab_wsum, ab_prm, ab_ret, ab_sw, ab_cd, ab_tg, ab_cat_i, ab_cat_l, ab_cat_r, ab_cl_n, ab_cl_i, ab_cl_l, ab_cl_r, ab_f2_0, ab_f2_1, ab_f4_0, ab_f4_1, ab_f4_2, ab_f4_3, ab_op_s, ab_b1_s, ab_b2_s, ab_l1_s, ab_l2_s, ab_li_s, ab_o1_s, ab_io_s, ab_lo1_s, ab_iio_s, ab_lio_s, ab_cp5_s, ab_d2_l, ab_d2_i, ab_d2_o, ex_iconst, ex_bipush, ex_sipush, ex_lconst, ex_ldc, ex_ldc_w, ex_ldc2_w, ex_iadd, ex_isub, ex_imul, ex_iand, ex_ior, ex_ixor, ex_ishl, ex_ishr, ex_iushr, ex_idiv, ex_irem, ex_ladd, ex_lsub, ex_lmul, ex_lor, ex_ldiv, ex_lrem, ex_lshl, ex_lcmp, ex_ineg, ex_lneg, ex_i2l, ex_l2i, ex_i2b, ex_dup, ex_pop, ex_dup2, ex_goto, ex_tableswitch, ex_aaload, ex_ireturn, ex_lreturn, ex_return_, List.map_cons, List.map_nil, List.sum_cons, List.sum_nil, List.drop_succ_cons, List.drop_zero, List.take_succ_cons, List.take_zero, List.reverse_cons, List.reverse_nil, List.nil_append, List.cons_append, List.length_cons, List.length_nil, true_and, and_true, cond_false, cond_true, Bool.false_or, Bool.or_false, Bool.or_true, Bool.true_or, true_or, or_true, false_or, or_false, if_true, if_false, reduceIte, ite_true, ite_false, implies_true, true_implies, false_implies, forall_const, not_true_eq_false, not_false_eq_true, Nat.reduceAdd, Nat.reduceMul, Nat.reduceSub, Nat.reduceBEq, Nat.reduceEqDiff, Nat.reduceLeDiff, Nat.reduceLT, Int.reduceAdd, Int.reduceSub, Int.reduceMul, Int.reduceNeg, Int.reduceToNat, Int.reduceLE, Int.reduceLT, Int.reduceEq, Int.reduceNe, Int.reduceNatCast, Nat.add_zero, Nat.zero_add, reduceCtorEq, Int.reduceNatCast', wp_c, wp_g, e2_ifCond, e2_if_icmp, ↓bq_t, ↓bq_f, ab_br, ↓ab_b1_s, ↓ab_b2_s, ↓ab_l1_s, ↓ab_l2_s, ↓ab_li_s, ↓ab_o1_s, ↓ab_io_s, ↓ab_lo1_s, ↓ab_iio_s, ↓ab_lio_s, ↓ab_cp5_s, moX1_isRest, dX1_isRest_0, dX1_isRest_1, dis_2, dX1_isRest_2, dil_2, dX1_isRest_3, dal_0, dX1_isRest_4, dg1_1_34_88, dX1_isRest_7, dX1_isRest_10, dX1_isRest_13, dX1_isRest_14, dX1_isRest_15, dil_1, dX1_isRest_16, dX1_isRest_17, dX1_isRest_18, dX1_isRest_19, dX1_isRest_20, dv1_1_114_88, moX1_cornerIn, dX1_isRest_23, dX1_isRest_24, dg1_1_22_88, dX1_isRest_27, dX1_isRest_28, dX1_isRest_29, dX1_isRest_30, dX1_isRest_31, dis_3, dX1_isRest_32, dX1_isRest_33, dg1_1_11_88, dX1_isRest_36, dX1_isRest_39, dX1_isRest_40, dX1_isRest_41, dX1_isRest_42, dX1_isRest_43, dX1_isRest_44, dls_4, dX1_isRest_46, dX1_isRest_47, dis_6, dX1_isRest_49, dil_6, dX1_isRest_51, dX1_isRest_52, dg1_1_53_88, dX1_isRest_55, dg1_1_76_3, dg1_1_76_12, dX1_isRest_58, dX1_isRest_61, dX1_isRest_62, dX1_isRest_65, dil_3, dX1_isRest_66, dX1_isRest_68, dX1_isRest_69, dX1_isRest_72, dX1_isRest_73, dX1_isRest_74, dX1_isRest_75, dX1_isRest_76, dX1_isRest_77, dll_4, dX1_isRest_79, dX1_isRest_80, dX1_isRest_83, dX1_isRest_84, dX1_isRest_85, dinc_6, dX1_isRest_88, dX1_isRest_91, dinc_2, dX1_isRest_94, dX1_isRest_97, dX1_isRest_98, dal1_89, dal1_92]
  exact key 4 0 _ _ _ _ (by omega) (by omega) (by omega) (fun q q1 q2 => by omega)
