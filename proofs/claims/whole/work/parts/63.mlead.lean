-- MODEL: answerTo, leads
set_option maxRecDepth 100000 in
set_option maxHeartbeats 4000000 in
theorem y_ansX {ω τ : ab_S} {x y c : Int} {K : ab_V → ab_S → Prop} (hJ : zJ ω) (hK : zK ω) (hP : zPl ω x y (-1)) (hC : τ 0 1 = ω 3 8) (hGr : yGr ω x y (-1) τ (zrw (ω 3 8) (zdp (ω 3 8) (-1)) (ω 3 8) 0 0)) (hc : 0 ≤ c ∧ c < ω 3 8) (h : K (vI (zAn ω x y 0 c)) τ) : ab_Runs ab_G2 mdX12_answerTo [vR 0, vI c, vI 1] τ K := by
  refine ab_runs mwX12_answerTo (by decide +kernel) (Nat.le_of_ble_eq_true rfl) (fun G hG => ?_)
  show G 0 [some (vR 0), some (vI c), some (vI 1), none, none, none, none] [] _
  have hT1 := hJ.1.1
  have hdp : zdp (ω 3 8) (-1) = 1 := rfl
  rw [hdp] at hGr
  have gl : ∀ m, 0 ≤ m → m < ω 3 8 → (τ 35 (0 + 12 * c + m) = 1 ∨ τ 35 (0 + 12 * c + m) = 0) ∧ (τ 35 (0 + 12 * c + m) = 1 ↔ zLl ω x y 0 c m) ∧ (τ 35 (0 + 12 * c + m) = 1 → τ 37 (0 + 12 * c + m) = zLw ω x y 0 (1 - 0) c m) := fun m m1 m2 => by
    have q := yGr_let hGr (a := c) (b := m) (c := 0) (by omega) (by omega) (by rw [hdp]; omega) (zrw_lt hT1 (by omega) (by omega) (by omega) (by omega))
    simp only [Int.mul_zero] at q
    exact ⟨q.1, q.2.1, fun z => (q.2.2 z).2.1⟩
  have win : ∀ m, -1 ≤ zLw ω x y 0 (1 - 0) c m ∧ zLw ω x y 0 (1 - 0) c m ≤ 6000000000 := fun m => by
    have := zWv_in (p := 1 - 0) (a := zla 0 c m) (b := zlb 0 c m) (c := 0) hJ hK hP (by omega)
    exact ⟨this.1, this.2.1⟩
  have key : ∀ (k : Nat) (m : Nat) (z5 z6 : Option ab_V), ω 3 8 - m < k → (m : Int) ≤ ω 3 8 → G 5 [some (vR 0), some (vI c), some (vI 1), some (vI (zam (zLl ω x y 0 c) (zLw ω x y 0 (1 - 0) c) m)), some (vI m), z5, z6] [] τ := by
    intro k
    induction k with
    | zero => intro m z5 z6 h1 h2; omega
    | succ k ih =>
      intro m z5 z6 h1 h2
      have hzi := zam_in (zLl ω x y 0 c) (zLw ω x y 0 (1 - 0) c) m
      have ih' := ih (m + 1)
      generalize hA : zam (zLl ω x y 0 c) (zLw ω x y 0 (1 - 0) c) m = A at *
      have hAr : A = -1 ∨ (0 ≤ A ∧ A < m) := by
        rcases hzi with e | e
        · exact Or.inl e
        · exact Or.inr e.1
      have yes : (m : Int) < ω 3 8 → zLl ω x y 0 c m → (A = -1 ∨ zLw ω x y 0 (1 - 0) c A < zLw ω x y 0 (1 - 0) c m) → ∀ z5 z6, G 5 [some (vR 0), some (vI c), some (vI 1), some (vI m), some (vI (m + 1)), z5, z6] [] τ := by
        intro hm hq hw z5 z6
        have := ih' z5 z6 (by omega) (by omega)
        rw [zam_yes (by rw [hA]; exact ⟨hq, hw⟩)] at this
        exact this
      have no : (m : Int) < ω 3 8 → ¬ (zLl ω x y 0 c m ∧ (A = -1 ∨ zLw ω x y 0 (1 - 0) c A < zLw ω x y 0 (1 - 0) c m)) → ∀ z5 z6, G 5 [some (vR 0), some (vI c), some (vI 1), some (vI A), some (vI (m + 1)), z5, z6] [] τ := by
        intro hm hq z5 z6
        have := ih' z5 z6 (by omega) (by omega)
        rw [zam_no (by rw [hA]; exact hq), hA] at this
        exact this
      apply hG [5] 60
      simp only [cq_lt, cq_le, cq_gt, cq_ge, cq_eq, cq_r1, cq_r2, ab_r32, ab_r64, ab_go, ab_stp, wp_z, ab_in, ab_rok, ab_wsum, ab_prm, ab_ret, ab_sw, ab_cd, ab_tg, ab_cat_i, ab_cat_l, ab_cat_r, ab_cl_n, ab_cl_i, ab_cl_l, ab_cl_r, ab_f2_0, ab_f2_1, ab_f4_0, ab_f4_1, ab_f4_2, ab_f4_3, ab_op_s, ab_b1_s, ab_b2_s, ab_l1_s, ab_l2_s, ab_li_s, ab_o1_s, ab_io_s, ab_lo1_s, ab_iio_s, ab_lio_s, ab_cp5_s, ab_d2_l, ab_d2_i, ab_d2_o, ex_iconst, ex_bipush, ex_sipush, ex_lconst, ex_ldc, ex_ldc_w, ex_ldc2_w, ex_iadd, ex_isub, ex_imul, ex_iand, ex_ior, ex_ixor, ex_ishl, ex_ishr, ex_iushr, ex_idiv, ex_irem, ex_ladd, ex_lsub, ex_lmul, ex_lor, ex_ldiv, ex_lrem, ex_lshl, ex_lcmp, ex_ineg, ex_lneg, ex_i2l, ex_l2i, ex_i2b, ex_dup, ex_pop, ex_dup2, ex_goto, ex_tableswitch, ex_aaload, ex_ireturn, ex_lreturn, ex_return_, List.map_cons, List.map_nil, List.sum_cons, List.sum_nil, List.drop_succ_cons, List.drop_zero, List.take_succ_cons, List.take_zero, List.reverse_cons, List.reverse_nil, List.nil_append, List.cons_append, List.length_cons, List.length_nil, true_and, and_true, cond_false, cond_true, Bool.false_or, Bool.or_false, Bool.or_true, Bool.true_or, true_or, or_true, false_or, or_false, if_true, if_false, reduceIte, ite_true, ite_false, implies_true, true_implies, false_implies, forall_const, not_true_eq_false, not_false_eq_true, Nat.reduceAdd, Nat.reduceMul, Nat.reduceSub, Nat.reduceBEq, Nat.reduceEqDiff, Nat.reduceLeDiff, Nat.reduceLT, Int.reduceAdd, Int.reduceSub, Int.reduceMul, Int.reduceNeg, Int.reduceToNat, Int.reduceLE, Int.reduceLT, Int.reduceEq, Int.reduceNe, Int.reduceNatCast, Nat.add_zero, Nat.zero_add, reduceCtorEq, Int.reduceNatCast', wp_c, wp_g, e2_ifCond, e2_if_icmp, ↓bq_t, ↓bq_f, ab_br, ↓ab_b1_s, ↓ab_b2_s, ↓ab_l1_s, ↓ab_l2_s, ↓ab_li_s, ↓ab_o1_s, ↓ab_io_s, ↓ab_lo1_s, ↓ab_iio_s, ↓ab_lio_s, ↓ab_cp5_s, moX12_answerTo, dX12_answerTo_0, dX12_answerTo_1, dis_3, dX12_answerTo_2, dX12_answerTo_3, dis_4, dX12_answerTo_5, dil_4, dX12_answerTo_7, dal_0, dX12_answerTo_8, dg2_12_272_0, dX12_answerTo_11, dX12_answerTo_14, dil_2, dX12_answerTo_15, dX12_answerTo_18, dil_1, dX12_answerTo_19, dX12_answerTo_21, dX12_answerTo_22, ds12_454, moX12_rowOf, dX12_answerTo_25, dX12_answerTo_28, dX12_answerTo_30, dX12_answerTo_31, dX12_answerTo_32, dX12_answerTo_35, dis_5, dX12_answerTo_37, dX12_answerTo_38, dg2_12_134_0, dX12_answerTo_41, dil_5, dX12_answerTo_43, dX12_answerTo_44, dX12_answerTo_47, dX12_answerTo_50, dil_3, dX12_answerTo_51, dX12_answerTo_54, dX12_answerTo_56, dX12_answerTo_59, dX12_answerTo_60, dX12_answerTo_63, dX12_answerTo_64, dX12_answerTo_65, dX12_answerTo_66, dX12_answerTo_69, dX12_answerTo_72, dX12_answerTo_73, dX12_answerTo_74, dX12_answerTo_75, dX12_answerTo_78, dis_6, dX12_answerTo_80, dX12_answerTo_81, dX12_answerTo_84, dX12_answerTo_85, dX12_answerTo_88, dX12_answerTo_89, dg2_12_140_0, dX12_answerTo_92, dX12_answerTo_94, dX12_answerTo_95, dX12_answerTo_96, dX12_answerTo_99, dil_6, dX12_answerTo_101, dX12_answerTo_102, dX12_answerTo_103, dX12_answerTo_106, dX12_answerTo_109, dX12_answerTo_110, dg2_12_137_0, dX12_answerTo_113, dX12_answerTo_115, dX12_answerTo_116, dX12_answerTo_117, dX12_answerTo_120, dX12_answerTo_122, dX12_answerTo_123, dX12_answerTo_124, dX12_answerTo_127, dX12_answerTo_129, dX12_answerTo_130, dinc_4, dX12_answerTo_133, dX12_answerTo_136, dX12_answerTo_137, dal2_35, ar2_35, dal2_36, ar2_36, dal2_37, ar2_37, hC]
      repeat' (with_reducible (first | apply And.intro | intro _))
      all_goals first | omega | skip
      · have e : (ω 3 8).toNat = m := by omega
        unfold zAn at h
        rw [e, hA] at h
        exact h
      · rename_i q1
        obtain ⟨g1, g2, g3⟩ := gl m (by omega) (by omega)
        have wm := win m
        refine y_rowOf ?_
        try simp only [cq_lt, cq_le, cq_gt, cq_ge, cq_eq, cq_r1, cq_r2, ab_r32, ab_r64, ab_go, ab_stp, wp_z, ab_in, ab_rok, ab_wsum, ab_prm, ab_ret, ab_sw, ab_cd, ab_tg, ab_cat_i, ab_cat_l, ab_cat_r, ab_cl_n, ab_cl_i, ab_cl_l, ab_cl_r, ab_f2_0, ab_f2_1, ab_f4_0, ab_f4_1, ab_f4_2, ab_f4_3, ab_op_s, ab_b1_s, ab_b2_s, ab_l1_s, ab_l2_s, ab_li_s, ab_o1_s, ab_io_s, ab_lo1_s, ab_iio_s, ab_lio_s, ab_cp5_s, ab_d2_l, ab_d2_i, ab_d2_o, ex_iconst, ex_bipush, ex_sipush, ex_lconst, ex_ldc, ex_ldc_w, ex_ldc2_w, ex_iadd, ex_isub, ex_imul, ex_iand, ex_ior, ex_ixor, ex_ishl, ex_ishr, ex_iushr, ex_idiv, ex_irem, ex_ladd, ex_lsub, ex_lmul, ex_lor, ex_ldiv, ex_lrem, ex_lshl, ex_lcmp, ex_ineg, ex_lneg, ex_i2l, ex_l2i, ex_i2b, ex_dup, ex_pop, ex_dup2, ex_goto, ex_tableswitch, ex_aaload, ex_ireturn, ex_lreturn, ex_return_, List.map_cons, List.map_nil, List.sum_cons, List.sum_nil, List.drop_succ_cons, List.drop_zero, List.take_succ_cons, List.take_zero, List.reverse_cons, List.reverse_nil, List.nil_append, List.cons_append, List.length_cons, List.length_nil, true_and, and_true, cond_false, cond_true, Bool.false_or, Bool.or_false, Bool.or_true, Bool.true_or, true_or, or_true, false_or, or_false, if_true, if_false, reduceIte, ite_true, ite_false, implies_true, true_implies, false_implies, forall_const, not_true_eq_false, not_false_eq_true, Nat.reduceAdd, Nat.reduceMul, Nat.reduceSub, Nat.reduceBEq, Nat.reduceEqDiff, Nat.reduceLeDiff, Nat.reduceLT, Int.reduceAdd, Int.reduceSub, Int.reduceMul, Int.reduceNeg, Int.reduceToNat, Int.reduceLE, Int.reduceLT, Int.reduceEq, Int.reduceNe, Int.reduceNatCast, Nat.add_zero, Nat.zero_add, reduceCtorEq, Int.reduceNatCast', wp_c, wp_g, e2_ifCond, e2_if_icmp, ↓bq_t, ↓bq_f, ab_br, ↓ab_b1_s, ↓ab_b2_s, ↓ab_l1_s, ↓ab_l2_s, ↓ab_li_s, ↓ab_o1_s, ↓ab_io_s, ↓ab_lo1_s, ↓ab_iio_s, ↓ab_lio_s, ↓ab_cp5_s, moX12_answerTo, dX12_answerTo_0, dX12_answerTo_1, dis_3, dX12_answerTo_2, dX12_answerTo_3, dis_4, dX12_answerTo_5, dil_4, dX12_answerTo_7, dal_0, dX12_answerTo_8, dg2_12_272_0, dX12_answerTo_11, dX12_answerTo_14, dil_2, dX12_answerTo_15, dX12_answerTo_18, dil_1, dX12_answerTo_19, dX12_answerTo_21, dX12_answerTo_22, ds12_454, moX12_rowOf, dX12_answerTo_25, dX12_answerTo_28, dX12_answerTo_30, dX12_answerTo_31, dX12_answerTo_32, dX12_answerTo_35, dis_5, dX12_answerTo_37, dX12_answerTo_38, dg2_12_134_0, dX12_answerTo_41, dil_5, dX12_answerTo_43, dX12_answerTo_44, dX12_answerTo_47, dX12_answerTo_50, dil_3, dX12_answerTo_51, dX12_answerTo_54, dX12_answerTo_56, dX12_answerTo_59, dX12_answerTo_60, dX12_answerTo_63, dX12_answerTo_64, dX12_answerTo_65, dX12_answerTo_66, dX12_answerTo_69, dX12_answerTo_72, dX12_answerTo_73, dX12_answerTo_74, dX12_answerTo_75, dX12_answerTo_78, dis_6, dX12_answerTo_80, dX12_answerTo_81, dX12_answerTo_84, dX12_answerTo_85, dX12_answerTo_88, dX12_answerTo_89, dg2_12_140_0, dX12_answerTo_92, dX12_answerTo_94, dX12_answerTo_95, dX12_answerTo_96, dX12_answerTo_99, dil_6, dX12_answerTo_101, dX12_answerTo_102, dX12_answerTo_103, dX12_answerTo_106, dX12_answerTo_109, dX12_answerTo_110, dg2_12_137_0, dX12_answerTo_113, dX12_answerTo_115, dX12_answerTo_116, dX12_answerTo_117, dX12_answerTo_120, dX12_answerTo_122, dX12_answerTo_123, dX12_answerTo_124, dX12_answerTo_127, dX12_answerTo_129, dX12_answerTo_130, dinc_4, dX12_answerTo_133, dX12_answerTo_136, dX12_answerTo_137, dal2_35, ar2_35, dal2_36, ar2_36, dal2_37, ar2_37]
        repeat' (with_reducible (first | apply And.intro | intro _))
        all_goals first | omega | skip
        · rename_i q2 q3
          obtain ⟨f1, f2, f3⟩ := gl A (by omega) (by omega)
          have wa := win A
          have hAl : zLl ω x y 0 c A := by
            rcases hzi with e | e
            · omega
            · exact e.2
          have f4 := f3 (f2.2 hAl)
          have g4 := g3 (by omega)
          refine y_rowOf ?_
          try simp only [cq_lt, cq_le, cq_gt, cq_ge, cq_eq, cq_r1, cq_r2, ab_r32, ab_r64, ab_go, ab_stp, wp_z, ab_in, ab_rok, ab_wsum, ab_prm, ab_ret, ab_sw, ab_cd, ab_tg, ab_cat_i, ab_cat_l, ab_cat_r, ab_cl_n, ab_cl_i, ab_cl_l, ab_cl_r, ab_f2_0, ab_f2_1, ab_f4_0, ab_f4_1, ab_f4_2, ab_f4_3, ab_op_s, ab_b1_s, ab_b2_s, ab_l1_s, ab_l2_s, ab_li_s, ab_o1_s, ab_io_s, ab_lo1_s, ab_iio_s, ab_lio_s, ab_cp5_s, ab_d2_l, ab_d2_i, ab_d2_o, ex_iconst, ex_bipush, ex_sipush, ex_lconst, ex_ldc, ex_ldc_w, ex_ldc2_w, ex_iadd, ex_isub, ex_imul, ex_iand, ex_ior, ex_ixor, ex_ishl, ex_ishr, ex_iushr, ex_idiv, ex_irem, ex_ladd, ex_lsub, ex_lmul, ex_lor, ex_ldiv, ex_lrem, ex_lshl, ex_lcmp, ex_ineg, ex_lneg, ex_i2l, ex_l2i, ex_i2b, ex_dup, ex_pop, ex_dup2, ex_goto, ex_tableswitch, ex_aaload, ex_ireturn, ex_lreturn, ex_return_, List.map_cons, List.map_nil, List.sum_cons, List.sum_nil, List.drop_succ_cons, List.drop_zero, List.take_succ_cons, List.take_zero, List.reverse_cons, List.reverse_nil, List.nil_append, List.cons_append, List.length_cons, List.length_nil, true_and, and_true, cond_false, cond_true, Bool.false_or, Bool.or_false, Bool.or_true, Bool.true_or, true_or, or_true, false_or, or_false, if_true, if_false, reduceIte, ite_true, ite_false, implies_true, true_implies, false_implies, forall_const, not_true_eq_false, not_false_eq_true, Nat.reduceAdd, Nat.reduceMul, Nat.reduceSub, Nat.reduceBEq, Nat.reduceEqDiff, Nat.reduceLeDiff, Nat.reduceLT, Int.reduceAdd, Int.reduceSub, Int.reduceMul, Int.reduceNeg, Int.reduceToNat, Int.reduceLE, Int.reduceLT, Int.reduceEq, Int.reduceNe, Int.reduceNatCast, Nat.add_zero, Nat.zero_add, reduceCtorEq, Int.reduceNatCast', wp_c, wp_g, e2_ifCond, e2_if_icmp, ↓bq_t, ↓bq_f, ab_br, ↓ab_b1_s, ↓ab_b2_s, ↓ab_l1_s, ↓ab_l2_s, ↓ab_li_s, ↓ab_o1_s, ↓ab_io_s, ↓ab_lo1_s, ↓ab_iio_s, ↓ab_lio_s, ↓ab_cp5_s, moX12_answerTo, dX12_answerTo_0, dX12_answerTo_1, dis_3, dX12_answerTo_2, dX12_answerTo_3, dis_4, dX12_answerTo_5, dil_4, dX12_answerTo_7, dal_0, dX12_answerTo_8, dg2_12_272_0, dX12_answerTo_11, dX12_answerTo_14, dil_2, dX12_answerTo_15, dX12_answerTo_18, dil_1, dX12_answerTo_19, dX12_answerTo_21, dX12_answerTo_22, ds12_454, moX12_rowOf, dX12_answerTo_25, dX12_answerTo_28, dX12_answerTo_30, dX12_answerTo_31, dX12_answerTo_32, dX12_answerTo_35, dis_5, dX12_answerTo_37, dX12_answerTo_38, dg2_12_134_0, dX12_answerTo_41, dil_5, dX12_answerTo_43, dX12_answerTo_44, dX12_answerTo_47, dX12_answerTo_50, dil_3, dX12_answerTo_51, dX12_answerTo_54, dX12_answerTo_56, dX12_answerTo_59, dX12_answerTo_60, dX12_answerTo_63, dX12_answerTo_64, dX12_answerTo_65, dX12_answerTo_66, dX12_answerTo_69, dX12_answerTo_72, dX12_answerTo_73, dX12_answerTo_74, dX12_answerTo_75, dX12_answerTo_78, dis_6, dX12_answerTo_80, dX12_answerTo_81, dX12_answerTo_84, dX12_answerTo_85, dX12_answerTo_88, dX12_answerTo_89, dg2_12_140_0, dX12_answerTo_92, dX12_answerTo_94, dX12_answerTo_95, dX12_answerTo_96, dX12_answerTo_99, dil_6, dX12_answerTo_101, dX12_answerTo_102, dX12_answerTo_103, dX12_answerTo_106, dX12_answerTo_109, dX12_answerTo_110, dg2_12_137_0, dX12_answerTo_113, dX12_answerTo_115, dX12_answerTo_116, dX12_answerTo_117, dX12_answerTo_120, dX12_answerTo_122, dX12_answerTo_123, dX12_answerTo_124, dX12_answerTo_127, dX12_answerTo_129, dX12_answerTo_130, dinc_4, dX12_answerTo_133, dX12_answerTo_136, dX12_answerTo_137, dal2_35, ar2_35, dal2_36, ar2_36, dal2_37, ar2_37]
          repeat' (with_reducible (first | apply And.intro | intro _))
          all_goals first | omega | skip
          · refine no (by omega) (fun z => ?_) _ _
            rcases z.2 with e | e <;> omega
          · exact yes (by omega) (g2.1 (by omega)) (Or.inr (by omega)) _ _
        · rename_i q2 q3
          exact yes (by omega) (g2.1 (by omega)) (Or.inl (by omega)) _ _
        · rename_i q2
          refine no (by omega) (fun z => ?_) _ _
          have := g2.2 z.1
          omega
  apply hG [5] 60
  simp only [cq_lt, cq_le, cq_gt, cq_ge, cq_eq, cq_r1, cq_r2, ab_r32, ab_r64, ab_go, ab_stp, wp_z, ab_in, ab_rok, ab_wsum, ab_prm, ab_ret, ab_sw, ab_cd, ab_tg, ab_cat_i, ab_cat_l, ab_cat_r, ab_cl_n, ab_cl_i, ab_cl_l, ab_cl_r, ab_f2_0, ab_f2_1, ab_f4_0, ab_f4_1, ab_f4_2, ab_f4_3, ab_op_s, ab_b1_s, ab_b2_s, ab_l1_s, ab_l2_s, ab_li_s, ab_o1_s, ab_io_s, ab_lo1_s, ab_iio_s, ab_lio_s, ab_cp5_s, ab_d2_l, ab_d2_i, ab_d2_o, ex_iconst, ex_bipush, ex_sipush, ex_lconst, ex_ldc, ex_ldc_w, ex_ldc2_w, ex_iadd, ex_isub, ex_imul, ex_iand, ex_ior, ex_ixor, ex_ishl, ex_ishr, ex_iushr, ex_idiv, ex_irem, ex_ladd, ex_lsub, ex_lmul, ex_lor, ex_ldiv, ex_lrem, ex_lshl, ex_lcmp, ex_ineg, ex_lneg, ex_i2l, ex_l2i, ex_i2b, ex_dup, ex_pop, ex_dup2, ex_goto, ex_tableswitch, ex_aaload, ex_ireturn, ex_lreturn, ex_return_, List.map_cons, List.map_nil, List.sum_cons, List.sum_nil, List.drop_succ_cons, List.drop_zero, List.take_succ_cons, List.take_zero, List.reverse_cons, List.reverse_nil, List.nil_append, List.cons_append, List.length_cons, List.length_nil, true_and, and_true, cond_false, cond_true, Bool.false_or, Bool.or_false, Bool.or_true, Bool.true_or, true_or, or_true, false_or, or_false, if_true, if_false, reduceIte, ite_true, ite_false, implies_true, true_implies, false_implies, forall_const, not_true_eq_false, not_false_eq_true, Nat.reduceAdd, Nat.reduceMul, Nat.reduceSub, Nat.reduceBEq, Nat.reduceEqDiff, Nat.reduceLeDiff, Nat.reduceLT, Int.reduceAdd, Int.reduceSub, Int.reduceMul, Int.reduceNeg, Int.reduceToNat, Int.reduceLE, Int.reduceLT, Int.reduceEq, Int.reduceNe, Int.reduceNatCast, Nat.add_zero, Nat.zero_add, reduceCtorEq, Int.reduceNatCast', wp_c, wp_g, e2_ifCond, e2_if_icmp, ↓bq_t, ↓bq_f, ab_br, ↓ab_b1_s, ↓ab_b2_s, ↓ab_l1_s, ↓ab_l2_s, ↓ab_li_s, ↓ab_o1_s, ↓ab_io_s, ↓ab_lo1_s, ↓ab_iio_s, ↓ab_lio_s, ↓ab_cp5_s, moX12_answerTo, dX12_answerTo_0, dX12_answerTo_1, dis_3, dX12_answerTo_2, dX12_answerTo_3, dis_4, dX12_answerTo_5, dil_4, dX12_answerTo_7, dal_0, dX12_answerTo_8, dg2_12_272_0, dX12_answerTo_11, dX12_answerTo_14, dil_2, dX12_answerTo_15, dX12_answerTo_18, dil_1, dX12_answerTo_19, dX12_answerTo_21, dX12_answerTo_22, ds12_454, moX12_rowOf, dX12_answerTo_25, dX12_answerTo_28, dX12_answerTo_30, dX12_answerTo_31, dX12_answerTo_32, dX12_answerTo_35, dis_5, dX12_answerTo_37, dX12_answerTo_38, dg2_12_134_0, dX12_answerTo_41, dil_5, dX12_answerTo_43, dX12_answerTo_44, dX12_answerTo_47, dX12_answerTo_50, dil_3, dX12_answerTo_51, dX12_answerTo_54, dX12_answerTo_56, dX12_answerTo_59, dX12_answerTo_60, dX12_answerTo_63, dX12_answerTo_64, dX12_answerTo_65, dX12_answerTo_66, dX12_answerTo_69, dX12_answerTo_72, dX12_answerTo_73, dX12_answerTo_74, dX12_answerTo_75, dX12_answerTo_78, dis_6, dX12_answerTo_80, dX12_answerTo_81, dX12_answerTo_84, dX12_answerTo_85, dX12_answerTo_88, dX12_answerTo_89, dg2_12_140_0, dX12_answerTo_92, dX12_answerTo_94, dX12_answerTo_95, dX12_answerTo_96, dX12_answerTo_99, dil_6, dX12_answerTo_101, dX12_answerTo_102, dX12_answerTo_103, dX12_answerTo_106, dX12_answerTo_109, dX12_answerTo_110, dg2_12_137_0, dX12_answerTo_113, dX12_answerTo_115, dX12_answerTo_116, dX12_answerTo_117, dX12_answerTo_120, dX12_answerTo_122, dX12_answerTo_123, dX12_answerTo_124, dX12_answerTo_127, dX12_answerTo_129, dX12_answerTo_130, dinc_4, dX12_answerTo_133, dX12_answerTo_136, dX12_answerTo_137, dal2_35, ar2_35, dal2_36, ar2_36, dal2_37, ar2_37]
  exact key 13 0 _ _ (by omega) (by omega)
set_option maxRecDepth 100000 in
set_option maxHeartbeats 4000000 in
theorem y_leadsX {ω τ : ab_S} {x y : Int} {K : ab_V → ab_S → Prop} (hJ : zJ ω) (hK : zK ω) (hP : zPl ω x y (-1)) (hC : τ 0 1 = ω 3 8) (hGr : yGr ω x y (-1) τ (zrw (ω 3 8) (zdp (ω 3 8) (-1)) (ω 3 8) 0 0)) (h : ∀ υ v, (∀ o, o ≠ 0 → υ o = τ o) → (∀ k, k ≠ 75 → k ≠ 76 → υ 0 k = τ 0 k) → υ 0 75 = zLc ω x y 0 → (zLc ω x y 0 ≠ -1 → υ 0 76 = zAn ω x y 0 (zLc ω x y 0)) → ((zLc ω x y 0 = -1 ∧ v = 0) ∨ (zLc ω x y 0 ≠ -1 ∧ v = 1)) → K (vI v) υ) : ab_Runs ab_G2 mdX12_leads [vR 0, vI 1] τ K := by
  refine ab_runs mwX12_leads (by decide +kernel) (Nat.le_of_ble_eq_true rfl) (fun G hG => ?_)
  show G 0 [some (vR 0), some (vI 1), none, none, none, none, none, none] [] _
  have hT1 := hJ.1.1
  have hdp : zdp (ω 3 8) (-1) = 1 := rfl
  have hGr' := hGr
  rw [hdp] at hGr'
  have wl : ∀ c m, 0 ≤ c → c < ω 3 8 → 0 ≤ m → m < ω 3 8 → zLl ω x y 0 c m → τ 36 (0 + 12 * c + m) = zLw ω x y 0 0 c m := fun c m c1 c2 m1 m2 hl => by
    have q := yGr_let hGr' (a := c) (b := m) (c := 0) (by omega) (by omega) (by rw [hdp]; omega) (zrw_lt hT1 (by omega) (by omega) (by omega) (by omega))
    simp only [Int.mul_zero] at q
    exact (q.2.2 (q.2.1.2 hl)).1
  have win : ∀ c m, -1 ≤ zLw ω x y 0 0 c m ∧ zLw ω x y 0 0 c m ≤ 6000000000 := fun c m => by
    have := zWv_in (p := 0) (a := zla 0 c m) (b := zlb 0 c m) (c := 0) hJ hK hP (by omega)
    exact ⟨this.1, this.2.1⟩
  have anin : ∀ c, zAn ω x y 0 c = -1 ∨ ((0 ≤ zAn ω x y 0 c ∧ zAn ω x y 0 c < ω 3 8) ∧ zLl ω x y 0 c (zAn ω x y 0 c)) := fun c => by
    rcases zam_in (zLl ω x y 0 c) (zLw ω x y 0 (1 - 0) c) (ω 3 8).toNat with e | e
    · exact Or.inl e
    · right
      have := e.1
      refine ⟨?_, e.2⟩
      unfold zAn
      omega
  have key : ∀ (k : Nat) (m : Nat) (mo : Int) (υ : ab_S) (z5 z6 z7 : Option ab_V), ω 3 8 - m < k → (m : Int) ≤ ω 3 8 → (∀ o, o ≠ 0 → υ o = τ o) → (∀ k, k ≠ 75 → k ≠ 76 → υ 0 k = τ 0 k) → υ 0 75 = zam (fun c => zAn ω x y 0 c ≠ -1) (fun c => zLw ω x y 0 0 c (zAn ω x y 0 c)) m → (υ 0 75 ≠ -1 → υ 0 76 = zAn ω x y 0 (υ 0 75) ∧ mo = zLw ω x y 0 0 (υ 0 75) (zAn ω x y 0 (υ 0 75))) → (-1 ≤ mo ∧ mo ≤ 6000000000) → G 10 [some (vR 0), some (vI 1), some (vJ mo), none, some (vI m), z5, z6, z7] [] υ := by
    intro k
    induction k with
    | zero => intro m mo υ z5 z6 z7 h1 h2; omega
    | succ k ih =>
      intro m mo υ z5 z6 z7 h1 h2 u1 u2 u3 u4 u5
      have hzi := zam_in (fun c => zAn ω x y 0 c ≠ -1) (fun c => zLw ω x y 0 0 c (zAn ω x y 0 c)) m
      have hCu : υ 0 1 = ω 3 8 := by
        rw [u2 1 (by decide) (by decide)]
        exact hC
      have hGu : yGr ω x y (-1) υ (zrw (ω 3 8) (zdp (ω 3 8) (-1)) (ω 3 8) 0 0) := by
        unfold yGr
        rw [u1 35 (by decide), u1 36 (by decide), u1 37 (by decide), u1 38 (by decide)]
        exact hGr
      have hA1 : -1 ≤ υ 0 75 ∧ υ 0 75 < 12 := by
        rw [u3]
        rcases hzi with e | e <;> omega
      have no : (m : Int) < ω 3 8 → ¬ (zAn ω x y 0 m ≠ -1 ∧ (υ 0 75 = -1 ∨ zLw ω x y 0 0 (υ 0 75) (zAn ω x y 0 (υ 0 75)) < zLw ω x y 0 0 m (zAn ω x y 0 m))) → ∀ z5 z6 z7, G 10 [some (vR 0), some (vI 1), some (vJ mo), none, some (vI (m + 1)), z5, z6, z7] [] υ := by
        intro hm hq z5 z6 z7
        refine ih (m + 1) mo υ z5 z6 z7 (by omega) (by omega) u1 u2 ?_ u4 u5
        rw [zam_no (by rw [← u3]; exact hq)]
        exact u3
      have yes : (m : Int) < ω 3 8 → zAn ω x y 0 m ≠ -1 → (υ 0 75 = -1 ∨ zLw ω x y 0 0 (υ 0 75) (zAn ω x y 0 (υ 0 75)) < zLw ω x y 0 0 m (zAn ω x y 0 m)) → ∀ z5 z6 z7, G 10 [some (vR 0), some (vI 1), some (vJ (zLw ω x y 0 0 m (zAn ω x y 0 m))), none, some (vI (m + 1)), z5, z6, z7] [] (ab_up (ab_up υ 0 75 m) 0 76 (zAn ω x y 0 m)) := by
        intro hm hq hw z5 z6 z7
        refine ih (m + 1) _ _ z5 z6 z7 (by omega) (by omega) (fun o o1 => by rw [ab_up_o o o1, ab_up_o o o1]; exact u1 o o1) (fun k k1 k2 => ?_) ?_ (fun _ => ⟨rfl, rfl⟩) (win _ _)
        · show (if k = 76 then _ else if k = 75 then _ else υ 0 k) = _
          rw [if_neg k2, if_neg k1]
          exact u2 k k1 k2
        · show (m : Int) = _
          rw [zam_yes (by rw [← u3]; exact ⟨hq, hw⟩)]
      apply hG [10, 26] 60
      simp only [cq_lt, cq_le, cq_gt, cq_ge, cq_eq, cq_r1, cq_r2, ab_r32, ab_r64, ab_go, ab_stp, wp_z, ab_in, ab_rok, ab_wsum, ab_prm, ab_ret, ab_sw, ab_cd, ab_tg, ab_cat_i, ab_cat_l, ab_cat_r, ab_cl_n, ab_cl_i, ab_cl_l, ab_cl_r, ab_f2_0, ab_f2_1, ab_f4_0, ab_f4_1, ab_f4_2, ab_f4_3, ab_op_s, ab_b1_s, ab_b2_s, ab_l1_s, ab_l2_s, ab_li_s, ab_o1_s, ab_io_s, ab_lo1_s, ab_iio_s, ab_lio_s, ab_cp5_s, ab_d2_l, ab_d2_i, ab_d2_o, ex_iconst, ex_bipush, ex_sipush, ex_lconst, ex_ldc, ex_ldc_w, ex_ldc2_w, ex_iadd, ex_isub, ex_imul, ex_iand, ex_ior, ex_ixor, ex_ishl, ex_ishr, ex_iushr, ex_idiv, ex_irem, ex_ladd, ex_lsub, ex_lmul, ex_lor, ex_ldiv, ex_lrem, ex_lshl, ex_lcmp, ex_ineg, ex_lneg, ex_i2l, ex_l2i, ex_i2b, ex_dup, ex_pop, ex_dup2, ex_goto, ex_tableswitch, ex_aaload, ex_ireturn, ex_lreturn, ex_return_, List.map_cons, List.map_nil, List.sum_cons, List.sum_nil, List.drop_succ_cons, List.drop_zero, List.take_succ_cons, List.take_zero, List.reverse_cons, List.reverse_nil, List.nil_append, List.cons_append, List.length_cons, List.length_nil, true_and, and_true, cond_false, cond_true, Bool.false_or, Bool.or_false, Bool.or_true, Bool.true_or, true_or, or_true, false_or, or_false, if_true, if_false, reduceIte, ite_true, ite_false, implies_true, true_implies, false_implies, forall_const, not_true_eq_false, not_false_eq_true, Nat.reduceAdd, Nat.reduceMul, Nat.reduceSub, Nat.reduceBEq, Nat.reduceEqDiff, Nat.reduceLeDiff, Nat.reduceLT, Int.reduceAdd, Int.reduceSub, Int.reduceMul, Int.reduceNeg, Int.reduceToNat, Int.reduceLE, Int.reduceLT, Int.reduceEq, Int.reduceNe, Int.reduceNatCast, Nat.add_zero, Nat.zero_add, reduceCtorEq, Int.reduceNatCast', wp_c, wp_g, e2_ifCond, e2_if_icmp, ↓bq_t, ↓bq_f, ab_br, ↓ab_b1_s, ↓ab_b2_s, ↓ab_l1_s, ↓ab_l2_s, ↓ab_li_s, ↓ab_o1_s, ↓ab_io_s, ↓ab_lo1_s, ↓ab_iio_s, ↓ab_lio_s, ↓ab_cp5_s, moX12_leads, dX12_leads_0, dal_0, dX12_leads_1, dX12_leads_2, dp2_12_482_0, dX12_leads_5, dX12_leads_6, dls_2, dX12_leads_7, dX12_leads_8, dis_4, dX12_leads_10, dil_4, dX12_leads_12, dX12_leads_13, dg2_12_272_0, dX12_leads_16, dX12_leads_19, dX12_leads_20, dX12_leads_22, dil_1, dX12_leads_23, dv2_12_485_0, moX12_answerTo, dX12_leads_26, dis_5, dX12_leads_28, dil_5, dX12_leads_30, dX12_leads_33, dX12_leads_36, dX12_leads_37, dX12_leads_40, dX12_leads_41, dg2_12_137_0, dX12_leads_44, dX12_leads_46, dX12_leads_48, dX12_leads_49, ds12_454, moX12_rowOf, dX12_leads_52, dX12_leads_53, dX12_leads_56, dX12_leads_57, dg2_12_140_0, dX12_leads_60, dX12_leads_62, dX12_leads_64, dX12_leads_65, dX12_leads_68, dX12_leads_69, dls_6, dX12_leads_71, dX12_leads_72, dg2_12_482_0, dX12_leads_75, dX12_leads_78, dll_6, dX12_leads_80, dll_2, dX12_leads_81, dX12_leads_82, dX12_leads_85, dX12_leads_88, dX12_leads_90, dX12_leads_91, dX12_leads_92, dX12_leads_94, dX12_leads_97, dX12_leads_98, dX12_leads_100, dp2_12_489_0, dX12_leads_103, dinc_4, dX12_leads_106, dX12_leads_109, dX12_leads_110, dX12_leads_113, dX12_leads_116, dX12_leads_117, dX12_leads_120, dX12_leads_121, dal2_36, ar2_36, dal2_37, ar2_37, hCu]
      repeat' (with_reducible (first | apply And.intro | intro _))
      all_goals first | omega | skip
      · rename_i q1 q2
        have e : (ω 3 8).toNat = m := by omega
        have e2 : υ 0 75 = zLc ω x y 0 := by
          unfold zLc
          rw [e]
          exact u3
        exact h υ 0 u1 u2 e2 (fun z => by rw [← e2]; exact (u4 (by rw [e2]; exact z)).1) (Or.inl ⟨by omega, rfl⟩)
      · rename_i q1 q2
        have e : (ω 3 8).toNat = m := by omega
        have e2 : υ 0 75 = zLc ω x y 0 := by
          unfold zLc
          rw [e]
          exact u3
        exact h υ 1 u1 u2 e2 (fun z => by rw [← e2]; exact (u4 (by rw [e2]; exact z)).1) (Or.inr ⟨by omega, rfl⟩)
      · rename_i q1
        refine y_ansX hJ hK hP hCu hGu ⟨by omega, by omega⟩ ?_
        have ha := anin m
        have wm := win m (zAn ω x y 0 m)
        apply hG [10] 60
        simp only [cq_lt, cq_le, cq_gt, cq_ge, cq_eq, cq_r1, cq_r2, ab_r32, ab_r64, ab_go, ab_stp, wp_z, ab_in, ab_rok, ab_wsum, ab_prm, ab_ret, ab_sw, ab_cd, ab_tg, ab_cat_i, ab_cat_l, ab_cat_r, ab_cl_n, ab_cl_i, ab_cl_l, ab_cl_r, ab_f2_0, ab_f2_1, ab_f4_0, ab_f4_1, ab_f4_2, ab_f4_3, ab_op_s, ab_b1_s, ab_b2_s, ab_l1_s, ab_l2_s, ab_li_s, ab_o1_s, ab_io_s, ab_lo1_s, ab_iio_s, ab_lio_s, ab_cp5_s, ab_d2_l, ab_d2_i, ab_d2_o, ex_iconst, ex_bipush, ex_sipush, ex_lconst, ex_ldc, ex_ldc_w, ex_ldc2_w, ex_iadd, ex_isub, ex_imul, ex_iand, ex_ior, ex_ixor, ex_ishl, ex_ishr, ex_iushr, ex_idiv, ex_irem, ex_ladd, ex_lsub, ex_lmul, ex_lor, ex_ldiv, ex_lrem, ex_lshl, ex_lcmp, ex_ineg, ex_lneg, ex_i2l, ex_l2i, ex_i2b, ex_dup, ex_pop, ex_dup2, ex_goto, ex_tableswitch, ex_aaload, ex_ireturn, ex_lreturn, ex_return_, List.map_cons, List.map_nil, List.sum_cons, List.sum_nil, List.drop_succ_cons, List.drop_zero, List.take_succ_cons, List.take_zero, List.reverse_cons, List.reverse_nil, List.nil_append, List.cons_append, List.length_cons, List.length_nil, true_and, and_true, cond_false, cond_true, Bool.false_or, Bool.or_false, Bool.or_true, Bool.true_or, true_or, or_true, false_or, or_false, if_true, if_false, reduceIte, ite_true, ite_false, implies_true, true_implies, false_implies, forall_const, not_true_eq_false, not_false_eq_true, Nat.reduceAdd, Nat.reduceMul, Nat.reduceSub, Nat.reduceBEq, Nat.reduceEqDiff, Nat.reduceLeDiff, Nat.reduceLT, Int.reduceAdd, Int.reduceSub, Int.reduceMul, Int.reduceNeg, Int.reduceToNat, Int.reduceLE, Int.reduceLT, Int.reduceEq, Int.reduceNe, Int.reduceNatCast, Nat.add_zero, Nat.zero_add, reduceCtorEq, Int.reduceNatCast', wp_c, wp_g, e2_ifCond, e2_if_icmp, ↓bq_t, ↓bq_f, ab_br, ↓ab_b1_s, ↓ab_b2_s, ↓ab_l1_s, ↓ab_l2_s, ↓ab_li_s, ↓ab_o1_s, ↓ab_io_s, ↓ab_lo1_s, ↓ab_iio_s, ↓ab_lio_s, ↓ab_cp5_s, moX12_leads, dX12_leads_0, dal_0, dX12_leads_1, dX12_leads_2, dp2_12_482_0, dX12_leads_5, dX12_leads_6, dls_2, dX12_leads_7, dX12_leads_8, dis_4, dX12_leads_10, dil_4, dX12_leads_12, dX12_leads_13, dg2_12_272_0, dX12_leads_16, dX12_leads_19, dX12_leads_20, dX12_leads_22, dil_1, dX12_leads_23, dv2_12_485_0, moX12_answerTo, dX12_leads_26, dis_5, dX12_leads_28, dil_5, dX12_leads_30, dX12_leads_33, dX12_leads_36, dX12_leads_37, dX12_leads_40, dX12_leads_41, dg2_12_137_0, dX12_leads_44, dX12_leads_46, dX12_leads_48, dX12_leads_49, ds12_454, moX12_rowOf, dX12_leads_52, dX12_leads_53, dX12_leads_56, dX12_leads_57, dg2_12_140_0, dX12_leads_60, dX12_leads_62, dX12_leads_64, dX12_leads_65, dX12_leads_68, dX12_leads_69, dls_6, dX12_leads_71, dX12_leads_72, dg2_12_482_0, dX12_leads_75, dX12_leads_78, dll_6, dX12_leads_80, dll_2, dX12_leads_81, dX12_leads_82, dX12_leads_85, dX12_leads_88, dX12_leads_90, dX12_leads_91, dX12_leads_92, dX12_leads_94, dX12_leads_97, dX12_leads_98, dX12_leads_100, dp2_12_489_0, dX12_leads_103, dinc_4, dX12_leads_106, dX12_leads_109, dX12_leads_110, dX12_leads_113, dX12_leads_116, dX12_leads_117, dX12_leads_120, dX12_leads_121, dal2_36, ar2_36, dal2_37, ar2_37]
        repeat' (with_reducible (first | apply And.intro | intro _))
        all_goals first | omega | skip
        · rename_i q2
          have hb : (0 ≤ zAn ω x y 0 m ∧ zAn ω x y 0 m < ω 3 8) ∧ zLl ω x y 0 m (zAn ω x y 0 m) := by
            rcases ha with e | e
            · omega
            · exact e
          have ww := wl m _ (by omega) (by omega) hb.1.1 hb.1.2 hb.2
          refine y_rowOf ?_
          rw [← u1 36 (by decide)] at ww
          try simp only [cq_lt, cq_le, cq_gt, cq_ge, cq_eq, cq_r1, cq_r2, ab_r32, ab_r64, ab_go, ab_stp, wp_z, ab_in, ab_rok, ab_wsum, ab_prm, ab_ret, ab_sw, ab_cd, ab_tg, ab_cat_i, ab_cat_l, ab_cat_r, ab_cl_n, ab_cl_i, ab_cl_l, ab_cl_r, ab_f2_0, ab_f2_1, ab_f4_0, ab_f4_1, ab_f4_2, ab_f4_3, ab_op_s, ab_b1_s, ab_b2_s, ab_l1_s, ab_l2_s, ab_li_s, ab_o1_s, ab_io_s, ab_lo1_s, ab_iio_s, ab_lio_s, ab_cp5_s, ab_d2_l, ab_d2_i, ab_d2_o, ex_iconst, ex_bipush, ex_sipush, ex_lconst, ex_ldc, ex_ldc_w, ex_ldc2_w, ex_iadd, ex_isub, ex_imul, ex_iand, ex_ior, ex_ixor, ex_ishl, ex_ishr, ex_iushr, ex_idiv, ex_irem, ex_ladd, ex_lsub, ex_lmul, ex_lor, ex_ldiv, ex_lrem, ex_lshl, ex_lcmp, ex_ineg, ex_lneg, ex_i2l, ex_l2i, ex_i2b, ex_dup, ex_pop, ex_dup2, ex_goto, ex_tableswitch, ex_aaload, ex_ireturn, ex_lreturn, ex_return_, List.map_cons, List.map_nil, List.sum_cons, List.sum_nil, List.drop_succ_cons, List.drop_zero, List.take_succ_cons, List.take_zero, List.reverse_cons, List.reverse_nil, List.nil_append, List.cons_append, List.length_cons, List.length_nil, true_and, and_true, cond_false, cond_true, Bool.false_or, Bool.or_false, Bool.or_true, Bool.true_or, true_or, or_true, false_or, or_false, if_true, if_false, reduceIte, ite_true, ite_false, implies_true, true_implies, false_implies, forall_const, not_true_eq_false, not_false_eq_true, Nat.reduceAdd, Nat.reduceMul, Nat.reduceSub, Nat.reduceBEq, Nat.reduceEqDiff, Nat.reduceLeDiff, Nat.reduceLT, Int.reduceAdd, Int.reduceSub, Int.reduceMul, Int.reduceNeg, Int.reduceToNat, Int.reduceLE, Int.reduceLT, Int.reduceEq, Int.reduceNe, Int.reduceNatCast, Nat.add_zero, Nat.zero_add, reduceCtorEq, Int.reduceNatCast', wp_c, wp_g, e2_ifCond, e2_if_icmp, ↓bq_t, ↓bq_f, ab_br, ↓ab_b1_s, ↓ab_b2_s, ↓ab_l1_s, ↓ab_l2_s, ↓ab_li_s, ↓ab_o1_s, ↓ab_io_s, ↓ab_lo1_s, ↓ab_iio_s, ↓ab_lio_s, ↓ab_cp5_s, moX12_leads, dX12_leads_0, dal_0, dX12_leads_1, dX12_leads_2, dp2_12_482_0, dX12_leads_5, dX12_leads_6, dls_2, dX12_leads_7, dX12_leads_8, dis_4, dX12_leads_10, dil_4, dX12_leads_12, dX12_leads_13, dg2_12_272_0, dX12_leads_16, dX12_leads_19, dX12_leads_20, dX12_leads_22, dil_1, dX12_leads_23, dv2_12_485_0, moX12_answerTo, dX12_leads_26, dis_5, dX12_leads_28, dil_5, dX12_leads_30, dX12_leads_33, dX12_leads_36, dX12_leads_37, dX12_leads_40, dX12_leads_41, dg2_12_137_0, dX12_leads_44, dX12_leads_46, dX12_leads_48, dX12_leads_49, ds12_454, moX12_rowOf, dX12_leads_52, dX12_leads_53, dX12_leads_56, dX12_leads_57, dg2_12_140_0, dX12_leads_60, dX12_leads_62, dX12_leads_64, dX12_leads_65, dX12_leads_68, dX12_leads_69, dls_6, dX12_leads_71, dX12_leads_72, dg2_12_482_0, dX12_leads_75, dX12_leads_78, dll_6, dX12_leads_80, dll_2, dX12_leads_81, dX12_leads_82, dX12_leads_85, dX12_leads_88, dX12_leads_90, dX12_leads_91, dX12_leads_92, dX12_leads_94, dX12_leads_97, dX12_leads_98, dX12_leads_100, dp2_12_489_0, dX12_leads_103, dinc_4, dX12_leads_106, dX12_leads_109, dX12_leads_110, dX12_leads_113, dX12_leads_116, dX12_leads_117, dX12_leads_120, dX12_leads_121, dal2_36, ar2_36, dal2_37, ar2_37, ww]
          repeat' (with_reducible (first | apply And.intro | intro _))
          all_goals first | omega | skip
          · exact yes (by omega) (by omega) (Or.inl (by omega)) _ _ _
          all_goals (obtain ⟨u6, u7⟩ := u4 (by omega))
          all_goals first | omega | skip
          · refine yes (by omega) (by omega) (Or.inr (by omega)) _ _ _
          · refine no (by omega) (fun z => ?_) _ _ _
            rcases z.2 with e | e <;> omega
        · rename_i q2
          refine no (by omega) (fun z => ?_) _ _ _
          have := z.1
          rcases ha with e | e
          · exact this e
          · omega
  apply hG [10] 60
  simp only [cq_lt, cq_le, cq_gt, cq_ge, cq_eq, cq_r1, cq_r2, ab_r32, ab_r64, ab_go, ab_stp, wp_z, ab_in, ab_rok, ab_wsum, ab_prm, ab_ret, ab_sw, ab_cd, ab_tg, ab_cat_i, ab_cat_l, ab_cat_r, ab_cl_n, ab_cl_i, ab_cl_l, ab_cl_r, ab_f2_0, ab_f2_1, ab_f4_0, ab_f4_1, ab_f4_2, ab_f4_3, ab_op_s, ab_b1_s, ab_b2_s, ab_l1_s, ab_l2_s, ab_li_s, ab_o1_s, ab_io_s, ab_lo1_s, ab_iio_s, ab_lio_s, ab_cp5_s, ab_d2_l, ab_d2_i, ab_d2_o, ex_iconst, ex_bipush, ex_sipush, ex_lconst, ex_ldc, ex_ldc_w, ex_ldc2_w, ex_iadd, ex_isub, ex_imul, ex_iand, ex_ior, ex_ixor, ex_ishl, ex_ishr, ex_iushr, ex_idiv, ex_irem, ex_ladd, ex_lsub, ex_lmul, ex_lor, ex_ldiv, ex_lrem, ex_lshl, ex_lcmp, ex_ineg, ex_lneg, ex_i2l, ex_l2i, ex_i2b, ex_dup, ex_pop, ex_dup2, ex_goto, ex_tableswitch, ex_aaload, ex_ireturn, ex_lreturn, ex_return_, List.map_cons, List.map_nil, List.sum_cons, List.sum_nil, List.drop_succ_cons, List.drop_zero, List.take_succ_cons, List.take_zero, List.reverse_cons, List.reverse_nil, List.nil_append, List.cons_append, List.length_cons, List.length_nil, true_and, and_true, cond_false, cond_true, Bool.false_or, Bool.or_false, Bool.or_true, Bool.true_or, true_or, or_true, false_or, or_false, if_true, if_false, reduceIte, ite_true, ite_false, implies_true, true_implies, false_implies, forall_const, not_true_eq_false, not_false_eq_true, Nat.reduceAdd, Nat.reduceMul, Nat.reduceSub, Nat.reduceBEq, Nat.reduceEqDiff, Nat.reduceLeDiff, Nat.reduceLT, Int.reduceAdd, Int.reduceSub, Int.reduceMul, Int.reduceNeg, Int.reduceToNat, Int.reduceLE, Int.reduceLT, Int.reduceEq, Int.reduceNe, Int.reduceNatCast, Nat.add_zero, Nat.zero_add, reduceCtorEq, Int.reduceNatCast', wp_c, wp_g, e2_ifCond, e2_if_icmp, ↓bq_t, ↓bq_f, ab_br, ↓ab_b1_s, ↓ab_b2_s, ↓ab_l1_s, ↓ab_l2_s, ↓ab_li_s, ↓ab_o1_s, ↓ab_io_s, ↓ab_lo1_s, ↓ab_iio_s, ↓ab_lio_s, ↓ab_cp5_s, moX12_leads, dX12_leads_0, dal_0, dX12_leads_1, dX12_leads_2, dp2_12_482_0, dX12_leads_5, dX12_leads_6, dls_2, dX12_leads_7, dX12_leads_8, dis_4, dX12_leads_10, dil_4, dX12_leads_12, dX12_leads_13, dg2_12_272_0, dX12_leads_16, dX12_leads_19, dX12_leads_20, dX12_leads_22, dil_1, dX12_leads_23, dv2_12_485_0, moX12_answerTo, dX12_leads_26, dis_5, dX12_leads_28, dil_5, dX12_leads_30, dX12_leads_33, dX12_leads_36, dX12_leads_37, dX12_leads_40, dX12_leads_41, dg2_12_137_0, dX12_leads_44, dX12_leads_46, dX12_leads_48, dX12_leads_49, ds12_454, moX12_rowOf, dX12_leads_52, dX12_leads_53, dX12_leads_56, dX12_leads_57, dg2_12_140_0, dX12_leads_60, dX12_leads_62, dX12_leads_64, dX12_leads_65, dX12_leads_68, dX12_leads_69, dls_6, dX12_leads_71, dX12_leads_72, dg2_12_482_0, dX12_leads_75, dX12_leads_78, dll_6, dX12_leads_80, dll_2, dX12_leads_81, dX12_leads_82, dX12_leads_85, dX12_leads_88, dX12_leads_90, dX12_leads_91, dX12_leads_92, dX12_leads_94, dX12_leads_97, dX12_leads_98, dX12_leads_100, dp2_12_489_0, dX12_leads_103, dinc_4, dX12_leads_106, dX12_leads_109, dX12_leads_110, dX12_leads_113, dX12_leads_116, dX12_leads_117, dX12_leads_120, dX12_leads_121, dal2_36, ar2_36, dal2_37, ar2_37]
  refine key 13 0 0 _ _ _ _ (by omega) (by omega) (fun o o1 => ab_up_o o o1) (fun k k1 k2 => ?_) rfl (fun z => absurd rfl z) (by omega)
  show (if k = 75 then _ else τ 0 k) = _
  rw [if_neg k1]
set_option maxRecDepth 100000 in
set_option maxHeartbeats 4000000 in
theorem y_ansY {ω τ : ab_S} {x y c : Int} {K : ab_V → ab_S → Prop} (hJ : zJ ω) (hK : zK ω) (hP : zPl ω x y (-1)) (hC : τ 0 1 = ω 3 8) (hGr : yGr ω x y (-1) τ (zrw (ω 3 8) (zdp (ω 3 8) (-1)) (ω 3 8) 0 0)) (hc : 0 ≤ c ∧ c < ω 3 8) (h : K (vI (zAn ω x y 1 c)) τ) : ab_Runs ab_G2 mdX12_answerTo [vR 0, vI c, vI 0] τ K := by
  refine ab_runs mwX12_answerTo (by decide +kernel) (Nat.le_of_ble_eq_true rfl) (fun G hG => ?_)
  show G 0 [some (vR 0), some (vI c), some (vI 0), none, none, none, none] [] _
  have hT1 := hJ.1.1
  have hdp : zdp (ω 3 8) (-1) = 1 := rfl
  rw [hdp] at hGr
  have gl : ∀ m, 0 ≤ m → m < ω 3 8 → (τ 35 (0 + 12 * m + c) = 1 ∨ τ 35 (0 + 12 * m + c) = 0) ∧ (τ 35 (0 + 12 * m + c) = 1 ↔ zLl ω x y 1 c m) ∧ (τ 35 (0 + 12 * m + c) = 1 → τ 36 (0 + 12 * m + c) = zLw ω x y 1 (1 - 1) c m) := fun m m1 m2 => by
    have q := yGr_let hGr (a := m) (b := c) (c := 0) (by omega) (by omega) (by rw [hdp]; omega) (zrw_lt hT1 (by omega) (by omega) (by omega) (by omega))
    simp only [Int.mul_zero] at q
    exact ⟨q.1, q.2.1, fun z => (q.2.2 z).1⟩
  have win : ∀ m, -1 ≤ zLw ω x y 1 (1 - 1) c m ∧ zLw ω x y 1 (1 - 1) c m ≤ 6000000000 := fun m => by
    have := zWv_in (p := 1 - 1) (a := zla 1 c m) (b := zlb 1 c m) (c := 0) hJ hK hP (by omega)
    exact ⟨this.1, this.2.1⟩
  have key : ∀ (k : Nat) (m : Nat) (z5 z6 : Option ab_V), ω 3 8 - m < k → (m : Int) ≤ ω 3 8 → G 5 [some (vR 0), some (vI c), some (vI 0), some (vI (zam (zLl ω x y 1 c) (zLw ω x y 1 (1 - 1) c) m)), some (vI m), z5, z6] [] τ := by
    intro k
    induction k with
    | zero => intro m z5 z6 h1 h2; omega
    | succ k ih =>
      intro m z5 z6 h1 h2
      have hzi := zam_in (zLl ω x y 1 c) (zLw ω x y 1 (1 - 1) c) m
      have ih' := ih (m + 1)
      generalize hA : zam (zLl ω x y 1 c) (zLw ω x y 1 (1 - 1) c) m = A at *
      have hAr : A = -1 ∨ (0 ≤ A ∧ A < m) := by
        rcases hzi with e | e
        · exact Or.inl e
        · exact Or.inr e.1
      have yes : (m : Int) < ω 3 8 → zLl ω x y 1 c m → (A = -1 ∨ zLw ω x y 1 (1 - 1) c A < zLw ω x y 1 (1 - 1) c m) → ∀ z5 z6, G 5 [some (vR 0), some (vI c), some (vI 0), some (vI m), some (vI (m + 1)), z5, z6] [] τ := by
        intro hm hq hw z5 z6
        have := ih' z5 z6 (by omega) (by omega)
        rw [zam_yes (by rw [hA]; exact ⟨hq, hw⟩)] at this
        exact this
      have no : (m : Int) < ω 3 8 → ¬ (zLl ω x y 1 c m ∧ (A = -1 ∨ zLw ω x y 1 (1 - 1) c A < zLw ω x y 1 (1 - 1) c m)) → ∀ z5 z6, G 5 [some (vR 0), some (vI c), some (vI 0), some (vI A), some (vI (m + 1)), z5, z6] [] τ := by
        intro hm hq z5 z6
        have := ih' z5 z6 (by omega) (by omega)
        rw [zam_no (by rw [hA]; exact hq), hA] at this
        exact this
      apply hG [5] 60
      simp only [cq_lt, cq_le, cq_gt, cq_ge, cq_eq, cq_r1, cq_r2, ab_r32, ab_r64, ab_go, ab_stp, wp_z, ab_in, ab_rok, ab_wsum, ab_prm, ab_ret, ab_sw, ab_cd, ab_tg, ab_cat_i, ab_cat_l, ab_cat_r, ab_cl_n, ab_cl_i, ab_cl_l, ab_cl_r, ab_f2_0, ab_f2_1, ab_f4_0, ab_f4_1, ab_f4_2, ab_f4_3, ab_op_s, ab_b1_s, ab_b2_s, ab_l1_s, ab_l2_s, ab_li_s, ab_o1_s, ab_io_s, ab_lo1_s, ab_iio_s, ab_lio_s, ab_cp5_s, ab_d2_l, ab_d2_i, ab_d2_o, ex_iconst, ex_bipush, ex_sipush, ex_lconst, ex_ldc, ex_ldc_w, ex_ldc2_w, ex_iadd, ex_isub, ex_imul, ex_iand, ex_ior, ex_ixor, ex_ishl, ex_ishr, ex_iushr, ex_idiv, ex_irem, ex_ladd, ex_lsub, ex_lmul, ex_lor, ex_ldiv, ex_lrem, ex_lshl, ex_lcmp, ex_ineg, ex_lneg, ex_i2l, ex_l2i, ex_i2b, ex_dup, ex_pop, ex_dup2, ex_goto, ex_tableswitch, ex_aaload, ex_ireturn, ex_lreturn, ex_return_, List.map_cons, List.map_nil, List.sum_cons, List.sum_nil, List.drop_succ_cons, List.drop_zero, List.take_succ_cons, List.take_zero, List.reverse_cons, List.reverse_nil, List.nil_append, List.cons_append, List.length_cons, List.length_nil, true_and, and_true, cond_false, cond_true, Bool.false_or, Bool.or_false, Bool.or_true, Bool.true_or, true_or, or_true, false_or, or_false, if_true, if_false, reduceIte, ite_true, ite_false, implies_true, true_implies, false_implies, forall_const, not_true_eq_false, not_false_eq_true, Nat.reduceAdd, Nat.reduceMul, Nat.reduceSub, Nat.reduceBEq, Nat.reduceEqDiff, Nat.reduceLeDiff, Nat.reduceLT, Int.reduceAdd, Int.reduceSub, Int.reduceMul, Int.reduceNeg, Int.reduceToNat, Int.reduceLE, Int.reduceLT, Int.reduceEq, Int.reduceNe, Int.reduceNatCast, Nat.add_zero, Nat.zero_add, reduceCtorEq, Int.reduceNatCast', wp_c, wp_g, e2_ifCond, e2_if_icmp, ↓bq_t, ↓bq_f, ab_br, ↓ab_b1_s, ↓ab_b2_s, ↓ab_l1_s, ↓ab_l2_s, ↓ab_li_s, ↓ab_o1_s, ↓ab_io_s, ↓ab_lo1_s, ↓ab_iio_s, ↓ab_lio_s, ↓ab_cp5_s, moX12_answerTo, dX12_answerTo_0, dX12_answerTo_1, dis_3, dX12_answerTo_2, dX12_answerTo_3, dis_4, dX12_answerTo_5, dil_4, dX12_answerTo_7, dal_0, dX12_answerTo_8, dg2_12_272_0, dX12_answerTo_11, dX12_answerTo_14, dil_2, dX12_answerTo_15, dX12_answerTo_18, dil_1, dX12_answerTo_19, dX12_answerTo_21, dX12_answerTo_22, ds12_454, moX12_rowOf, dX12_answerTo_25, dX12_answerTo_28, dX12_answerTo_30, dX12_answerTo_31, dX12_answerTo_32, dX12_answerTo_35, dis_5, dX12_answerTo_37, dX12_answerTo_38, dg2_12_134_0, dX12_answerTo_41, dil_5, dX12_answerTo_43, dX12_answerTo_44, dX12_answerTo_47, dX12_answerTo_50, dil_3, dX12_answerTo_51, dX12_answerTo_54, dX12_answerTo_56, dX12_answerTo_59, dX12_answerTo_60, dX12_answerTo_63, dX12_answerTo_64, dX12_answerTo_65, dX12_answerTo_66, dX12_answerTo_69, dX12_answerTo_72, dX12_answerTo_73, dX12_answerTo_74, dX12_answerTo_75, dX12_answerTo_78, dis_6, dX12_answerTo_80, dX12_answerTo_81, dX12_answerTo_84, dX12_answerTo_85, dX12_answerTo_88, dX12_answerTo_89, dg2_12_140_0, dX12_answerTo_92, dX12_answerTo_94, dX12_answerTo_95, dX12_answerTo_96, dX12_answerTo_99, dil_6, dX12_answerTo_101, dX12_answerTo_102, dX12_answerTo_103, dX12_answerTo_106, dX12_answerTo_109, dX12_answerTo_110, dg2_12_137_0, dX12_answerTo_113, dX12_answerTo_115, dX12_answerTo_116, dX12_answerTo_117, dX12_answerTo_120, dX12_answerTo_122, dX12_answerTo_123, dX12_answerTo_124, dX12_answerTo_127, dX12_answerTo_129, dX12_answerTo_130, dinc_4, dX12_answerTo_133, dX12_answerTo_136, dX12_answerTo_137, dal2_35, ar2_35, dal2_36, ar2_36, dal2_37, ar2_37, hC]
      repeat' (with_reducible (first | apply And.intro | intro _))
      all_goals first | omega | skip
      · have e : (ω 3 8).toNat = m := by omega
        unfold zAn at h
        rw [e, hA] at h
        exact h
      · rename_i q1
        obtain ⟨g1, g2, g3⟩ := gl m (by omega) (by omega)
        have wm := win m
        refine y_rowOf ?_
        try simp only [cq_lt, cq_le, cq_gt, cq_ge, cq_eq, cq_r1, cq_r2, ab_r32, ab_r64, ab_go, ab_stp, wp_z, ab_in, ab_rok, ab_wsum, ab_prm, ab_ret, ab_sw, ab_cd, ab_tg, ab_cat_i, ab_cat_l, ab_cat_r, ab_cl_n, ab_cl_i, ab_cl_l, ab_cl_r, ab_f2_0, ab_f2_1, ab_f4_0, ab_f4_1, ab_f4_2, ab_f4_3, ab_op_s, ab_b1_s, ab_b2_s, ab_l1_s, ab_l2_s, ab_li_s, ab_o1_s, ab_io_s, ab_lo1_s, ab_iio_s, ab_lio_s, ab_cp5_s, ab_d2_l, ab_d2_i, ab_d2_o, ex_iconst, ex_bipush, ex_sipush, ex_lconst, ex_ldc, ex_ldc_w, ex_ldc2_w, ex_iadd, ex_isub, ex_imul, ex_iand, ex_ior, ex_ixor, ex_ishl, ex_ishr, ex_iushr, ex_idiv, ex_irem, ex_ladd, ex_lsub, ex_lmul, ex_lor, ex_ldiv, ex_lrem, ex_lshl, ex_lcmp, ex_ineg, ex_lneg, ex_i2l, ex_l2i, ex_i2b, ex_dup, ex_pop, ex_dup2, ex_goto, ex_tableswitch, ex_aaload, ex_ireturn, ex_lreturn, ex_return_, List.map_cons, List.map_nil, List.sum_cons, List.sum_nil, List.drop_succ_cons, List.drop_zero, List.take_succ_cons, List.take_zero, List.reverse_cons, List.reverse_nil, List.nil_append, List.cons_append, List.length_cons, List.length_nil, true_and, and_true, cond_false, cond_true, Bool.false_or, Bool.or_false, Bool.or_true, Bool.true_or, true_or, or_true, false_or, or_false, if_true, if_false, reduceIte, ite_true, ite_false, implies_true, true_implies, false_implies, forall_const, not_true_eq_false, not_false_eq_true, Nat.reduceAdd, Nat.reduceMul, Nat.reduceSub, Nat.reduceBEq, Nat.reduceEqDiff, Nat.reduceLeDiff, Nat.reduceLT, Int.reduceAdd, Int.reduceSub, Int.reduceMul, Int.reduceNeg, Int.reduceToNat, Int.reduceLE, Int.reduceLT, Int.reduceEq, Int.reduceNe, Int.reduceNatCast, Nat.add_zero, Nat.zero_add, reduceCtorEq, Int.reduceNatCast', wp_c, wp_g, e2_ifCond, e2_if_icmp, ↓bq_t, ↓bq_f, ab_br, ↓ab_b1_s, ↓ab_b2_s, ↓ab_l1_s, ↓ab_l2_s, ↓ab_li_s, ↓ab_o1_s, ↓ab_io_s, ↓ab_lo1_s, ↓ab_iio_s, ↓ab_lio_s, ↓ab_cp5_s, moX12_answerTo, dX12_answerTo_0, dX12_answerTo_1, dis_3, dX12_answerTo_2, dX12_answerTo_3, dis_4, dX12_answerTo_5, dil_4, dX12_answerTo_7, dal_0, dX12_answerTo_8, dg2_12_272_0, dX12_answerTo_11, dX12_answerTo_14, dil_2, dX12_answerTo_15, dX12_answerTo_18, dil_1, dX12_answerTo_19, dX12_answerTo_21, dX12_answerTo_22, ds12_454, moX12_rowOf, dX12_answerTo_25, dX12_answerTo_28, dX12_answerTo_30, dX12_answerTo_31, dX12_answerTo_32, dX12_answerTo_35, dis_5, dX12_answerTo_37, dX12_answerTo_38, dg2_12_134_0, dX12_answerTo_41, dil_5, dX12_answerTo_43, dX12_answerTo_44, dX12_answerTo_47, dX12_answerTo_50, dil_3, dX12_answerTo_51, dX12_answerTo_54, dX12_answerTo_56, dX12_answerTo_59, dX12_answerTo_60, dX12_answerTo_63, dX12_answerTo_64, dX12_answerTo_65, dX12_answerTo_66, dX12_answerTo_69, dX12_answerTo_72, dX12_answerTo_73, dX12_answerTo_74, dX12_answerTo_75, dX12_answerTo_78, dis_6, dX12_answerTo_80, dX12_answerTo_81, dX12_answerTo_84, dX12_answerTo_85, dX12_answerTo_88, dX12_answerTo_89, dg2_12_140_0, dX12_answerTo_92, dX12_answerTo_94, dX12_answerTo_95, dX12_answerTo_96, dX12_answerTo_99, dil_6, dX12_answerTo_101, dX12_answerTo_102, dX12_answerTo_103, dX12_answerTo_106, dX12_answerTo_109, dX12_answerTo_110, dg2_12_137_0, dX12_answerTo_113, dX12_answerTo_115, dX12_answerTo_116, dX12_answerTo_117, dX12_answerTo_120, dX12_answerTo_122, dX12_answerTo_123, dX12_answerTo_124, dX12_answerTo_127, dX12_answerTo_129, dX12_answerTo_130, dinc_4, dX12_answerTo_133, dX12_answerTo_136, dX12_answerTo_137, dal2_35, ar2_35, dal2_36, ar2_36, dal2_37, ar2_37]
        repeat' (with_reducible (first | apply And.intro | intro _))
        all_goals first | omega | skip
        · rename_i q2 q3
          obtain ⟨f1, f2, f3⟩ := gl A (by omega) (by omega)
          have wa := win A
          have hAl : zLl ω x y 1 c A := by
            rcases hzi with e | e
            · omega
            · exact e.2
          have f4 := f3 (f2.2 hAl)
          have g4 := g3 (by omega)
          refine y_rowOf ?_
          try simp only [cq_lt, cq_le, cq_gt, cq_ge, cq_eq, cq_r1, cq_r2, ab_r32, ab_r64, ab_go, ab_stp, wp_z, ab_in, ab_rok, ab_wsum, ab_prm, ab_ret, ab_sw, ab_cd, ab_tg, ab_cat_i, ab_cat_l, ab_cat_r, ab_cl_n, ab_cl_i, ab_cl_l, ab_cl_r, ab_f2_0, ab_f2_1, ab_f4_0, ab_f4_1, ab_f4_2, ab_f4_3, ab_op_s, ab_b1_s, ab_b2_s, ab_l1_s, ab_l2_s, ab_li_s, ab_o1_s, ab_io_s, ab_lo1_s, ab_iio_s, ab_lio_s, ab_cp5_s, ab_d2_l, ab_d2_i, ab_d2_o, ex_iconst, ex_bipush, ex_sipush, ex_lconst, ex_ldc, ex_ldc_w, ex_ldc2_w, ex_iadd, ex_isub, ex_imul, ex_iand, ex_ior, ex_ixor, ex_ishl, ex_ishr, ex_iushr, ex_idiv, ex_irem, ex_ladd, ex_lsub, ex_lmul, ex_lor, ex_ldiv, ex_lrem, ex_lshl, ex_lcmp, ex_ineg, ex_lneg, ex_i2l, ex_l2i, ex_i2b, ex_dup, ex_pop, ex_dup2, ex_goto, ex_tableswitch, ex_aaload, ex_ireturn, ex_lreturn, ex_return_, List.map_cons, List.map_nil, List.sum_cons, List.sum_nil, List.drop_succ_cons, List.drop_zero, List.take_succ_cons, List.take_zero, List.reverse_cons, List.reverse_nil, List.nil_append, List.cons_append, List.length_cons, List.length_nil, true_and, and_true, cond_false, cond_true, Bool.false_or, Bool.or_false, Bool.or_true, Bool.true_or, true_or, or_true, false_or, or_false, if_true, if_false, reduceIte, ite_true, ite_false, implies_true, true_implies, false_implies, forall_const, not_true_eq_false, not_false_eq_true, Nat.reduceAdd, Nat.reduceMul, Nat.reduceSub, Nat.reduceBEq, Nat.reduceEqDiff, Nat.reduceLeDiff, Nat.reduceLT, Int.reduceAdd, Int.reduceSub, Int.reduceMul, Int.reduceNeg, Int.reduceToNat, Int.reduceLE, Int.reduceLT, Int.reduceEq, Int.reduceNe, Int.reduceNatCast, Nat.add_zero, Nat.zero_add, reduceCtorEq, Int.reduceNatCast', wp_c, wp_g, e2_ifCond, e2_if_icmp, ↓bq_t, ↓bq_f, ab_br, ↓ab_b1_s, ↓ab_b2_s, ↓ab_l1_s, ↓ab_l2_s, ↓ab_li_s, ↓ab_o1_s, ↓ab_io_s, ↓ab_lo1_s, ↓ab_iio_s, ↓ab_lio_s, ↓ab_cp5_s, moX12_answerTo, dX12_answerTo_0, dX12_answerTo_1, dis_3, dX12_answerTo_2, dX12_answerTo_3, dis_4, dX12_answerTo_5, dil_4, dX12_answerTo_7, dal_0, dX12_answerTo_8, dg2_12_272_0, dX12_answerTo_11, dX12_answerTo_14, dil_2, dX12_answerTo_15, dX12_answerTo_18, dil_1, dX12_answerTo_19, dX12_answerTo_21, dX12_answerTo_22, ds12_454, moX12_rowOf, dX12_answerTo_25, dX12_answerTo_28, dX12_answerTo_30, dX12_answerTo_31, dX12_answerTo_32, dX12_answerTo_35, dis_5, dX12_answerTo_37, dX12_answerTo_38, dg2_12_134_0, dX12_answerTo_41, dil_5, dX12_answerTo_43, dX12_answerTo_44, dX12_answerTo_47, dX12_answerTo_50, dil_3, dX12_answerTo_51, dX12_answerTo_54, dX12_answerTo_56, dX12_answerTo_59, dX12_answerTo_60, dX12_answerTo_63, dX12_answerTo_64, dX12_answerTo_65, dX12_answerTo_66, dX12_answerTo_69, dX12_answerTo_72, dX12_answerTo_73, dX12_answerTo_74, dX12_answerTo_75, dX12_answerTo_78, dis_6, dX12_answerTo_80, dX12_answerTo_81, dX12_answerTo_84, dX12_answerTo_85, dX12_answerTo_88, dX12_answerTo_89, dg2_12_140_0, dX12_answerTo_92, dX12_answerTo_94, dX12_answerTo_95, dX12_answerTo_96, dX12_answerTo_99, dil_6, dX12_answerTo_101, dX12_answerTo_102, dX12_answerTo_103, dX12_answerTo_106, dX12_answerTo_109, dX12_answerTo_110, dg2_12_137_0, dX12_answerTo_113, dX12_answerTo_115, dX12_answerTo_116, dX12_answerTo_117, dX12_answerTo_120, dX12_answerTo_122, dX12_answerTo_123, dX12_answerTo_124, dX12_answerTo_127, dX12_answerTo_129, dX12_answerTo_130, dinc_4, dX12_answerTo_133, dX12_answerTo_136, dX12_answerTo_137, dal2_35, ar2_35, dal2_36, ar2_36, dal2_37, ar2_37]
          repeat' (with_reducible (first | apply And.intro | intro _))
          all_goals first | omega | skip
          · refine no (by omega) (fun z => ?_) _ _
            rcases z.2 with e | e <;> omega
          · exact yes (by omega) (g2.1 (by omega)) (Or.inr (by omega)) _ _
        · rename_i q2 q3
          exact yes (by omega) (g2.1 (by omega)) (Or.inl (by omega)) _ _
        · rename_i q2
          refine no (by omega) (fun z => ?_) _ _
          have := g2.2 z.1
          omega
  apply hG [5] 60
  simp only [cq_lt, cq_le, cq_gt, cq_ge, cq_eq, cq_r1, cq_r2, ab_r32, ab_r64, ab_go, ab_stp, wp_z, ab_in, ab_rok, ab_wsum, ab_prm, ab_ret, ab_sw, ab_cd, ab_tg, ab_cat_i, ab_cat_l, ab_cat_r, ab_cl_n, ab_cl_i, ab_cl_l, ab_cl_r, ab_f2_0, ab_f2_1, ab_f4_0, ab_f4_1, ab_f4_2, ab_f4_3, ab_op_s, ab_b1_s, ab_b2_s, ab_l1_s, ab_l2_s, ab_li_s, ab_o1_s, ab_io_s, ab_lo1_s, ab_iio_s, ab_lio_s, ab_cp5_s, ab_d2_l, ab_d2_i, ab_d2_o, ex_iconst, ex_bipush, ex_sipush, ex_lconst, ex_ldc, ex_ldc_w, ex_ldc2_w, ex_iadd, ex_isub, ex_imul, ex_iand, ex_ior, ex_ixor, ex_ishl, ex_ishr, ex_iushr, ex_idiv, ex_irem, ex_ladd, ex_lsub, ex_lmul, ex_lor, ex_ldiv, ex_lrem, ex_lshl, ex_lcmp, ex_ineg, ex_lneg, ex_i2l, ex_l2i, ex_i2b, ex_dup, ex_pop, ex_dup2, ex_goto, ex_tableswitch, ex_aaload, ex_ireturn, ex_lreturn, ex_return_, List.map_cons, List.map_nil, List.sum_cons, List.sum_nil, List.drop_succ_cons, List.drop_zero, List.take_succ_cons, List.take_zero, List.reverse_cons, List.reverse_nil, List.nil_append, List.cons_append, List.length_cons, List.length_nil, true_and, and_true, cond_false, cond_true, Bool.false_or, Bool.or_false, Bool.or_true, Bool.true_or, true_or, or_true, false_or, or_false, if_true, if_false, reduceIte, ite_true, ite_false, implies_true, true_implies, false_implies, forall_const, not_true_eq_false, not_false_eq_true, Nat.reduceAdd, Nat.reduceMul, Nat.reduceSub, Nat.reduceBEq, Nat.reduceEqDiff, Nat.reduceLeDiff, Nat.reduceLT, Int.reduceAdd, Int.reduceSub, Int.reduceMul, Int.reduceNeg, Int.reduceToNat, Int.reduceLE, Int.reduceLT, Int.reduceEq, Int.reduceNe, Int.reduceNatCast, Nat.add_zero, Nat.zero_add, reduceCtorEq, Int.reduceNatCast', wp_c, wp_g, e2_ifCond, e2_if_icmp, ↓bq_t, ↓bq_f, ab_br, ↓ab_b1_s, ↓ab_b2_s, ↓ab_l1_s, ↓ab_l2_s, ↓ab_li_s, ↓ab_o1_s, ↓ab_io_s, ↓ab_lo1_s, ↓ab_iio_s, ↓ab_lio_s, ↓ab_cp5_s, moX12_answerTo, dX12_answerTo_0, dX12_answerTo_1, dis_3, dX12_answerTo_2, dX12_answerTo_3, dis_4, dX12_answerTo_5, dil_4, dX12_answerTo_7, dal_0, dX12_answerTo_8, dg2_12_272_0, dX12_answerTo_11, dX12_answerTo_14, dil_2, dX12_answerTo_15, dX12_answerTo_18, dil_1, dX12_answerTo_19, dX12_answerTo_21, dX12_answerTo_22, ds12_454, moX12_rowOf, dX12_answerTo_25, dX12_answerTo_28, dX12_answerTo_30, dX12_answerTo_31, dX12_answerTo_32, dX12_answerTo_35, dis_5, dX12_answerTo_37, dX12_answerTo_38, dg2_12_134_0, dX12_answerTo_41, dil_5, dX12_answerTo_43, dX12_answerTo_44, dX12_answerTo_47, dX12_answerTo_50, dil_3, dX12_answerTo_51, dX12_answerTo_54, dX12_answerTo_56, dX12_answerTo_59, dX12_answerTo_60, dX12_answerTo_63, dX12_answerTo_64, dX12_answerTo_65, dX12_answerTo_66, dX12_answerTo_69, dX12_answerTo_72, dX12_answerTo_73, dX12_answerTo_74, dX12_answerTo_75, dX12_answerTo_78, dis_6, dX12_answerTo_80, dX12_answerTo_81, dX12_answerTo_84, dX12_answerTo_85, dX12_answerTo_88, dX12_answerTo_89, dg2_12_140_0, dX12_answerTo_92, dX12_answerTo_94, dX12_answerTo_95, dX12_answerTo_96, dX12_answerTo_99, dil_6, dX12_answerTo_101, dX12_answerTo_102, dX12_answerTo_103, dX12_answerTo_106, dX12_answerTo_109, dX12_answerTo_110, dg2_12_137_0, dX12_answerTo_113, dX12_answerTo_115, dX12_answerTo_116, dX12_answerTo_117, dX12_answerTo_120, dX12_answerTo_122, dX12_answerTo_123, dX12_answerTo_124, dX12_answerTo_127, dX12_answerTo_129, dX12_answerTo_130, dinc_4, dX12_answerTo_133, dX12_answerTo_136, dX12_answerTo_137, dal2_35, ar2_35, dal2_36, ar2_36, dal2_37, ar2_37]
  exact key 13 0 _ _ (by omega) (by omega)
set_option maxRecDepth 100000 in
set_option maxHeartbeats 4000000 in
theorem y_leadsY {ω τ : ab_S} {x y : Int} {K : ab_V → ab_S → Prop} (hJ : zJ ω) (hK : zK ω) (hP : zPl ω x y (-1)) (hC : τ 0 1 = ω 3 8) (hGr : yGr ω x y (-1) τ (zrw (ω 3 8) (zdp (ω 3 8) (-1)) (ω 3 8) 0 0)) (h : ∀ υ v, (∀ o, o ≠ 0 → υ o = τ o) → (∀ k, k ≠ 75 → k ≠ 76 → υ 0 k = τ 0 k) → υ 0 75 = zLc ω x y 1 → (zLc ω x y 1 ≠ -1 → υ 0 76 = zAn ω x y 1 (zLc ω x y 1)) → ((zLc ω x y 1 = -1 ∧ v = 0) ∨ (zLc ω x y 1 ≠ -1 ∧ v = 1)) → K (vI v) υ) : ab_Runs ab_G2 mdX12_leads [vR 0, vI 0] τ K := by
  refine ab_runs mwX12_leads (by decide +kernel) (Nat.le_of_ble_eq_true rfl) (fun G hG => ?_)
  show G 0 [some (vR 0), some (vI 0), none, none, none, none, none, none] [] _
  have hT1 := hJ.1.1
  have hdp : zdp (ω 3 8) (-1) = 1 := rfl
  have hGr' := hGr
  rw [hdp] at hGr'
  have wl : ∀ c m, 0 ≤ c → c < ω 3 8 → 0 ≤ m → m < ω 3 8 → zLl ω x y 1 c m → τ 37 (0 + 12 * m + c) = zLw ω x y 1 1 c m := fun c m c1 c2 m1 m2 hl => by
    have q := yGr_let hGr' (a := m) (b := c) (c := 0) (by omega) (by omega) (by rw [hdp]; omega) (zrw_lt hT1 (by omega) (by omega) (by omega) (by omega))
    simp only [Int.mul_zero] at q
    exact (q.2.2 (q.2.1.2 hl)).2.1
  have win : ∀ c m, -1 ≤ zLw ω x y 1 1 c m ∧ zLw ω x y 1 1 c m ≤ 6000000000 := fun c m => by
    have := zWv_in (p := 1) (a := zla 1 c m) (b := zlb 1 c m) (c := 0) hJ hK hP (by omega)
    exact ⟨this.1, this.2.1⟩
  have anin : ∀ c, zAn ω x y 1 c = -1 ∨ ((0 ≤ zAn ω x y 1 c ∧ zAn ω x y 1 c < ω 3 8) ∧ zLl ω x y 1 c (zAn ω x y 1 c)) := fun c => by
    rcases zam_in (zLl ω x y 1 c) (zLw ω x y 1 (1 - 1) c) (ω 3 8).toNat with e | e
    · exact Or.inl e
    · right
      have := e.1
      refine ⟨?_, e.2⟩
      unfold zAn
      omega
  have key : ∀ (k : Nat) (m : Nat) (mo : Int) (υ : ab_S) (z5 z6 z7 : Option ab_V), ω 3 8 - m < k → (m : Int) ≤ ω 3 8 → (∀ o, o ≠ 0 → υ o = τ o) → (∀ k, k ≠ 75 → k ≠ 76 → υ 0 k = τ 0 k) → υ 0 75 = zam (fun c => zAn ω x y 1 c ≠ -1) (fun c => zLw ω x y 1 1 c (zAn ω x y 1 c)) m → (υ 0 75 ≠ -1 → υ 0 76 = zAn ω x y 1 (υ 0 75) ∧ mo = zLw ω x y 1 1 (υ 0 75) (zAn ω x y 1 (υ 0 75))) → (-1 ≤ mo ∧ mo ≤ 6000000000) → G 10 [some (vR 0), some (vI 0), some (vJ mo), none, some (vI m), z5, z6, z7] [] υ := by
    intro k
    induction k with
    | zero => intro m mo υ z5 z6 z7 h1 h2; omega
    | succ k ih =>
      intro m mo υ z5 z6 z7 h1 h2 u1 u2 u3 u4 u5
      have hzi := zam_in (fun c => zAn ω x y 1 c ≠ -1) (fun c => zLw ω x y 1 1 c (zAn ω x y 1 c)) m
      have hCu : υ 0 1 = ω 3 8 := by
        rw [u2 1 (by decide) (by decide)]
        exact hC
      have hGu : yGr ω x y (-1) υ (zrw (ω 3 8) (zdp (ω 3 8) (-1)) (ω 3 8) 0 0) := by
        unfold yGr
        rw [u1 35 (by decide), u1 36 (by decide), u1 37 (by decide), u1 38 (by decide)]
        exact hGr
      have hA1 : -1 ≤ υ 0 75 ∧ υ 0 75 < 12 := by
        rw [u3]
        rcases hzi with e | e <;> omega
      have no : (m : Int) < ω 3 8 → ¬ (zAn ω x y 1 m ≠ -1 ∧ (υ 0 75 = -1 ∨ zLw ω x y 1 1 (υ 0 75) (zAn ω x y 1 (υ 0 75)) < zLw ω x y 1 1 m (zAn ω x y 1 m))) → ∀ z5 z6 z7, G 10 [some (vR 0), some (vI 0), some (vJ mo), none, some (vI (m + 1)), z5, z6, z7] [] υ := by
        intro hm hq z5 z6 z7
        refine ih (m + 1) mo υ z5 z6 z7 (by omega) (by omega) u1 u2 ?_ u4 u5
        rw [zam_no (by rw [← u3]; exact hq)]
        exact u3
      have yes : (m : Int) < ω 3 8 → zAn ω x y 1 m ≠ -1 → (υ 0 75 = -1 ∨ zLw ω x y 1 1 (υ 0 75) (zAn ω x y 1 (υ 0 75)) < zLw ω x y 1 1 m (zAn ω x y 1 m)) → ∀ z5 z6 z7, G 10 [some (vR 0), some (vI 0), some (vJ (zLw ω x y 1 1 m (zAn ω x y 1 m))), none, some (vI (m + 1)), z5, z6, z7] [] (ab_up (ab_up υ 0 75 m) 0 76 (zAn ω x y 1 m)) := by
        intro hm hq hw z5 z6 z7
        refine ih (m + 1) _ _ z5 z6 z7 (by omega) (by omega) (fun o o1 => by rw [ab_up_o o o1, ab_up_o o o1]; exact u1 o o1) (fun k k1 k2 => ?_) ?_ (fun _ => ⟨rfl, rfl⟩) (win _ _)
        · show (if k = 76 then _ else if k = 75 then _ else υ 0 k) = _
          rw [if_neg k2, if_neg k1]
          exact u2 k k1 k2
        · show (m : Int) = _
          rw [zam_yes (by rw [← u3]; exact ⟨hq, hw⟩)]
      apply hG [10, 26] 60
      simp only [cq_lt, cq_le, cq_gt, cq_ge, cq_eq, cq_r1, cq_r2, ab_r32, ab_r64, ab_go, ab_stp, wp_z, ab_in, ab_rok, ab_wsum, ab_prm, ab_ret, ab_sw, ab_cd, ab_tg, ab_cat_i, ab_cat_l, ab_cat_r, ab_cl_n, ab_cl_i, ab_cl_l, ab_cl_r, ab_f2_0, ab_f2_1, ab_f4_0, ab_f4_1, ab_f4_2, ab_f4_3, ab_op_s, ab_b1_s, ab_b2_s, ab_l1_s, ab_l2_s, ab_li_s, ab_o1_s, ab_io_s, ab_lo1_s, ab_iio_s, ab_lio_s, ab_cp5_s, ab_d2_l, ab_d2_i, ab_d2_o, ex_iconst, ex_bipush, ex_sipush, ex_lconst, ex_ldc, ex_ldc_w, ex_ldc2_w, ex_iadd, ex_isub, ex_imul, ex_iand, ex_ior, ex_ixor, ex_ishl, ex_ishr, ex_iushr, ex_idiv, ex_irem, ex_ladd, ex_lsub, ex_lmul, ex_lor, ex_ldiv, ex_lrem, ex_lshl, ex_lcmp, ex_ineg, ex_lneg, ex_i2l, ex_l2i, ex_i2b, ex_dup, ex_pop, ex_dup2, ex_goto, ex_tableswitch, ex_aaload, ex_ireturn, ex_lreturn, ex_return_, List.map_cons, List.map_nil, List.sum_cons, List.sum_nil, List.drop_succ_cons, List.drop_zero, List.take_succ_cons, List.take_zero, List.reverse_cons, List.reverse_nil, List.nil_append, List.cons_append, List.length_cons, List.length_nil, true_and, and_true, cond_false, cond_true, Bool.false_or, Bool.or_false, Bool.or_true, Bool.true_or, true_or, or_true, false_or, or_false, if_true, if_false, reduceIte, ite_true, ite_false, implies_true, true_implies, false_implies, forall_const, not_true_eq_false, not_false_eq_true, Nat.reduceAdd, Nat.reduceMul, Nat.reduceSub, Nat.reduceBEq, Nat.reduceEqDiff, Nat.reduceLeDiff, Nat.reduceLT, Int.reduceAdd, Int.reduceSub, Int.reduceMul, Int.reduceNeg, Int.reduceToNat, Int.reduceLE, Int.reduceLT, Int.reduceEq, Int.reduceNe, Int.reduceNatCast, Nat.add_zero, Nat.zero_add, reduceCtorEq, Int.reduceNatCast', wp_c, wp_g, e2_ifCond, e2_if_icmp, ↓bq_t, ↓bq_f, ab_br, ↓ab_b1_s, ↓ab_b2_s, ↓ab_l1_s, ↓ab_l2_s, ↓ab_li_s, ↓ab_o1_s, ↓ab_io_s, ↓ab_lo1_s, ↓ab_iio_s, ↓ab_lio_s, ↓ab_cp5_s, moX12_leads, dX12_leads_0, dal_0, dX12_leads_1, dX12_leads_2, dp2_12_482_0, dX12_leads_5, dX12_leads_6, dls_2, dX12_leads_7, dX12_leads_8, dis_4, dX12_leads_10, dil_4, dX12_leads_12, dX12_leads_13, dg2_12_272_0, dX12_leads_16, dX12_leads_19, dX12_leads_20, dX12_leads_22, dil_1, dX12_leads_23, dv2_12_485_0, moX12_answerTo, dX12_leads_26, dis_5, dX12_leads_28, dil_5, dX12_leads_30, dX12_leads_33, dX12_leads_36, dX12_leads_37, dX12_leads_40, dX12_leads_41, dg2_12_137_0, dX12_leads_44, dX12_leads_46, dX12_leads_48, dX12_leads_49, ds12_454, moX12_rowOf, dX12_leads_52, dX12_leads_53, dX12_leads_56, dX12_leads_57, dg2_12_140_0, dX12_leads_60, dX12_leads_62, dX12_leads_64, dX12_leads_65, dX12_leads_68, dX12_leads_69, dls_6, dX12_leads_71, dX12_leads_72, dg2_12_482_0, dX12_leads_75, dX12_leads_78, dll_6, dX12_leads_80, dll_2, dX12_leads_81, dX12_leads_82, dX12_leads_85, dX12_leads_88, dX12_leads_90, dX12_leads_91, dX12_leads_92, dX12_leads_94, dX12_leads_97, dX12_leads_98, dX12_leads_100, dp2_12_489_0, dX12_leads_103, dinc_4, dX12_leads_106, dX12_leads_109, dX12_leads_110, dX12_leads_113, dX12_leads_116, dX12_leads_117, dX12_leads_120, dX12_leads_121, dal2_36, ar2_36, dal2_37, ar2_37, hCu]
      repeat' (with_reducible (first | apply And.intro | intro _))
      all_goals first | omega | skip
      · rename_i q1 q2
        have e : (ω 3 8).toNat = m := by omega
        have e2 : υ 0 75 = zLc ω x y 1 := by
          unfold zLc
          rw [e]
          exact u3
        exact h υ 0 u1 u2 e2 (fun z => by rw [← e2]; exact (u4 (by rw [e2]; exact z)).1) (Or.inl ⟨by omega, rfl⟩)
      · rename_i q1 q2
        have e : (ω 3 8).toNat = m := by omega
        have e2 : υ 0 75 = zLc ω x y 1 := by
          unfold zLc
          rw [e]
          exact u3
        exact h υ 1 u1 u2 e2 (fun z => by rw [← e2]; exact (u4 (by rw [e2]; exact z)).1) (Or.inr ⟨by omega, rfl⟩)
      · rename_i q1
        refine y_ansY hJ hK hP hCu hGu ⟨by omega, by omega⟩ ?_
        have ha := anin m
        have wm := win m (zAn ω x y 1 m)
        apply hG [10] 60
        simp only [cq_lt, cq_le, cq_gt, cq_ge, cq_eq, cq_r1, cq_r2, ab_r32, ab_r64, ab_go, ab_stp, wp_z, ab_in, ab_rok, ab_wsum, ab_prm, ab_ret, ab_sw, ab_cd, ab_tg, ab_cat_i, ab_cat_l, ab_cat_r, ab_cl_n, ab_cl_i, ab_cl_l, ab_cl_r, ab_f2_0, ab_f2_1, ab_f4_0, ab_f4_1, ab_f4_2, ab_f4_3, ab_op_s, ab_b1_s, ab_b2_s, ab_l1_s, ab_l2_s, ab_li_s, ab_o1_s, ab_io_s, ab_lo1_s, ab_iio_s, ab_lio_s, ab_cp5_s, ab_d2_l, ab_d2_i, ab_d2_o, ex_iconst, ex_bipush, ex_sipush, ex_lconst, ex_ldc, ex_ldc_w, ex_ldc2_w, ex_iadd, ex_isub, ex_imul, ex_iand, ex_ior, ex_ixor, ex_ishl, ex_ishr, ex_iushr, ex_idiv, ex_irem, ex_ladd, ex_lsub, ex_lmul, ex_lor, ex_ldiv, ex_lrem, ex_lshl, ex_lcmp, ex_ineg, ex_lneg, ex_i2l, ex_l2i, ex_i2b, ex_dup, ex_pop, ex_dup2, ex_goto, ex_tableswitch, ex_aaload, ex_ireturn, ex_lreturn, ex_return_, List.map_cons, List.map_nil, List.sum_cons, List.sum_nil, List.drop_succ_cons, List.drop_zero, List.take_succ_cons, List.take_zero, List.reverse_cons, List.reverse_nil, List.nil_append, List.cons_append, List.length_cons, List.length_nil, true_and, and_true, cond_false, cond_true, Bool.false_or, Bool.or_false, Bool.or_true, Bool.true_or, true_or, or_true, false_or, or_false, if_true, if_false, reduceIte, ite_true, ite_false, implies_true, true_implies, false_implies, forall_const, not_true_eq_false, not_false_eq_true, Nat.reduceAdd, Nat.reduceMul, Nat.reduceSub, Nat.reduceBEq, Nat.reduceEqDiff, Nat.reduceLeDiff, Nat.reduceLT, Int.reduceAdd, Int.reduceSub, Int.reduceMul, Int.reduceNeg, Int.reduceToNat, Int.reduceLE, Int.reduceLT, Int.reduceEq, Int.reduceNe, Int.reduceNatCast, Nat.add_zero, Nat.zero_add, reduceCtorEq, Int.reduceNatCast', wp_c, wp_g, e2_ifCond, e2_if_icmp, ↓bq_t, ↓bq_f, ab_br, ↓ab_b1_s, ↓ab_b2_s, ↓ab_l1_s, ↓ab_l2_s, ↓ab_li_s, ↓ab_o1_s, ↓ab_io_s, ↓ab_lo1_s, ↓ab_iio_s, ↓ab_lio_s, ↓ab_cp5_s, moX12_leads, dX12_leads_0, dal_0, dX12_leads_1, dX12_leads_2, dp2_12_482_0, dX12_leads_5, dX12_leads_6, dls_2, dX12_leads_7, dX12_leads_8, dis_4, dX12_leads_10, dil_4, dX12_leads_12, dX12_leads_13, dg2_12_272_0, dX12_leads_16, dX12_leads_19, dX12_leads_20, dX12_leads_22, dil_1, dX12_leads_23, dv2_12_485_0, moX12_answerTo, dX12_leads_26, dis_5, dX12_leads_28, dil_5, dX12_leads_30, dX12_leads_33, dX12_leads_36, dX12_leads_37, dX12_leads_40, dX12_leads_41, dg2_12_137_0, dX12_leads_44, dX12_leads_46, dX12_leads_48, dX12_leads_49, ds12_454, moX12_rowOf, dX12_leads_52, dX12_leads_53, dX12_leads_56, dX12_leads_57, dg2_12_140_0, dX12_leads_60, dX12_leads_62, dX12_leads_64, dX12_leads_65, dX12_leads_68, dX12_leads_69, dls_6, dX12_leads_71, dX12_leads_72, dg2_12_482_0, dX12_leads_75, dX12_leads_78, dll_6, dX12_leads_80, dll_2, dX12_leads_81, dX12_leads_82, dX12_leads_85, dX12_leads_88, dX12_leads_90, dX12_leads_91, dX12_leads_92, dX12_leads_94, dX12_leads_97, dX12_leads_98, dX12_leads_100, dp2_12_489_0, dX12_leads_103, dinc_4, dX12_leads_106, dX12_leads_109, dX12_leads_110, dX12_leads_113, dX12_leads_116, dX12_leads_117, dX12_leads_120, dX12_leads_121, dal2_36, ar2_36, dal2_37, ar2_37]
        repeat' (with_reducible (first | apply And.intro | intro _))
        all_goals first | omega | skip
        · rename_i q2
          have hb : (0 ≤ zAn ω x y 1 m ∧ zAn ω x y 1 m < ω 3 8) ∧ zLl ω x y 1 m (zAn ω x y 1 m) := by
            rcases ha with e | e
            · omega
            · exact e
          have ww := wl m _ (by omega) (by omega) hb.1.1 hb.1.2 hb.2
          refine y_rowOf ?_
          rw [← u1 37 (by decide)] at ww
          try simp only [cq_lt, cq_le, cq_gt, cq_ge, cq_eq, cq_r1, cq_r2, ab_r32, ab_r64, ab_go, ab_stp, wp_z, ab_in, ab_rok, ab_wsum, ab_prm, ab_ret, ab_sw, ab_cd, ab_tg, ab_cat_i, ab_cat_l, ab_cat_r, ab_cl_n, ab_cl_i, ab_cl_l, ab_cl_r, ab_f2_0, ab_f2_1, ab_f4_0, ab_f4_1, ab_f4_2, ab_f4_3, ab_op_s, ab_b1_s, ab_b2_s, ab_l1_s, ab_l2_s, ab_li_s, ab_o1_s, ab_io_s, ab_lo1_s, ab_iio_s, ab_lio_s, ab_cp5_s, ab_d2_l, ab_d2_i, ab_d2_o, ex_iconst, ex_bipush, ex_sipush, ex_lconst, ex_ldc, ex_ldc_w, ex_ldc2_w, ex_iadd, ex_isub, ex_imul, ex_iand, ex_ior, ex_ixor, ex_ishl, ex_ishr, ex_iushr, ex_idiv, ex_irem, ex_ladd, ex_lsub, ex_lmul, ex_lor, ex_ldiv, ex_lrem, ex_lshl, ex_lcmp, ex_ineg, ex_lneg, ex_i2l, ex_l2i, ex_i2b, ex_dup, ex_pop, ex_dup2, ex_goto, ex_tableswitch, ex_aaload, ex_ireturn, ex_lreturn, ex_return_, List.map_cons, List.map_nil, List.sum_cons, List.sum_nil, List.drop_succ_cons, List.drop_zero, List.take_succ_cons, List.take_zero, List.reverse_cons, List.reverse_nil, List.nil_append, List.cons_append, List.length_cons, List.length_nil, true_and, and_true, cond_false, cond_true, Bool.false_or, Bool.or_false, Bool.or_true, Bool.true_or, true_or, or_true, false_or, or_false, if_true, if_false, reduceIte, ite_true, ite_false, implies_true, true_implies, false_implies, forall_const, not_true_eq_false, not_false_eq_true, Nat.reduceAdd, Nat.reduceMul, Nat.reduceSub, Nat.reduceBEq, Nat.reduceEqDiff, Nat.reduceLeDiff, Nat.reduceLT, Int.reduceAdd, Int.reduceSub, Int.reduceMul, Int.reduceNeg, Int.reduceToNat, Int.reduceLE, Int.reduceLT, Int.reduceEq, Int.reduceNe, Int.reduceNatCast, Nat.add_zero, Nat.zero_add, reduceCtorEq, Int.reduceNatCast', wp_c, wp_g, e2_ifCond, e2_if_icmp, ↓bq_t, ↓bq_f, ab_br, ↓ab_b1_s, ↓ab_b2_s, ↓ab_l1_s, ↓ab_l2_s, ↓ab_li_s, ↓ab_o1_s, ↓ab_io_s, ↓ab_lo1_s, ↓ab_iio_s, ↓ab_lio_s, ↓ab_cp5_s, moX12_leads, dX12_leads_0, dal_0, dX12_leads_1, dX12_leads_2, dp2_12_482_0, dX12_leads_5, dX12_leads_6, dls_2, dX12_leads_7, dX12_leads_8, dis_4, dX12_leads_10, dil_4, dX12_leads_12, dX12_leads_13, dg2_12_272_0, dX12_leads_16, dX12_leads_19, dX12_leads_20, dX12_leads_22, dil_1, dX12_leads_23, dv2_12_485_0, moX12_answerTo, dX12_leads_26, dis_5, dX12_leads_28, dil_5, dX12_leads_30, dX12_leads_33, dX12_leads_36, dX12_leads_37, dX12_leads_40, dX12_leads_41, dg2_12_137_0, dX12_leads_44, dX12_leads_46, dX12_leads_48, dX12_leads_49, ds12_454, moX12_rowOf, dX12_leads_52, dX12_leads_53, dX12_leads_56, dX12_leads_57, dg2_12_140_0, dX12_leads_60, dX12_leads_62, dX12_leads_64, dX12_leads_65, dX12_leads_68, dX12_leads_69, dls_6, dX12_leads_71, dX12_leads_72, dg2_12_482_0, dX12_leads_75, dX12_leads_78, dll_6, dX12_leads_80, dll_2, dX12_leads_81, dX12_leads_82, dX12_leads_85, dX12_leads_88, dX12_leads_90, dX12_leads_91, dX12_leads_92, dX12_leads_94, dX12_leads_97, dX12_leads_98, dX12_leads_100, dp2_12_489_0, dX12_leads_103, dinc_4, dX12_leads_106, dX12_leads_109, dX12_leads_110, dX12_leads_113, dX12_leads_116, dX12_leads_117, dX12_leads_120, dX12_leads_121, dal2_36, ar2_36, dal2_37, ar2_37, ww]
          repeat' (with_reducible (first | apply And.intro | intro _))
          all_goals first | omega | skip
          · exact yes (by omega) (by omega) (Or.inl (by omega)) _ _ _
          all_goals (obtain ⟨u6, u7⟩ := u4 (by omega))
          all_goals first | omega | skip
          · refine yes (by omega) (by omega) (Or.inr (by omega)) _ _ _
          · refine no (by omega) (fun z => ?_) _ _ _
            rcases z.2 with e | e <;> omega
        · rename_i q2
          refine no (by omega) (fun z => ?_) _ _ _
          have := z.1
          rcases ha with e | e
          · exact this e
          · omega
  apply hG [10] 60
  simp only [cq_lt, cq_le, cq_gt, cq_ge, cq_eq, cq_r1, cq_r2, ab_r32, ab_r64, ab_go, ab_stp, wp_z, ab_in, ab_rok, ab_wsum, ab_prm, ab_ret, ab_sw, ab_cd, ab_tg, ab_cat_i, ab_cat_l, ab_cat_r, ab_cl_n, ab_cl_i, ab_cl_l, ab_cl_r, ab_f2_0, ab_f2_1, ab_f4_0, ab_f4_1, ab_f4_2, ab_f4_3, ab_op_s, ab_b1_s, ab_b2_s, ab_l1_s, ab_l2_s, ab_li_s, ab_o1_s, ab_io_s, ab_lo1_s, ab_iio_s, ab_lio_s, ab_cp5_s, ab_d2_l, ab_d2_i, ab_d2_o, ex_iconst, ex_bipush, ex_sipush, ex_lconst, ex_ldc, ex_ldc_w, ex_ldc2_w, ex_iadd, ex_isub, ex_imul, ex_iand, ex_ior, ex_ixor, ex_ishl, ex_ishr, ex_iushr, ex_idiv, ex_irem, ex_ladd, ex_lsub, ex_lmul, ex_lor, ex_ldiv, ex_lrem, ex_lshl, ex_lcmp, ex_ineg, ex_lneg, ex_i2l, ex_l2i, ex_i2b, ex_dup, ex_pop, ex_dup2, ex_goto, ex_tableswitch, ex_aaload, ex_ireturn, ex_lreturn, ex_return_, List.map_cons, List.map_nil, List.sum_cons, List.sum_nil, List.drop_succ_cons, List.drop_zero, List.take_succ_cons, List.take_zero, List.reverse_cons, List.reverse_nil, List.nil_append, List.cons_append, List.length_cons, List.length_nil, true_and, and_true, cond_false, cond_true, Bool.false_or, Bool.or_false, Bool.or_true, Bool.true_or, true_or, or_true, false_or, or_false, if_true, if_false, reduceIte, ite_true, ite_false, implies_true, true_implies, false_implies, forall_const, not_true_eq_false, not_false_eq_true, Nat.reduceAdd, Nat.reduceMul, Nat.reduceSub, Nat.reduceBEq, Nat.reduceEqDiff, Nat.reduceLeDiff, Nat.reduceLT, Int.reduceAdd, Int.reduceSub, Int.reduceMul, Int.reduceNeg, Int.reduceToNat, Int.reduceLE, Int.reduceLT, Int.reduceEq, Int.reduceNe, Int.reduceNatCast, Nat.add_zero, Nat.zero_add, reduceCtorEq, Int.reduceNatCast', wp_c, wp_g, e2_ifCond, e2_if_icmp, ↓bq_t, ↓bq_f, ab_br, ↓ab_b1_s, ↓ab_b2_s, ↓ab_l1_s, ↓ab_l2_s, ↓ab_li_s, ↓ab_o1_s, ↓ab_io_s, ↓ab_lo1_s, ↓ab_iio_s, ↓ab_lio_s, ↓ab_cp5_s, moX12_leads, dX12_leads_0, dal_0, dX12_leads_1, dX12_leads_2, dp2_12_482_0, dX12_leads_5, dX12_leads_6, dls_2, dX12_leads_7, dX12_leads_8, dis_4, dX12_leads_10, dil_4, dX12_leads_12, dX12_leads_13, dg2_12_272_0, dX12_leads_16, dX12_leads_19, dX12_leads_20, dX12_leads_22, dil_1, dX12_leads_23, dv2_12_485_0, moX12_answerTo, dX12_leads_26, dis_5, dX12_leads_28, dil_5, dX12_leads_30, dX12_leads_33, dX12_leads_36, dX12_leads_37, dX12_leads_40, dX12_leads_41, dg2_12_137_0, dX12_leads_44, dX12_leads_46, dX12_leads_48, dX12_leads_49, ds12_454, moX12_rowOf, dX12_leads_52, dX12_leads_53, dX12_leads_56, dX12_leads_57, dg2_12_140_0, dX12_leads_60, dX12_leads_62, dX12_leads_64, dX12_leads_65, dX12_leads_68, dX12_leads_69, dls_6, dX12_leads_71, dX12_leads_72, dg2_12_482_0, dX12_leads_75, dX12_leads_78, dll_6, dX12_leads_80, dll_2, dX12_leads_81, dX12_leads_82, dX12_leads_85, dX12_leads_88, dX12_leads_90, dX12_leads_91, dX12_leads_92, dX12_leads_94, dX12_leads_97, dX12_leads_98, dX12_leads_100, dp2_12_489_0, dX12_leads_103, dinc_4, dX12_leads_106, dX12_leads_109, dX12_leads_110, dX12_leads_113, dX12_leads_116, dX12_leads_117, dX12_leads_120, dX12_leads_121, dal2_36, ar2_36, dal2_37, ar2_37]
  refine key 13 0 0 _ _ _ _ (by omega) (by omega) (fun o o1 => ab_up_o o o1) (fun k k1 k2 => ?_) rfl (fun z => absurd rfl z) (by omega)
  show (if k = 75 then _ else τ 0 k) = _
  rw [if_neg k1]
