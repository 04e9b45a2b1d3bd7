-- CLASS: Pricing.prepare, pairAt
set_option maxRecDepth 100000 in
set_option maxHeartbeats 4000000 in
theorem r_pairAt {σ : ab_S} {k lo : Int} {K : ab_V → ab_S → Prop} (hk : 0 ≤ k ∧ k < 441) (hlo : σ 96 10 = lo) (hr : 0 ≤ σ 99 k ∧ σ 99 k < 441) (h : K (vI (100 * (lo + σ 99 k / 21) + lo + σ 99 k % 21)) σ) : ab_Runs ab_G1 mdX5_pairAt [vR 96, vI k] σ K := by
  refine ab_runs mwX5_pairAt (by decide +kernel) (Nat.le_of_ble_eq_true rfl) (fun G hG => ?_)
  show G 0 [some (vR 96), some (vI k)] [] _
  apply hG [9999] 60
  simp only [cq_lt, cq_le, cq_gt, cq_ge, cq_eq, cq_r1, cq_r2, ab_r32, ab_r64, ab_go, ab_stp, wp_z, ab_in, ab_rok, ab_wsum, ab_prm, ab_ret, ab_sw, ab_cd, ab_tg, ab_cat_i, ab_cat_l, ab_cat_r, ab_cl_n, ab_cl_i, ab_cl_l, ab_cl_r, ab_f2_0, ab_f2_1, ab_f4_0, ab_f4_1, ab_f4_2, ab_f4_3, ab_op_s, ab_b1_s, ab_b2_s, ab_l1_s, ab_l2_s, ab_li_s, ab_o1_s, ab_io_s, ab_lo1_s, ab_iio_s, ab_lio_s, ab_cp5_s, ab_d2_l, ab_d2_i, ab_d2_o, ex_iconst, ex_bipush, ex_sipush, ex_lconst, ex_ldc, ex_ldc_w, ex_ldc2_w, ex_iadd, ex_isub, ex_imul, ex_iand, ex_ior, ex_ixor, ex_ishl, ex_ishr, ex_iushr, ex_idiv, ex_irem, ex_ladd, ex_lsub, ex_lmul, ex_lor, ex_ldiv, ex_lrem, ex_lshl, ex_lcmp, ex_ineg, ex_lneg, ex_i2l, ex_l2i, ex_i2b, ex_dup, ex_pop, ex_dup2, ex_goto, ex_tableswitch, ex_aaload, ex_ireturn, ex_lreturn, ex_return_, List.map_cons, List.map_nil, List.sum_cons, List.sum_nil, List.drop_succ_cons, List.drop_zero, List.take_succ_cons, List.take_zero, List.reverse_cons, List.reverse_nil, List.nil_append, List.cons_append, List.length_cons, List.length_nil, true_and, and_true, cond_false, cond_true, Bool.false_or, Bool.or_false, Bool.or_true, Bool.true_or, true_or, or_true, false_or, or_false, if_true, if_false, reduceIte, ite_true, ite_false, implies_true, true_implies, false_implies, forall_const, not_true_eq_false, not_false_eq_true, Nat.reduceAdd, Nat.reduceMul, Nat.reduceSub, Nat.reduceBEq, Nat.reduceEqDiff, Nat.reduceLeDiff, Nat.reduceLT, Int.reduceAdd, Int.reduceSub, Int.reduceMul, Int.reduceNeg, Int.reduceToNat, Int.reduceLE, Int.reduceLT, Int.reduceEq, Int.reduceNe, Int.reduceNatCast, Nat.add_zero, Nat.zero_add, reduceCtorEq, Int.reduceNatCast', wp_c, wp_g, e2_ifCond, e2_if_icmp, ↓bq_t, ↓bq_f, ab_br, ↓ab_b1_s, ↓ab_b2_s, ↓ab_l1_s, ↓ab_l2_s, ↓ab_li_s, ↓ab_o1_s, ↓ab_io_s, ↓ab_lo1_s, ↓ab_iio_s, ↓ab_lio_s, ↓ab_cp5_s, moX5_pairAt, dX5_pairAt_0, dX5_pairAt_2, dal_0, dX5_pairAt_3, dg1_5_35_96, dX5_pairAt_6, dX5_pairAt_7, dg1_5_18_96, dX5_pairAt_10, dil_1, dX5_pairAt_11, dX5_pairAt_12, dX5_pairAt_14, dX5_pairAt_15, dX5_pairAt_16, dX5_pairAt_17, dX5_pairAt_18, dX5_pairAt_21, dX5_pairAt_22, dX5_pairAt_23, dX5_pairAt_26, dX5_pairAt_27, dX5_pairAt_28, dX5_pairAt_30, dX5_pairAt_31, dX5_pairAt_32, dal1_99, hlo]
  repeat' (with_reducible (first | apply And.intro | intro _))
  all_goals first | omega | exact h
/-- the frame of prepare; its stamp and players are fields 12 to 14 -/
def zFy (σ ρ : ab_S) : Prop := ∀ o, (o < 65 ∨ (75 < o ∧ o < 96) ∨ 99 < o) → ρ o = σ o
def zPz (ω ρ : ab_S) (x y : Int) : Prop := zPs ω (ω 35) (zP0 ω) x y ρ
set_option maxRecDepth 100000 in
set_option maxHeartbeats 4000000 in
theorem l_pPrepare {ω σ : ab_S} {x y now : Int} {K : ab_V → ab_S → Prop} (hJ : zJ ω) (hK : zK ω) (hP : zPl ω x y (-1)) (hF : zFr ω σ) (hnow : -1000 ≤ now ∧ now ≤ 1000000) (hs2 : (-1000 ≤ σ 96 12 ∧ σ 96 12 ≤ 1000000) ∧ (-1000 ≤ σ 96 13 ∧ σ 96 13 ≤ 1000) ∧ (-1000 ≤ σ 96 14 ∧ σ 96 14 ≤ 1000)) (hc : σ 96 12 = now → zPz ω σ (σ 96 13) (σ 96 14))
    (h : ∀ ρ, zFy σ ρ → ρ 96 12 = now → ρ 96 13 = x → ρ 96 14 = y → zPz ω ρ x y → K (vI 0) ρ) : ab_Runs ab_G1 mdX5_prepare [vR 96, vI now, vI x, vI y] σ K := by
  refine ab_runs mwX5_prepare (by decide +kernel) (Nat.le_of_ble_eq_true rfl) (fun G hG => ?_)
  show G 0 [some (vR 96), some (vI now), some (vI x), some (vI y)] [] _
  have hn := hK.1
  obtain ⟨px, py, pxy, -⟩ := id hP
  have beg : G 25 [some (vR 96), some (vI now), some (vI x), some (vI y)] [] σ := by
    apply hG [9999] 60
    simp only [cq_lt, cq_le, cq_gt, cq_ge, cq_eq, cq_r1, cq_r2, ab_r32, ab_r64, ab_go, ab_stp, wp_z, ab_in, ab_rok, ab_wsum, ab_prm, ab_ret, ab_sw, ab_cd, ab_tg, ab_cat_i, ab_cat_l, ab_cat_r, ab_cl_n, ab_cl_i, ab_cl_l, ab_cl_r, ab_f2_0, ab_f2_1, ab_f4_0, ab_f4_1, ab_f4_2, ab_f4_3, ab_op_s, ab_b1_s, ab_b2_s, ab_l1_s, ab_l2_s, ab_li_s, ab_o1_s, ab_io_s, ab_lo1_s, ab_iio_s, ab_lio_s, ab_cp5_s, ab_d2_l, ab_d2_i, ab_d2_o, ex_iconst, ex_bipush, ex_sipush, ex_lconst, ex_ldc, ex_ldc_w, ex_ldc2_w, ex_iadd, ex_isub, ex_imul, ex_iand, ex_ior, ex_ixor, ex_ishl, ex_ishr, ex_iushr, ex_idiv, ex_irem, ex_ladd, ex_lsub, ex_lmul, ex_lor, ex_ldiv, ex_lrem, ex_lshl, ex_lcmp, ex_ineg, ex_lneg, ex_i2l, ex_l2i, ex_i2b, ex_dup, ex_pop, ex_dup2, ex_goto, ex_tableswitch, ex_aaload, ex_ireturn, ex_lreturn, ex_return_, List.map_cons, List.map_nil, List.sum_cons, List.sum_nil, List.drop_succ_cons, List.drop_zero, List.take_succ_cons, List.take_zero, List.reverse_cons, List.reverse_nil, List.nil_append, List.cons_append, List.length_cons, List.length_nil, true_and, and_true, cond_false, cond_true, Bool.false_or, Bool.or_false, Bool.or_true, Bool.true_or, true_or, or_true, false_or, or_false, if_true, if_false, reduceIte, ite_true, ite_false, implies_true, true_implies, false_implies, forall_const, not_true_eq_false, not_false_eq_true, Nat.reduceAdd, Nat.reduceMul, Nat.reduceSub, Nat.reduceBEq, Nat.reduceEqDiff, Nat.reduceLeDiff, Nat.reduceLT, Int.reduceAdd, Int.reduceSub, Int.reduceMul, Int.reduceNeg, Int.reduceToNat, Int.reduceLE, Int.reduceLT, Int.reduceEq, Int.reduceNe, Int.reduceNatCast, Nat.add_zero, Nat.zero_add, reduceCtorEq, Int.reduceNatCast', wp_c, wp_g, e2_ifCond, e2_if_icmp, ↓bq_t, ↓bq_f, ab_br, ↓ab_b1_s, ↓ab_b2_s, ↓ab_l1_s, ↓ab_l2_s, ↓ab_li_s, ↓ab_o1_s, ↓ab_io_s, ↓ab_lo1_s, ↓ab_iio_s, ↓ab_lio_s, ↓ab_cp5_s, moX5_prepare, dX5_prepare_0, dal_0, dX5_prepare_1, dg1_5_41_96, dX5_prepare_4, dil_1, dX5_prepare_5, dX5_prepare_8, dX5_prepare_9, dg1_5_44_96, dX5_prepare_12, dil_2, dX5_prepare_13, dX5_prepare_16, dX5_prepare_17, dg1_5_47_96, dX5_prepare_20, dil_3, dX5_prepare_21, dX5_prepare_24, dX5_prepare_25, dX5_prepare_26, dX5_prepare_27, dp1_5_41_96, dX5_prepare_30, dX5_prepare_31, dX5_prepare_32, dp1_5_44_96, dX5_prepare_35, dX5_prepare_36, dX5_prepare_37, dp1_5_47_96, dX5_prepare_40, dX5_prepare_41, dg1_5_58_96, dX5_prepare_44, dX5_prepare_45, dg1_5_54_96, dX5_prepare_48, dv1_5_62_65, moX3_load, dX5_prepare_51, dX5_prepare_52, dX5_prepare_53, dX5_prepare_54, dv1_5_68_96, moX5_findPairs, dX5_prepare_57]
    repeat' (with_reducible (first | apply And.intro | intro _))
    all_goals first | omega | skip
    have hF2 : zFr ω (ab_up (ab_up (ab_up σ 96 12 now) 96 13 x) 96 14 y) := fun o o1 => by
      rw [ab_up_o o (by omega), ab_up_o o (by omega), ab_up_o o (by omega)]
      exact hF o o1
    refine l_load hJ hK hF2 (fun φ a1 a2 => ?_)
    try simp only [cq_lt, cq_le, cq_gt, cq_ge, cq_eq, cq_r1, cq_r2, ab_r32, ab_r64, ab_go, ab_stp, wp_z, ab_in, ab_rok, ab_wsum, ab_prm, ab_ret, ab_sw, ab_cd, ab_tg, ab_cat_i, ab_cat_l, ab_cat_r, ab_cl_n, ab_cl_i, ab_cl_l, ab_cl_r, ab_f2_0, ab_f2_1, ab_f4_0, ab_f4_1, ab_f4_2, ab_f4_3, ab_op_s, ab_b1_s, ab_b2_s, ab_l1_s, ab_l2_s, ab_li_s, ab_o1_s, ab_io_s, ab_lo1_s, ab_iio_s, ab_lio_s, ab_cp5_s, ab_d2_l, ab_d2_i, ab_d2_o, ex_iconst, ex_bipush, ex_sipush, ex_lconst, ex_ldc, ex_ldc_w, ex_ldc2_w, ex_iadd, ex_isub, ex_imul, ex_iand, ex_ior, ex_ixor, ex_ishl, ex_ishr, ex_iushr, ex_idiv, ex_irem, ex_ladd, ex_lsub, ex_lmul, ex_lor, ex_ldiv, ex_lrem, ex_lshl, ex_lcmp, ex_ineg, ex_lneg, ex_i2l, ex_l2i, ex_i2b, ex_dup, ex_pop, ex_dup2, ex_goto, ex_tableswitch, ex_aaload, ex_ireturn, ex_lreturn, ex_return_, List.map_cons, List.map_nil, List.sum_cons, List.sum_nil, List.drop_succ_cons, List.drop_zero, List.take_succ_cons, List.take_zero, List.reverse_cons, List.reverse_nil, List.nil_append, List.cons_append, List.length_cons, List.length_nil, true_and, and_true, cond_false, cond_true, Bool.false_or, Bool.or_false, Bool.or_true, Bool.true_or, true_or, or_true, false_or, or_false, if_true, if_false, reduceIte, ite_true, ite_false, implies_true, true_implies, false_implies, forall_const, not_true_eq_false, not_false_eq_true, Nat.reduceAdd, Nat.reduceMul, Nat.reduceSub, Nat.reduceBEq, Nat.reduceEqDiff, Nat.reduceLeDiff, Nat.reduceLT, Int.reduceAdd, Int.reduceSub, Int.reduceMul, Int.reduceNeg, Int.reduceToNat, Int.reduceLE, Int.reduceLT, Int.reduceEq, Int.reduceNe, Int.reduceNatCast, Nat.add_zero, Nat.zero_add, reduceCtorEq, Int.reduceNatCast', wp_c, wp_g, e2_ifCond, e2_if_icmp, ↓bq_t, ↓bq_f, ab_br, ↓ab_b1_s, ↓ab_b2_s, ↓ab_l1_s, ↓ab_l2_s, ↓ab_li_s, ↓ab_o1_s, ↓ab_io_s, ↓ab_lo1_s, ↓ab_iio_s, ↓ab_lio_s, ↓ab_cp5_s, moX5_prepare, dX5_prepare_0, dal_0, dX5_prepare_1, dg1_5_41_96, dX5_prepare_4, dil_1, dX5_prepare_5, dX5_prepare_8, dX5_prepare_9, dg1_5_44_96, dX5_prepare_12, dil_2, dX5_prepare_13, dX5_prepare_16, dX5_prepare_17, dg1_5_47_96, dX5_prepare_20, dil_3, dX5_prepare_21, dX5_prepare_24, dX5_prepare_25, dX5_prepare_26, dX5_prepare_27, dp1_5_41_96, dX5_prepare_30, dX5_prepare_31, dX5_prepare_32, dp1_5_44_96, dX5_prepare_35, dX5_prepare_36, dX5_prepare_37, dp1_5_47_96, dX5_prepare_40, dX5_prepare_41, dg1_5_58_96, dX5_prepare_44, dX5_prepare_45, dg1_5_54_96, dX5_prepare_48, dv1_5_62_65, moX3_load, dX5_prepare_51, dX5_prepare_52, dX5_prepare_53, dX5_prepare_54, dv1_5_68_96, moX5_findPairs, dX5_prepare_57]
    repeat' (with_reducible (first | apply And.intro | intro _))
    all_goals first | omega | skip
    refine l_findPairs hJ hK a1 (zOk_0 hJ hK) px py pxy (fun ψ u v u1 v1 b1 b2 b3 => ?_)
    try simp only [cq_lt, cq_le, cq_gt, cq_ge, cq_eq, cq_r1, cq_r2, ab_r32, ab_r64, ab_go, ab_stp, wp_z, ab_in, ab_rok, ab_wsum, ab_prm, ab_ret, ab_sw, ab_cd, ab_tg, ab_cat_i, ab_cat_l, ab_cat_r, ab_cl_n, ab_cl_i, ab_cl_l, ab_cl_r, ab_f2_0, ab_f2_1, ab_f4_0, ab_f4_1, ab_f4_2, ab_f4_3, ab_op_s, ab_b1_s, ab_b2_s, ab_l1_s, ab_l2_s, ab_li_s, ab_o1_s, ab_io_s, ab_lo1_s, ab_iio_s, ab_lio_s, ab_cp5_s, ab_d2_l, ab_d2_i, ab_d2_o, ex_iconst, ex_bipush, ex_sipush, ex_lconst, ex_ldc, ex_ldc_w, ex_ldc2_w, ex_iadd, ex_isub, ex_imul, ex_iand, ex_ior, ex_ixor, ex_ishl, ex_ishr, ex_iushr, ex_idiv, ex_irem, ex_ladd, ex_lsub, ex_lmul, ex_lor, ex_ldiv, ex_lrem, ex_lshl, ex_lcmp, ex_ineg, ex_lneg, ex_i2l, ex_l2i, ex_i2b, ex_dup, ex_pop, ex_dup2, ex_goto, ex_tableswitch, ex_aaload, ex_ireturn, ex_lreturn, ex_return_, List.map_cons, List.map_nil, List.sum_cons, List.sum_nil, List.drop_succ_cons, List.drop_zero, List.take_succ_cons, List.take_zero, List.reverse_cons, List.reverse_nil, List.nil_append, List.cons_append, List.length_cons, List.length_nil, true_and, and_true, cond_false, cond_true, Bool.false_or, Bool.or_false, Bool.or_true, Bool.true_or, true_or, or_true, false_or, or_false, if_true, if_false, reduceIte, ite_true, ite_false, implies_true, true_implies, false_implies, forall_const, not_true_eq_false, not_false_eq_true, Nat.reduceAdd, Nat.reduceMul, Nat.reduceSub, Nat.reduceBEq, Nat.reduceEqDiff, Nat.reduceLeDiff, Nat.reduceLT, Int.reduceAdd, Int.reduceSub, Int.reduceMul, Int.reduceNeg, Int.reduceToNat, Int.reduceLE, Int.reduceLT, Int.reduceEq, Int.reduceNe, Int.reduceNatCast, Nat.add_zero, Nat.zero_add, reduceCtorEq, Int.reduceNatCast', wp_c, wp_g, e2_ifCond, e2_if_icmp, ↓bq_t, ↓bq_f, ab_br, ↓ab_b1_s, ↓ab_b2_s, ↓ab_l1_s, ↓ab_l2_s, ↓ab_li_s, ↓ab_o1_s, ↓ab_io_s, ↓ab_lo1_s, ↓ab_iio_s, ↓ab_lio_s, ↓ab_cp5_s, moX5_prepare, dX5_prepare_0, dal_0, dX5_prepare_1, dg1_5_41_96, dX5_prepare_4, dil_1, dX5_prepare_5, dX5_prepare_8, dX5_prepare_9, dg1_5_44_96, dX5_prepare_12, dil_2, dX5_prepare_13, dX5_prepare_16, dX5_prepare_17, dg1_5_47_96, dX5_prepare_20, dil_3, dX5_prepare_21, dX5_prepare_24, dX5_prepare_25, dX5_prepare_26, dX5_prepare_27, dp1_5_41_96, dX5_prepare_30, dX5_prepare_31, dX5_prepare_32, dp1_5_44_96, dX5_prepare_35, dX5_prepare_36, dX5_prepare_37, dp1_5_47_96, dX5_prepare_40, dX5_prepare_41, dg1_5_58_96, dX5_prepare_44, dX5_prepare_45, dg1_5_54_96, dX5_prepare_48, dv1_5_62_65, moX3_load, dX5_prepare_51, dX5_prepare_52, dX5_prepare_53, dX5_prepare_54, dv1_5_68_96, moX5_findPairs, dX5_prepare_57]
    have e : ∀ k, 12 ≤ k → ψ 96 k = ab_up (ab_up (ab_up σ 96 12 now) 96 13 x) 96 14 y 96 k := fun k k1 => by
      rw [b2.2 k k1, a2 96 (by decide)]
    refine h ψ (fun o o1 => ?_) ?_ ?_ ?_ b3
    · rw [b2.1 o o1, a2 o (by omega), ab_up_o o (by omega), ab_up_o o (by omega), ab_up_o o (by omega)]
    · rw [e 12 (by decide)]
      rfl
    · rw [e 13 (by decide)]
      rfl
    · rw [e 14 (by decide)]
      rfl
  apply hG [25] 60
  simp only [cq_lt, cq_le, cq_gt, cq_ge, cq_eq, cq_r1, cq_r2, ab_r32, ab_r64, ab_go, ab_stp, wp_z, ab_in, ab_rok, ab_wsum, ab_prm, ab_ret, ab_sw, ab_cd, ab_tg, ab_cat_i, ab_cat_l, ab_cat_r, ab_cl_n, ab_cl_i, ab_cl_l, ab_cl_r, ab_f2_0, ab_f2_1, ab_f4_0, ab_f4_1, ab_f4_2, ab_f4_3, ab_op_s, ab_b1_s, ab_b2_s, ab_l1_s, ab_l2_s, ab_li_s, ab_o1_s, ab_io_s, ab_lo1_s, ab_iio_s, ab_lio_s, ab_cp5_s, ab_d2_l, ab_d2_i, ab_d2_o, ex_iconst, ex_bipush, ex_sipush, ex_lconst, ex_ldc, ex_ldc_w, ex_ldc2_w, ex_iadd, ex_isub, ex_imul, ex_iand, ex_ior, ex_ixor, ex_ishl, ex_ishr, ex_iushr, ex_idiv, ex_irem, ex_ladd, ex_lsub, ex_lmul, ex_lor, ex_ldiv, ex_lrem, ex_lshl, ex_lcmp, ex_ineg, ex_lneg, ex_i2l, ex_l2i, ex_i2b, ex_dup, ex_pop, ex_dup2, ex_goto, ex_tableswitch, ex_aaload, ex_ireturn, ex_lreturn, ex_return_, List.map_cons, List.map_nil, List.sum_cons, List.sum_nil, List.drop_succ_cons, List.drop_zero, List.take_succ_cons, List.take_zero, List.reverse_cons, List.reverse_nil, List.nil_append, List.cons_append, List.length_cons, List.length_nil, true_and, and_true, cond_false, cond_true, Bool.false_or, Bool.or_false, Bool.or_true, Bool.true_or, true_or, or_true, false_or, or_false, if_true, if_false, reduceIte, ite_true, ite_false, implies_true, true_implies, false_implies, forall_const, not_true_eq_false, not_false_eq_true, Nat.reduceAdd, Nat.reduceMul, Nat.reduceSub, Nat.reduceBEq, Nat.reduceEqDiff, Nat.reduceLeDiff, Nat.reduceLT, Int.reduceAdd, Int.reduceSub, Int.reduceMul, Int.reduceNeg, Int.reduceToNat, Int.reduceLE, Int.reduceLT, Int.reduceEq, Int.reduceNe, Int.reduceNatCast, Nat.add_zero, Nat.zero_add, reduceCtorEq, Int.reduceNatCast', wp_c, wp_g, e2_ifCond, e2_if_icmp, ↓bq_t, ↓bq_f, ab_br, ↓ab_b1_s, ↓ab_b2_s, ↓ab_l1_s, ↓ab_l2_s, ↓ab_li_s, ↓ab_o1_s, ↓ab_io_s, ↓ab_lo1_s, ↓ab_iio_s, ↓ab_lio_s, ↓ab_cp5_s, moX5_prepare, dX5_prepare_0, dal_0, dX5_prepare_1, dg1_5_41_96, dX5_prepare_4, dil_1, dX5_prepare_5, dX5_prepare_8, dX5_prepare_9, dg1_5_44_96, dX5_prepare_12, dil_2, dX5_prepare_13, dX5_prepare_16, dX5_prepare_17, dg1_5_47_96, dX5_prepare_20, dil_3, dX5_prepare_21, dX5_prepare_24, dX5_prepare_25, dX5_prepare_26, dX5_prepare_27, dp1_5_41_96, dX5_prepare_30, dX5_prepare_31, dX5_prepare_32, dp1_5_44_96, dX5_prepare_35, dX5_prepare_36, dX5_prepare_37, dp1_5_47_96, dX5_prepare_40, dX5_prepare_41, dg1_5_58_96, dX5_prepare_44, dX5_prepare_45, dg1_5_54_96, dX5_prepare_48, dv1_5_62_65, moX3_load, dX5_prepare_51, dX5_prepare_52, dX5_prepare_53, dX5_prepare_54, dv1_5_68_96, moX5_findPairs, dX5_prepare_57]
  repeat' (with_reducible (first | apply And.intro | intro _))
  all_goals first | omega | exact beg | skip
  rename_i q1 q2 q3
  have e1 : σ 96 12 = now := by omega
  have e2 : σ 96 13 = x := by omega
  have e3 : σ 96 14 = y := by omega
  have := hc e1
  rw [e2, e3] at this
  exact h σ (fun _ _ => rfl) e1 e2 e3 this
/-- what prices answers -/
def zPa (ω : ab_S) (x y k v : Int) : Prop := (k = -1 ∧ v = zct (zPc ω (ω 35) (zP0 ω) x y) 441) ∨ (0 ≤ k ∧ ∃ i j, (0 ≤ i ∧ i < zwd ω) ∧ (0 ≤ j ∧ j < zwd ω) ∧ zPr ω (ω 35) (zP0 ω) x y i j ∧ zct (zPc ω (ω 35) (zP0 ω) x y) (21 * i + j).toNat = k ∧ v = 100 * (zlo ω + i) + zlo ω + j) ∨ (0 ≤ k ∧ zct (zPc ω (ω 35) (zP0 ω) x y) 441 ≤ k ∧ v = -1)
theorem zPa_one {ω : ab_S} {x y k v w : Int} (hJ : zJ ω) (a : zPa ω x y k v) (b : zPa ω x y k w) : v = w := by
  obtain ⟨hwd, hlo⟩ := zwd_in hJ
  have lt : ∀ {i j : Int}, (0 ≤ i ∧ i < zwd ω) → (0 ≤ j ∧ j < zwd ω) → zPr ω (ω 35) (zP0 ω) x y i j → ∀ r : Nat, 21 * i + j < r → zct (zPc ω (ω 35) (zP0 ω) x y) (21 * i + j).toNat < zct (zPc ω (ω 35) (zP0 ω) x y) r := by
    intro i j h1 h2 h3 r hr
    exact zct_lt ⟨i, j, h1, h2, by omega, h3⟩ (by omega)
  rcases a with ⟨a1, a2⟩ | ⟨a1, i, j, a3, a4, a5, a6, a7⟩ | ⟨a1, a2, a3⟩
  · rcases b with ⟨b1, b2⟩ | ⟨b1, -⟩ | ⟨b1, -⟩
    · rw [a2, b2]
    · omega
    · omega
  · rcases b with ⟨b1, b2⟩ | ⟨b1, i2, j2, b3, b4, b5, b6, b7⟩ | ⟨b1, b2, b3⟩
    · omega
    · have e : 21 * i + j = 21 * i2 + j2 := by
        by_cases c : 21 * i + j < 21 * i2 + j2
        · have := lt a3 a4 a5 (21 * i2 + j2).toNat (by omega)
          omega
        · by_cases c2 : 21 * i2 + j2 < 21 * i + j
          · have := lt b3 b4 b5 (21 * i + j).toNat (by omega)
            omega
          · omega
      have e1 : i = i2 := by omega
      have e2 : j = j2 := by omega
      rw [a7, b7, e1, e2]
    · have := lt a3 a4 a5 441 (by omega)
      omega
  · rcases b with ⟨b1, b2⟩ | ⟨b1, i2, j2, b3, b4, b5, b6, b7⟩ | ⟨b1, b2, b3⟩
    · omega
    · have := lt b3 b4 b5 441 (by omega)
      omega
    · omega
