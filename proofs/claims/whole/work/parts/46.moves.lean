-- CLASS: Moves, what a seller may do
/-- nothing but the market and the moves' own is otherwise -/
def zFv (σ ρ : ab_S) : Prop := (∀ o, (o < 65 ∨ (75 < o ∧ o ≠ 82 ∧ o ≠ 83)) → ρ o = σ o) ∧ ∀ k, 12 ≤ k → ρ 82 k = σ 82 k
theorem zFv_refl (σ : ab_S) : zFv σ σ := ⟨fun _ _ => rfl, fun _ _ => rfl⟩
theorem zFv_trans {σ ρ υ : ab_S} (h1 : zFv σ ρ) (h2 : zFv ρ υ) : zFv σ υ := ⟨fun o ho => (h2.1 o ho).trans (h1.1 o ho), fun k hk => (h2.2 k hk).trans (h1.2 k hk)⟩
theorem zFm_v {σ ρ : ab_S} (h : zFm σ ρ) : zFv σ ρ := ⟨fun o ho => h o (by omega), fun k _ => by rw [h 82 (by omega)]⟩
set_option maxRecDepth 100000 in
set_option maxHeartbeats 4000000 in
theorem l_standing {ω σ : ab_S} {sp pr : Int → Int} {s : Int} {K : ab_V → ab_S → Prop} (hK : zK ω) (hL : zLd ω sp pr σ) (hs : 0 ≤ s ∧ s < ω 34 5) (h : K (vI (zNow ω sp pr s)) σ) : ab_Runs ab_G1 mdX4_standing [vR 82, vI s] σ K := by
  refine ab_runs mwX4_standing (by decide +kernel) (Nat.le_of_ble_eq_true rfl) (fun G hG => ?_)
  show G 0 [some (vR 82), some (vI s)] [] _
  have hn := hK.1
  have hk := (hK.2 s hs.1 hs.2).2.2.2.2
  obtain ⟨q1, q2, -⟩ := hL.2.2.2 s hs.1 hs.2
  have e39 : σ 39 = ω 39 := hL.1 39 (by decide)
  unfold zNow at h
  apply hG [] 40
  simp only [cq_lt, cq_le, cq_gt, cq_ge, cq_eq, cq_r1, cq_r2, ab_r32, ab_r64, ab_go, ab_stp, wp_z, wp_s, ab_in, ab_gv, ab_psh, ab_rok, ab_wsum, ab_prm, ab_ret, ab_sw, ab_cd, ab_tg, ab_cat_i, ab_cat_l, ab_cat_r, ab_cl_n, ab_cl_i, ab_cl_l, ab_cl_r, ab_f2_0, ab_f2_1, ab_f4_0, ab_f4_1, ab_f4_2, ab_f4_3, ab_op_s, ab_gI_s, ab_gL_s, ab_gR_s, ab_b1_s, ab_b2_s, ab_l1_s, ab_l2_s, ab_li_s, ab_o1_s, ab_io_s, ab_lo1_s, ab_iio_s, ab_lio_s, ab_cp5_s, ab_d2_l, ab_d2_i, ab_d2_o, ex_iconst, ex_bipush, ex_sipush, ex_lconst, ex_ldc, ex_ldc_w, ex_ldc2_w, ex_iload_n, ex_iload, ex_lload_n, ex_lload, ex_aload_n, ex_aload, ex_istore_n, ex_istore, ex_lstore_n, ex_lstore, ex_iinc, ex_iadd, ex_isub, ex_imul, ex_iand, ex_ior, ex_ixor, ex_ishl, ex_ishr, ex_iushr, ex_idiv, ex_irem, ex_ladd, ex_lsub, ex_lmul, ex_lor, ex_ldiv, ex_lrem, ex_lshl, ex_lcmp, ex_ineg, ex_lneg, ex_i2l, ex_l2i, ex_i2b, ex_dup, ex_pop, ex_dup2, ex_goto, ex_ifCond, ex_if_icmp, ex_tableswitch, ex_getfield, ex_putfield, ex_iaload, ex_laload, ex_baload, ex_iastore, ex_lastore, ex_bastore, ex_aaload, ex_arraylength, ex_invokevirtual, ex_invokestatic, ex_ireturn, ex_lreturn, ex_return_, List.map_cons, List.map_nil, List.sum_cons, List.sum_nil, List.drop_succ_cons, List.drop_zero, List.take_succ_cons, List.take_zero, List.reverse_cons, List.reverse_nil, List.nil_append, List.cons_append, List.length_cons, List.length_nil, true_and, and_true, cond_false, cond_true, Bool.false_or, Bool.or_false, Bool.or_true, Bool.true_or, true_or, or_true, false_or, or_false, if_true, if_false, reduceIte, ite_true, ite_false, implies_true, true_implies, false_implies, forall_const, not_true_eq_false, not_false_eq_true, Nat.reduceAdd, Nat.reduceMul, Nat.reduceSub, Nat.reduceBEq, Nat.reduceEqDiff, Nat.reduceLeDiff, Nat.reduceLT, Int.reduceAdd, Int.reduceSub, Int.reduceMul, Int.reduceNeg, Int.reduceToNat, Int.reduceLE, Int.reduceLT, Int.reduceEq, Int.reduceNe, Int.reduceNatCast, Nat.add_zero, Nat.zero_add, reduceCtorEq, Int.reduceNatCast', moX4_standing, dX4_standing_0, dX4_standing_1, gt1_4_53_82, dX4_standing_4, gt1_4_61_34, gt1_4_61_41, gt1_4_61_47, gt1_4_61_53, gt1_4_61_59, dX4_standing_7, dX4_standing_8, dX4_standing_9, dX4_standing_10, dX4_standing_13, dX4_standing_14, gt1_4_57_82, dX4_standing_17, gt1_4_66_65, dX4_standing_20, dX4_standing_21, dX4_standing_22, dX4_standing_25, dX4_standing_26, dX4_standing_29, gt1_4_71_65, dX4_standing_32, dX4_standing_33, dX4_standing_34, ar1_0, ar1_1, ar1_10, ar1_100, ar1_101, ar1_102, ar1_11, ar1_12, ar1_13, ar1_14, ar1_15, ar1_16, ar1_17, ar1_18, ar1_19, ar1_2, ar1_20, ar1_21, ar1_22, ar1_23, ar1_24, ar1_25, ar1_26, ar1_27, ar1_28, ar1_29, ar1_3, ar1_30, ar1_31, ar1_32, ar1_33, ar1_34, ar1_35, ar1_36, ar1_37, ar1_38, ar1_39, ar1_4, ar1_40, ar1_41, ar1_42, ar1_43, ar1_44, ar1_45, ar1_46, ar1_47, ar1_48, ar1_49, ar1_5, ar1_50, ar1_51, ar1_52, ar1_53, ar1_54, ar1_55, ar1_56, ar1_57, ar1_58, ar1_59, ar1_6, ar1_60, ar1_61, ar1_62, ar1_63, ar1_64, ar1_65, ar1_66, ar1_67, ar1_68, ar1_69, ar1_7, ar1_70, ar1_71, ar1_72, ar1_73, ar1_74, ar1_75, ar1_76, ar1_77, ar1_78, ar1_79, ar1_8, ar1_80, ar1_81, ar1_82, ar1_83, ar1_84, ar1_85, ar1_86, ar1_87, ar1_88, ar1_89, ar1_9, ar1_90, ar1_91, ar1_92, ar1_93, ar1_94, ar1_95, ar1_96, ar1_97, ar1_98, ar1_99, lk_0, lk_1, e39]
  repeat' (with_reducible (first | apply And.intro | intro _))
  all_goals first | omega | skip
  · rename_i hq
    rw [if_neg hq] at h
    rw [q1]
    exact h
  · rename_i hq
    rw [if_pos (by omega)] at h
    rw [q2]
    exact h
set_option maxRecDepth 100000 in
set_option maxHeartbeats 4000000 in
theorem l_take {ω σ : ab_S} {sp pr : Int → Int} {s m n : Int} {K : ab_V → ab_S → Prop} (hJ : zJ ω) (hK : zK ω) (hL : zLd ω (zTs ω sp s m) (zTp ω pr s m) σ) (hs : 0 ≤ s ∧ s < ω 34 5) (hv : zVm ω s n) (h : ∀ ρ, zLd ω (zTs ω sp s n) (zTp ω pr s n) ρ → zFm σ ρ → K (vI 0) ρ) : ab_Runs ab_G1 mdX4_take [vR 82, vI s, vI n] σ K := by
  refine ab_runs mwX4_take (by decide +kernel) (Nat.le_of_ble_eq_true rfl) (fun G hG => ?_)
  show G 0 [some (vR 82), some (vI s), some (vI n)] [] _
  have hn := hK.1
  have hk := (hK.2 s hs.1 hs.2).2.2.2.2
  have e39 : σ 39 = ω 39 := hL.1 39 (by decide)
  apply hG [] 40
  simp only [cq_lt, cq_le, cq_gt, cq_ge, cq_eq, cq_r1, cq_r2, ab_r32, ab_r64, ab_go, ab_stp, wp_z, wp_s, ab_in, ab_gv, ab_psh, ab_rok, ab_wsum, ab_prm, ab_ret, ab_sw, ab_cd, ab_tg, ab_cat_i, ab_cat_l, ab_cat_r, ab_cl_n, ab_cl_i, ab_cl_l, ab_cl_r, ab_f2_0, ab_f2_1, ab_f4_0, ab_f4_1, ab_f4_2, ab_f4_3, ab_op_s, ab_gI_s, ab_gL_s, ab_gR_s, ab_b1_s, ab_b2_s, ab_l1_s, ab_l2_s, ab_li_s, ab_o1_s, ab_io_s, ab_lo1_s, ab_iio_s, ab_lio_s, ab_cp5_s, ab_d2_l, ab_d2_i, ab_d2_o, ex_iconst, ex_bipush, ex_sipush, ex_lconst, ex_ldc, ex_ldc_w, ex_ldc2_w, ex_iload_n, ex_iload, ex_lload_n, ex_lload, ex_aload_n, ex_aload, ex_istore_n, ex_istore, ex_lstore_n, ex_lstore, ex_iinc, ex_iadd, ex_isub, ex_imul, ex_iand, ex_ior, ex_ixor, ex_ishl, ex_ishr, ex_iushr, ex_idiv, ex_irem, ex_ladd, ex_lsub, ex_lmul, ex_lor, ex_ldiv, ex_lrem, ex_lshl, ex_lcmp, ex_ineg, ex_lneg, ex_i2l, ex_l2i, ex_i2b, ex_dup, ex_pop, ex_dup2, ex_goto, ex_ifCond, ex_if_icmp, ex_tableswitch, ex_getfield, ex_putfield, ex_iaload, ex_laload, ex_baload, ex_iastore, ex_lastore, ex_bastore, ex_aaload, ex_arraylength, ex_invokevirtual, ex_invokestatic, ex_ireturn, ex_lreturn, ex_return_, List.map_cons, List.map_nil, List.sum_cons, List.sum_nil, List.drop_succ_cons, List.drop_zero, List.take_succ_cons, List.take_zero, List.reverse_cons, List.reverse_nil, List.nil_append, List.cons_append, List.length_cons, List.length_nil, true_and, and_true, cond_false, cond_true, Bool.false_or, Bool.or_false, Bool.or_true, Bool.true_or, true_or, or_true, false_or, or_false, if_true, if_false, reduceIte, ite_true, ite_false, implies_true, true_implies, false_implies, forall_const, not_true_eq_false, not_false_eq_true, Nat.reduceAdd, Nat.reduceMul, Nat.reduceSub, Nat.reduceBEq, Nat.reduceEqDiff, Nat.reduceLeDiff, Nat.reduceLT, Int.reduceAdd, Int.reduceSub, Int.reduceMul, Int.reduceNeg, Int.reduceToNat, Int.reduceLE, Int.reduceLT, Int.reduceEq, Int.reduceNe, Int.reduceNatCast, Nat.add_zero, Nat.zero_add, reduceCtorEq, Int.reduceNatCast', moX4_take, dX4_take_0, dX4_take_1, gt1_4_53_82, dX4_take_4, gt1_4_61_34, gt1_4_61_41, gt1_4_61_47, gt1_4_61_53, gt1_4_61_59, dX4_take_7, dX4_take_8, dX4_take_9, dX4_take_10, dX4_take_13, dX4_take_14, gt1_4_57_82, dX4_take_17, gt1_4_66_65, dX4_take_20, dX4_take_21, dX4_take_22, dX4_take_23, dX4_take_26, dX4_take_27, dX4_take_30, dX4_take_31, dX4_take_32, vn4_74, iv4_74_3, moX8_place, dX4_take_35, ar1_0, ar1_1, ar1_10, ar1_100, ar1_101, ar1_102, ar1_11, ar1_12, ar1_13, ar1_14, ar1_15, ar1_16, ar1_17, ar1_18, ar1_19, ar1_2, ar1_20, ar1_21, ar1_22, ar1_23, ar1_24, ar1_25, ar1_26, ar1_27, ar1_28, ar1_29, ar1_3, ar1_30, ar1_31, ar1_32, ar1_33, ar1_34, ar1_35, ar1_36, ar1_37, ar1_38, ar1_39, ar1_4, ar1_40, ar1_41, ar1_42, ar1_43, ar1_44, ar1_45, ar1_46, ar1_47, ar1_48, ar1_49, ar1_5, ar1_50, ar1_51, ar1_52, ar1_53, ar1_54, ar1_55, ar1_56, ar1_57, ar1_58, ar1_59, ar1_6, ar1_60, ar1_61, ar1_62, ar1_63, ar1_64, ar1_65, ar1_66, ar1_67, ar1_68, ar1_69, ar1_7, ar1_70, ar1_71, ar1_72, ar1_73, ar1_74, ar1_75, ar1_76, ar1_77, ar1_78, ar1_79, ar1_8, ar1_80, ar1_81, ar1_82, ar1_83, ar1_84, ar1_85, ar1_86, ar1_87, ar1_88, ar1_89, ar1_9, ar1_90, ar1_91, ar1_92, ar1_93, ar1_94, ar1_95, ar1_96, ar1_97, ar1_98, ar1_99, lk_0, lk_1, lk_2, e39]
  repeat' (with_reducible (first | apply And.intro | intro _))
  all_goals first | omega | skip
  · rename_i hq
    unfold zTs zTp at h hL
    simp only [if_neg hq] at h hL
    refine l_place hJ hK hL hs (hv.2 hq) (fun ρ h1 h2 => ?_)
    rw [zu_zu] at h1
    try simp only [cq_lt, cq_le, cq_gt, cq_ge, cq_eq, cq_r1, cq_r2, ab_r32, ab_r64, ab_go, ab_stp, wp_z, wp_s, ab_in, ab_gv, ab_psh, ab_rok, ab_wsum, ab_prm, ab_ret, ab_sw, ab_cd, ab_tg, ab_cat_i, ab_cat_l, ab_cat_r, ab_cl_n, ab_cl_i, ab_cl_l, ab_cl_r, ab_f2_0, ab_f2_1, ab_f4_0, ab_f4_1, ab_f4_2, ab_f4_3, ab_op_s, ab_gI_s, ab_gL_s, ab_gR_s, ab_b1_s, ab_b2_s, ab_l1_s, ab_l2_s, ab_li_s, ab_o1_s, ab_io_s, ab_lo1_s, ab_iio_s, ab_lio_s, ab_cp5_s, ab_d2_l, ab_d2_i, ab_d2_o, ex_iconst, ex_bipush, ex_sipush, ex_lconst, ex_ldc, ex_ldc_w, ex_ldc2_w, ex_iload_n, ex_iload, ex_lload_n, ex_lload, ex_aload_n, ex_aload, ex_istore_n, ex_istore, ex_lstore_n, ex_lstore, ex_iinc, ex_iadd, ex_isub, ex_imul, ex_iand, ex_ior, ex_ixor, ex_ishl, ex_ishr, ex_iushr, ex_idiv, ex_irem, ex_ladd, ex_lsub, ex_lmul, ex_lor, ex_ldiv, ex_lrem, ex_lshl, ex_lcmp, ex_ineg, ex_lneg, ex_i2l, ex_l2i, ex_i2b, ex_dup, ex_pop, ex_dup2, ex_goto, ex_ifCond, ex_if_icmp, ex_tableswitch, ex_getfield, ex_putfield, ex_iaload, ex_laload, ex_baload, ex_iastore, ex_lastore, ex_bastore, ex_aaload, ex_arraylength, ex_invokevirtual, ex_invokestatic, ex_ireturn, ex_lreturn, ex_return_, List.map_cons, List.map_nil, List.sum_cons, List.sum_nil, List.drop_succ_cons, List.drop_zero, List.take_succ_cons, List.take_zero, List.reverse_cons, List.reverse_nil, List.nil_append, List.cons_append, List.length_cons, List.length_nil, true_and, and_true, cond_false, cond_true, Bool.false_or, Bool.or_false, Bool.or_true, Bool.true_or, true_or, or_true, false_or, or_false, if_true, if_false, reduceIte, ite_true, ite_false, implies_true, true_implies, false_implies, forall_const, not_true_eq_false, not_false_eq_true, Nat.reduceAdd, Nat.reduceMul, Nat.reduceSub, Nat.reduceBEq, Nat.reduceEqDiff, Nat.reduceLeDiff, Nat.reduceLT, Int.reduceAdd, Int.reduceSub, Int.reduceMul, Int.reduceNeg, Int.reduceToNat, Int.reduceLE, Int.reduceLT, Int.reduceEq, Int.reduceNe, Int.reduceNatCast, Nat.add_zero, Nat.zero_add, reduceCtorEq, Int.reduceNatCast', moX4_take, dX4_take_0, dX4_take_1, gt1_4_53_82, dX4_take_4, gt1_4_61_34, gt1_4_61_41, gt1_4_61_47, gt1_4_61_53, gt1_4_61_59, dX4_take_7, dX4_take_8, dX4_take_9, dX4_take_10, dX4_take_13, dX4_take_14, gt1_4_57_82, dX4_take_17, gt1_4_66_65, dX4_take_20, dX4_take_21, dX4_take_22, dX4_take_23, dX4_take_26, dX4_take_27, dX4_take_30, dX4_take_31, dX4_take_32, vn4_74, iv4_74_3, moX8_place, dX4_take_35, ar1_0, ar1_1, ar1_10, ar1_100, ar1_101, ar1_102, ar1_11, ar1_12, ar1_13, ar1_14, ar1_15, ar1_16, ar1_17, ar1_18, ar1_19, ar1_2, ar1_20, ar1_21, ar1_22, ar1_23, ar1_24, ar1_25, ar1_26, ar1_27, ar1_28, ar1_29, ar1_3, ar1_30, ar1_31, ar1_32, ar1_33, ar1_34, ar1_35, ar1_36, ar1_37, ar1_38, ar1_39, ar1_4, ar1_40, ar1_41, ar1_42, ar1_43, ar1_44, ar1_45, ar1_46, ar1_47, ar1_48, ar1_49, ar1_5, ar1_50, ar1_51, ar1_52, ar1_53, ar1_54, ar1_55, ar1_56, ar1_57, ar1_58, ar1_59, ar1_6, ar1_60, ar1_61, ar1_62, ar1_63, ar1_64, ar1_65, ar1_66, ar1_67, ar1_68, ar1_69, ar1_7, ar1_70, ar1_71, ar1_72, ar1_73, ar1_74, ar1_75, ar1_76, ar1_77, ar1_78, ar1_79, ar1_8, ar1_80, ar1_81, ar1_82, ar1_83, ar1_84, ar1_85, ar1_86, ar1_87, ar1_88, ar1_89, ar1_9, ar1_90, ar1_91, ar1_92, ar1_93, ar1_94, ar1_95, ar1_96, ar1_97, ar1_98, ar1_99, lk_0, lk_1, lk_2]
    exact h ρ h1 h2
  · rename_i hq
    have hq : ω 39 s = 1 := by omega
    unfold zTs zTp at h hL
    simp only [if_pos hq] at h hL
    have hfm : zFm σ (ab_up σ 67 s n) := fun o ho => ab_up_o o (by omega)
    obtain ⟨h1, h2, h3, h4⟩ := hL
    refine h _ ⟨zFr_m h1 hfm, h2, h3, fun j j1 j2 => ?_⟩ hfm
    obtain ⟨q1, q2, q3, q4, q5⟩ := h4 j j1 j2
    refine ⟨q1, ?_, q3, q4, q5⟩
    show (if j = s then n else σ 67 j) = zu pr s n j
    unfold zu at q2 ⊢
    by_cases e : j = s
    · rw [if_pos e, if_pos e]
    · rw [if_neg e] at q2 ⊢
      rw [if_neg e]
      exact q2
set_option maxRecDepth 100000 in
set_option maxHeartbeats 4000000 in
theorem r_addOther {σ : ab_S} {m b : Int} {K : ab_V → ab_S → Prop} (hb : b = 0 ∨ b = 1) (hc : 0 ≤ σ 82 8 ∧ σ 82 8 < 188) (h : K (vI 0) (if b = 1 then ab_up (ab_up σ 83 (σ 82 8) m) 82 8 (σ 82 8 + 1) else σ)) : ab_Runs ab_G1 mdX4_addOther [vR 82, vI m, vI b] σ K := by
  refine ab_runs mwX4_addOther (by decide +kernel) (Nat.le_of_ble_eq_true rfl) (fun G hG => ?_)
  show G 0 [some (vR 82), some (vI m), some (vI b)] [] _
  apply hG [] 40
  simp only [cq_lt, cq_le, cq_gt, cq_ge, cq_eq, cq_r1, cq_r2, ab_r32, ab_r64, ab_go, ab_stp, wp_z, wp_s, ab_in, ab_gv, ab_psh, ab_rok, ab_wsum, ab_prm, ab_ret, ab_sw, ab_cd, ab_tg, ab_cat_i, ab_cat_l, ab_cat_r, ab_cl_n, ab_cl_i, ab_cl_l, ab_cl_r, ab_f2_0, ab_f2_1, ab_f4_0, ab_f4_1, ab_f4_2, ab_f4_3, ab_op_s, ab_gI_s, ab_gL_s, ab_gR_s, ab_b1_s, ab_b2_s, ab_l1_s, ab_l2_s, ab_li_s, ab_o1_s, ab_io_s, ab_lo1_s, ab_iio_s, ab_lio_s, ab_cp5_s, ab_d2_l, ab_d2_i, ab_d2_o, ex_iconst, ex_bipush, ex_sipush, ex_lconst, ex_ldc, ex_ldc_w, ex_ldc2_w, ex_iload_n, ex_iload, ex_lload_n, ex_lload, ex_aload_n, ex_aload, ex_istore_n, ex_istore, ex_lstore_n, ex_lstore, ex_iinc, ex_iadd, ex_isub, ex_imul, ex_iand, ex_ior, ex_ixor, ex_ishl, ex_ishr, ex_iushr, ex_idiv, ex_irem, ex_ladd, ex_lsub, ex_lmul, ex_lor, ex_ldiv, ex_lrem, ex_lshl, ex_lcmp, ex_ineg, ex_lneg, ex_i2l, ex_l2i, ex_i2b, ex_dup, ex_pop, ex_dup2, ex_goto, ex_ifCond, ex_if_icmp, ex_tableswitch, ex_getfield, ex_putfield, ex_iaload, ex_laload, ex_baload, ex_iastore, ex_lastore, ex_bastore, ex_aaload, ex_arraylength, ex_invokevirtual, ex_invokestatic, ex_ireturn, ex_lreturn, ex_return_, List.map_cons, List.map_nil, List.sum_cons, List.sum_nil, List.drop_succ_cons, List.drop_zero, List.take_succ_cons, List.take_zero, List.reverse_cons, List.reverse_nil, List.nil_append, List.cons_append, List.length_cons, List.length_nil, true_and, and_true, cond_false, cond_true, Bool.false_or, Bool.or_false, Bool.or_true, Bool.true_or, true_or, or_true, false_or, or_false, if_true, if_false, reduceIte, ite_true, ite_false, implies_true, true_implies, false_implies, forall_const, not_true_eq_false, not_false_eq_true, Nat.reduceAdd, Nat.reduceMul, Nat.reduceSub, Nat.reduceBEq, Nat.reduceEqDiff, Nat.reduceLeDiff, Nat.reduceLT, Int.reduceAdd, Int.reduceSub, Int.reduceMul, Int.reduceNeg, Int.reduceToNat, Int.reduceLE, Int.reduceLT, Int.reduceEq, Int.reduceNe, Int.reduceNatCast, Nat.add_zero, Nat.zero_add, reduceCtorEq, Int.reduceNatCast', moX4_addOther, dX4_addOther_0, dX4_addOther_1, dX4_addOther_4, dX4_addOther_5, gt1_4_28_82, dX4_addOther_8, dX4_addOther_11, dX4_addOther_14, dX4_addOther_15, gt1_4_11_82, dX4_addOther_18, dX4_addOther_19, dX4_addOther_22, dX4_addOther_23, dX4_addOther_24, dX4_addOther_25, dX4_addOther_26, dX4_addOther_29, dX4_addOther_30, dX4_addOther_31, pt1_4_28_82, dX4_addOther_34, ar1_0, ar1_1, ar1_10, ar1_100, ar1_101, ar1_102, ar1_11, ar1_12, ar1_13, ar1_14, ar1_15, ar1_16, ar1_17, ar1_18, ar1_19, ar1_2, ar1_20, ar1_21, ar1_22, ar1_23, ar1_24, ar1_25, ar1_26, ar1_27, ar1_28, ar1_29, ar1_3, ar1_30, ar1_31, ar1_32, ar1_33, ar1_34, ar1_35, ar1_36, ar1_37, ar1_38, ar1_39, ar1_4, ar1_40, ar1_41, ar1_42, ar1_43, ar1_44, ar1_45, ar1_46, ar1_47, ar1_48, ar1_49, ar1_5, ar1_50, ar1_51, ar1_52, ar1_53, ar1_54, ar1_55, ar1_56, ar1_57, ar1_58, ar1_59, ar1_6, ar1_60, ar1_61, ar1_62, ar1_63, ar1_64, ar1_65, ar1_66, ar1_67, ar1_68, ar1_69, ar1_7, ar1_70, ar1_71, ar1_72, ar1_73, ar1_74, ar1_75, ar1_76, ar1_77, ar1_78, ar1_79, ar1_8, ar1_80, ar1_81, ar1_82, ar1_83, ar1_84, ar1_85, ar1_86, ar1_87, ar1_88, ar1_89, ar1_9, ar1_90, ar1_91, ar1_92, ar1_93, ar1_94, ar1_95, ar1_96, ar1_97, ar1_98, ar1_99, lk_0, lk_1, lk_2]
  repeat' (with_reducible (first | apply And.intro | intro _))
  all_goals first | omega | skip
  · rename_i hq
    rw [if_neg (by omega)] at h
    exact h
  · rename_i hq hq2
    rw [if_pos (by omega)] at h
    exact h
/-- the list behind one more number: b tells whether it is a move -/
theorem zOt_add {P : Int → Prop} {ω σ ρ : ab_S} {sp pr : Int → Int} {cap m b : Int} (hL : zLd ω sp pr ρ) (hF : zFv σ ρ) (hO : zOt P (ρ 82 8) (ρ 83) m cap) (hb : (P m ∧ b = 1) ∨ (¬ P m ∧ b = 0)) (hbm : ρ 82 9 = σ 82 9 ∧ ρ 82 10 = σ 82 10) : ∀ φ, φ = (if b = 1 then ab_up (ab_up ρ 83 (ρ 82 8) m) 82 8 (ρ 82 8 + 1) else ρ) → zLd ω sp pr φ ∧ zFv σ φ ∧ zOt P (φ 82 8) (φ 83) (m + 1) (cap + 1) ∧ (φ 82 9 = σ 82 9 ∧ φ 82 10 = σ 82 10) := by
  rintro φ rfl
  rcases hb with ⟨hP, rfl⟩ | ⟨hP, rfl⟩
  · rw [if_pos rfl]
    refine ⟨⟨fun o ho => ?_, hL.2.1, hL.2.2.1, hL.2.2.2⟩, zFv_trans hF ⟨fun o ho => ?_, fun k hk => ?_⟩, ?_, hbm⟩
    · rw [ab_up_o o (by omega), ab_up_o o (by omega)]
      exact hL.1 o ho
    · rw [ab_up_o o (by omega), ab_up_o o (by omega)]
    · show (if k = 8 then _ else ρ 82 k) = _
      rw [if_neg (by omega)]
    · have := zOt_yes hO hP
      have e1 : ab_up (ab_up ρ 83 (ρ 82 8) m) 82 8 (ρ 82 8 + 1) 82 8 = ρ 82 8 + 1 := rfl
      have e2 : ab_up (ab_up ρ 83 (ρ 82 8) m) 82 8 (ρ 82 8 + 1) 83 = zu (ρ 83) (ρ 82 8) m := by
        funext k
        rfl
      rw [e1, e2]
      exact this
  · rw [if_neg (by decide)]
    refine ⟨hL, hF, zOt_to hO (by omega) (by omega) (fun k k1 k2 => ?_), hbm⟩
    rw [show k = m by omega]
    exact hP
