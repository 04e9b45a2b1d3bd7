-- CALL: turn
theorem yB_turn {ω ω' τ υ : ab_S} {s m : Int} (hB : yB ω τ) (hs : 0 ≤ s ∧ s < ω 34 5) (hm : zCd ω (ω 35) (zpr ω (ω 36)) s m) (hF : ∀ o, o < 65 → o ≠ 0 → o ≠ 35 → o ≠ 36 → ω' o = ω o) (h0 : ∀ j, j ≠ 15 → ω' 0 j = ω 0 j) (h15 : ω' 0 15 = ω 0 15 + 1) (h35 : ω' 35 = zTs ω (ω 35) s m) (h36 : ω' 36 = zTr ω (ω 36) s m) (hq : yFq τ υ) (hL : yLd ω (zTs ω (ω 35) s m) (zTr ω (ω 36) s m) υ) : yB ω' υ := by
  have b6 := hB.2.2.2.2.2.1
  have b7 := hB.2.2.2.2.2.2.1
  have b14 := hB.2.2.2.2.2.2.2.2.2.2.2.2.2
  have f34 := hF 34 (by decide) (by decide) (by decide) (by decide)
  have f3 := hF 3 (by decide) (by decide) (by decide) (by decide)
  have f10 := hF 10 (by decide) (by decide) (by decide) (by decide)
  have f21 := hF 21 (by decide) (by decide) (by decide) (by decide)
  have f37 := hF 37 (by decide) (by decide) (by decide) (by decide)
  have f38 := hF 38 (by decide) (by decide) (by decide) (by decide)
  have f39 := hF 39 (by decide) (by decide) (by decide) (by decide)
  have B1 : yB (ab_set (ab_set (ab_set ω' 35 (ω 35)) 36 (ω 36)) 0 (ω 0)) (ab_set (ab_set υ 26 (τ 26)) 27 (τ 27)) := by
    refine yB_cz hB (fun o o1 o2 => ?_) (fun o o0 o1 => ?_) (fun j hj => hq.2 j (by omega) (by omega) (by omega) (by omega))
    · by_cases e0 : o = 0
      · rw [e0, ab_set_at]
      · rw [ab_set_ne _ _ e0]
        by_cases e6 : o = 36
        · rw [e6, ab_set_at]
        · rw [ab_set_ne _ _ e6]
          by_cases e5 : o = 35
          · rw [e5, ab_set_at]
          · rw [ab_set_ne _ _ e5]
            exact hF o o1 e0 e5 e6
    · by_cases e7 : o = 27
      · rw [e7, ab_set_at]
      · rw [ab_set_ne _ _ e7]
        by_cases e6 : o = 26
        · rw [e6, ab_set_at]
        · rw [ab_set_ne _ _ e6]
          exact hq.1 o o0 e6 e7 (by omega) (by omega)
  refine yB_sel B1 (fun o o0 o1 => ?_) (fun j hj => ?_) ?_ ?_ ?_ (fun o o0 o1 => ?_) (fun j hj => ?_) ?_
  · rw [ab_set_ne _ _ o0, ab_set_ne _ _ (by omega), ab_set_ne _ _ (by omega)]
  · rw [ab_set_at]
    exact h0 j hj
  · rw [h15]
    omega
  · rw [f34]
    rw [ab_set_ne _ _ (by decide), ab_set_ne _ _ (by decide), ab_set_ne _ _ (by decide), f34]
  · have key : zBa ω' 34 := by
      unfold zBa zSt
      show (0 ≤ ω' 34 5 ∧ ω' 34 5 ≤ 4) ∧ (-1 ≤ ω' 34 6 ∧ ω' 34 6 < ω' 21 6) ∧ ∀ j, 0 ≤ j → j < ω' 34 5 → zSp (ω' 3 8) (ω' 3 9) (ω' 10) (ω' 35 j) ∧ (ω' 3 12 ≤ ω' 36 j ∧ ω' 36 j ≤ ω' 3 13) ∧ (0 ≤ ω' 37 j ∧ ω' 37 j < 3) ∧ (0 ≤ ω' 38 j ∧ ω' 38 j < 4) ∧ (0 ≤ ω' 39 j ∧ ω' 39 j < 3)
      rw [f34, f3, f10, f21, f37, f38, f39, h35, h36]
      refine ⟨b6.1, b6.2.1, fun j j1 j2 => ?_⟩
      obtain ⟨q1, q2, q3, q4, q5⟩ := b6.2.2 j j1 j2
      refine ⟨?_, ?_, q3, q4, q5⟩
      · unfold zTs
        by_cases e : ω 39 s = 1
        · rw [if_pos e]
          exact q1
        · rw [if_neg e]
          by_cases ej : j = s
          · rw [ej, zu_at]
            rcases hm with z | z
            · exact z.2.1
            · exact absurd z.1 e
          · rw [zu_ne _ _ ej]
            exact q1
      · unfold zTr
        by_cases e : ω 39 s = 1 ∧ ω 28 8 = -1
        · rw [if_pos e]
          by_cases ej : j = s
          · rw [ej, zu_at]
            rcases hm with z | z
            · have := z.1
              omega
            · exact ⟨z.2.2.1, z.2.2.2.1⟩
          · rw [zu_ne _ _ ej]
            exact q2
        · rw [if_neg e]
          exact q2
    exact key
  · rw [ab_set_ne _ _ (by omega), ab_set_ne _ _ (by omega)]
  · rfl
  · refine ⟨?_, ?_, fun j j1 j2 => ?_⟩
    · show υ 0 53 = ω' 34 5
      rw [f34]
      exact hL.2.1
    · show υ 0 39 = ω' 34 6
      rw [f34, hq.2 39 (by decide) (by decide) (by decide) (by decide)]
      exact b7.2.1
    · show υ 26 j = ω' 35 j ∧ υ 27 j = ω' 36 j ∧ υ 28 j = ω' 37 j ∧ υ 29 j = ω' 38 j ∧ υ 30 j = ω' 39 j
      rw [h35, h36, f37, f38, f39]
      exact hL.2.2 j j1 (by rw [← f34]; exact j2)
set_option maxRecDepth 100000 in
set_option maxHeartbeats 4000000 in
theorem j_turn {ω τ : ab_S} {s : Int} (hB : yB ω τ) (hs : -2147483648 ≤ s ∧ s ≤ 2147483647) : ab_Runs ab_G1 mdX11_turn [vR 0, vI s] ω (zJw ω τ mdX12_turn [vR 0, vI s]) := by
  have hJ := yB_J hB
  have hK := yB_K hB
  have hL := yB_L hB
  have ho := zOk_0 hJ hK
  have hn := hK.1
  have hts : τ 0 53 = ω 34 5 := hL.2.1
  have cd : zBm ω (ω 35) (zpr ω (ω 36)) s ≠ zNow ω (ω 35) (zpr ω (ω 36)) s → zCd ω (ω 35) (zpr ω (ω 36)) s (zBm ω (ω 35) (zpr ω (ω 36)) s) := by
    intro z
    rcases (zbf_in (zCd ω (ω 35) (zpr ω (ω 36)) s) (zG ω (ω 35) (zpr ω (ω 36)) s) (zNow ω (ω 35) (zpr ω (ω 36)) s) 420).2 with y | y
    · exact absurd y z
    · exact y
  refine ab_runs mwX11_turn (by decide +kernel) (Nat.le_of_ble_eq_true rfl) (fun G hG => ?_)
  show G 0 [some (vR 0), some (vI s)] [] _
  have N : ¬ (0 ≤ s ∧ s < ω 34 5) → zJw ω τ mdX12_turn [vR 0, vI s] (vI 0) ω := by
    intro z
    refine ⟨zSw_v (zFv_refl ω), ?_⟩
    refine ab_runs mwX12_turn (by decide +kernel) (Nat.le_of_ble_eq_true rfl) (fun G hG => ?_)
    show G 0 [some (vR 0), some (vI s)] [] _
    apply hG [9999] 30
    simp only [cq_lt, cq_le, cq_gt, cq_ge, cq_eq, cq_r1, cq_r2, ab_r32, ab_r64, ab_go, ab_stp, wp_z, ab_in, ab_rok, ab_wsum, ab_prm, ab_ret, ab_sw, ab_cd, ab_tg, ab_cat_i, ab_cat_l, ab_cat_r, ab_cl_n, ab_cl_i, ab_cl_l, ab_cl_r, ab_f2_0, ab_f2_1, ab_f4_0, ab_f4_1, ab_f4_2, ab_f4_3, ab_op_s, ab_b1_s, ab_b2_s, ab_l1_s, ab_l2_s, ab_li_s, ab_o1_s, ab_io_s, ab_lo1_s, ab_iio_s, ab_lio_s, ab_cp5_s, ab_d2_l, ab_d2_i, ab_d2_o, ex_iconst, ex_bipush, ex_sipush, ex_lconst, ex_ldc, ex_ldc_w, ex_ldc2_w, ex_iadd, ex_isub, ex_imul, ex_iand, ex_ior, ex_ixor, ex_ishl, ex_ishr, ex_iushr, ex_idiv, ex_irem, ex_ladd, ex_lsub, ex_lmul, ex_lor, ex_ldiv, ex_lrem, ex_lshl, ex_lcmp, ex_ineg, ex_lneg, ex_i2l, ex_l2i, ex_i2b, ex_dup, ex_pop, ex_dup2, ex_goto, ex_tableswitch, ex_aaload, ex_ireturn, ex_lreturn, ex_return_, List.map_cons, List.map_nil, List.sum_cons, List.sum_nil, List.drop_succ_cons, List.drop_zero, List.take_succ_cons, List.take_zero, List.reverse_cons, List.reverse_nil, List.nil_append, List.cons_append, List.length_cons, List.length_nil, true_and, and_true, cond_false, cond_true, Bool.false_or, Bool.or_false, Bool.or_true, Bool.true_or, true_or, or_true, false_or, or_false, if_true, if_false, reduceIte, ite_true, ite_false, implies_true, true_implies, false_implies, forall_const, not_true_eq_false, not_false_eq_true, Nat.reduceAdd, Nat.reduceMul, Nat.reduceSub, Nat.reduceBEq, Nat.reduceEqDiff, Nat.reduceLeDiff, Nat.reduceLT, Int.reduceAdd, Int.reduceSub, Int.reduceMul, Int.reduceNeg, Int.reduceToNat, Int.reduceLE, Int.reduceLT, Int.reduceEq, Int.reduceNe, Int.reduceNatCast, Nat.add_zero, Nat.zero_add, reduceCtorEq, Int.reduceNatCast', wp_c, wp_g, e2_ifCond, e2_if_icmp, ↓bq_t, ↓bq_f, ab_br, ↓ab_b1_s, ↓ab_b2_s, ↓ab_l1_s, ↓ab_l2_s, ↓ab_li_s, ↓ab_o1_s, ↓ab_io_s, ↓ab_lo1_s, ↓ab_iio_s, ↓ab_lio_s, ↓ab_cp5_s, moX12_turn, dX12_turn_0, dal_0, dX12_turn_1, dil_1, dX12_turn_2, dv2_12_404_0, moX12_isSeller, dX12_turn_5, dX12_turn_8, dX12_turn_9, dX12_turn_10, dX12_turn_11, dX12_turn_12, dv2_12_430_0, moX12_findBest, dX12_turn_15, dX12_turn_16, dg2_12_419_0, dX12_turn_19, dX12_turn_22, dX12_turn_23, dX12_turn_24, dX12_turn_25, dg2_12_119_0, dX12_turn_28, dX12_turn_29, dX12_turn_30, dX12_turn_33, dX12_turn_34, dg2_12_107_0, dX12_turn_37, dX12_turn_38, dX12_turn_39, dg2_12_416_0, dX12_turn_42, dX12_turn_43, dX12_turn_46, dX12_turn_47, dg2_12_110_0, dX12_turn_50, dX12_turn_51, dX12_turn_52, dX12_turn_55, dX12_turn_56, dX12_turn_57, dal2_26, das2_26, dal2_27, das2_27, dal2_30, das2_30]
    refine y_isSeller2 hs (by rw [hts]; exact hn) (fun v hv => ?_)
    rw [hts] at hv
    try simp only [cq_lt, cq_le, cq_gt, cq_ge, cq_eq, cq_r1, cq_r2, ab_r32, ab_r64, ab_go, ab_stp, wp_z, ab_in, ab_rok, ab_wsum, ab_prm, ab_ret, ab_sw, ab_cd, ab_tg, ab_cat_i, ab_cat_l, ab_cat_r, ab_cl_n, ab_cl_i, ab_cl_l, ab_cl_r, ab_f2_0, ab_f2_1, ab_f4_0, ab_f4_1, ab_f4_2, ab_f4_3, ab_op_s, ab_b1_s, ab_b2_s, ab_l1_s, ab_l2_s, ab_li_s, ab_o1_s, ab_io_s, ab_lo1_s, ab_iio_s, ab_lio_s, ab_cp5_s, ab_d2_l, ab_d2_i, ab_d2_o, ex_iconst, ex_bipush, ex_sipush, ex_lconst, ex_ldc, ex_ldc_w, ex_ldc2_w, ex_iadd, ex_isub, ex_imul, ex_iand, ex_ior, ex_ixor, ex_ishl, ex_ishr, ex_iushr, ex_idiv, ex_irem, ex_ladd, ex_lsub, ex_lmul, ex_lor, ex_ldiv, ex_lrem, ex_lshl, ex_lcmp, ex_ineg, ex_lneg, ex_i2l, ex_l2i, ex_i2b, ex_dup, ex_pop, ex_dup2, ex_goto, ex_tableswitch, ex_aaload, ex_ireturn, ex_lreturn, ex_return_, List.map_cons, List.map_nil, List.sum_cons, List.sum_nil, List.drop_succ_cons, List.drop_zero, List.take_succ_cons, List.take_zero, List.reverse_cons, List.reverse_nil, List.nil_append, List.cons_append, List.length_cons, List.length_nil, true_and, and_true, cond_false, cond_true, Bool.false_or, Bool.or_false, Bool.or_true, Bool.true_or, true_or, or_true, false_or, or_false, if_true, if_false, reduceIte, ite_true, ite_false, implies_true, true_implies, false_implies, forall_const, not_true_eq_false, not_false_eq_true, Nat.reduceAdd, Nat.reduceMul, Nat.reduceSub, Nat.reduceBEq, Nat.reduceEqDiff, Nat.reduceLeDiff, Nat.reduceLT, Int.reduceAdd, Int.reduceSub, Int.reduceMul, Int.reduceNeg, Int.reduceToNat, Int.reduceLE, Int.reduceLT, Int.reduceEq, Int.reduceNe, Int.reduceNatCast, Nat.add_zero, Nat.zero_add, reduceCtorEq, Int.reduceNatCast', wp_c, wp_g, e2_ifCond, e2_if_icmp, ↓bq_t, ↓bq_f, ab_br, ↓ab_b1_s, ↓ab_b2_s, ↓ab_l1_s, ↓ab_l2_s, ↓ab_li_s, ↓ab_o1_s, ↓ab_io_s, ↓ab_lo1_s, ↓ab_iio_s, ↓ab_lio_s, ↓ab_cp5_s, moX12_turn, dX12_turn_0, dal_0, dX12_turn_1, dil_1, dX12_turn_2, dv2_12_404_0, moX12_isSeller, dX12_turn_5, dX12_turn_8, dX12_turn_9, dX12_turn_10, dX12_turn_11, dX12_turn_12, dv2_12_430_0, moX12_findBest, dX12_turn_15, dX12_turn_16, dg2_12_419_0, dX12_turn_19, dX12_turn_22, dX12_turn_23, dX12_turn_24, dX12_turn_25, dg2_12_119_0, dX12_turn_28, dX12_turn_29, dX12_turn_30, dX12_turn_33, dX12_turn_34, dg2_12_107_0, dX12_turn_37, dX12_turn_38, dX12_turn_39, dg2_12_416_0, dX12_turn_42, dX12_turn_43, dX12_turn_46, dX12_turn_47, dg2_12_110_0, dX12_turn_50, dX12_turn_51, dX12_turn_52, dX12_turn_55, dX12_turn_56, dX12_turn_57, dal2_26, das2_26, dal2_27, das2_27, dal2_30, das2_30]
    repeat' (with_reducible (first | apply And.intro | intro _))
    all_goals first | omega | exact zJw_fq hB (zFv_refl ω) (yFq_refl τ) rfl rfl rfl
  have A : (0 ≤ s ∧ s < ω 34 5) → zBm ω (ω 35) (zpr ω (ω 36)) s = zNow ω (ω 35) (zpr ω (ω 36)) s → ∀ ω', zFv ω ω' → zJw ω τ mdX12_turn [vR 0, vI s] (vI 0) ω' := by
    intro hsr z ω' hF
    refine ⟨zSw_v hF, y_turn hJ hK hL ho hsr (fun υ v u1 u2 u3 u4 => ?_)⟩
    rcases u4 with ⟨u4, -⟩ | ⟨u4, u5, u6, u7⟩
    · exact absurd z u4
    · exact zJw_fq hB hF u1 u6 u7 (by rw [u5])
  have C : (0 ≤ s ∧ s < ω 34 5) → zBm ω (ω 35) (zpr ω (ω 36)) s ≠ zNow ω (ω 35) (zpr ω (ω 36)) s → ∀ ω1, zFv ω ω1 → ∀ ω', (∀ o, o ≠ 0 → o ≠ 35 → o ≠ 36 → ω' o = ω1 o) → (∀ j, j ≠ 15 → ω' 0 j = ω 0 j) → ω' 0 15 = ω 0 15 + 1 → ω' 35 = zTs ω (ω 35) s (zBm ω (ω 35) (zpr ω (ω 36)) s) → ω' 36 = zTr ω (ω 36) s (zBm ω (ω 35) (zpr ω (ω 36)) s) → zJw ω τ mdX12_turn [vR 0, vI s] (vI 1) ω' := by
    intro hsr z ω1 hF ω' h1 h0 h15 h35 h36
    refine ⟨⟨fun o o1 o2 o3 => (h1 o (by omega) (by omega) (by omega)).trans (hF.1 o (by omega)), fun k hk => by rw [h1 82 (by decide) (by decide) (by decide)]; exact hF.2 k hk, Or.inr h15, by rw [h0 14 (by decide)]; omega⟩, y_turn hJ hK hL ho hsr (fun υ v u1 u2 u3 u4 => ?_)⟩
    rcases u4 with ⟨-, u4⟩ | ⟨u4, -⟩
    · rw [u4]
      exact ⟨rfl, yB_turn hB hsr (cd z) (fun o o1 o2 o3 o4 => (h1 o o2 o3 o4).trans (hF.1 o (Or.inl o1))) h0 h15 h35 h36 u1 u2⟩
    · exact absurd u4 z
  apply hG [9999] 90
  simp only [cq_lt, cq_le, cq_gt, cq_ge, cq_eq, cq_r1, cq_r2, ab_r32, ab_r64, ab_go, ab_stp, wp_z, ab_in, ab_rok, ab_wsum, ab_prm, ab_ret, ab_sw, ab_cd, ab_tg, ab_cat_i, ab_cat_l, ab_cat_r, ab_cl_n, ab_cl_i, ab_cl_l, ab_cl_r, ab_f2_0, ab_f2_1, ab_f4_0, ab_f4_1, ab_f4_2, ab_f4_3, ab_op_s, ab_b1_s, ab_b2_s, ab_l1_s, ab_l2_s, ab_li_s, ab_o1_s, ab_io_s, ab_lo1_s, ab_iio_s, ab_lio_s, ab_cp5_s, ab_d2_l, ab_d2_i, ab_d2_o, ex_iconst, ex_bipush, ex_sipush, ex_lconst, ex_ldc, ex_ldc_w, ex_ldc2_w, ex_iadd, ex_isub, ex_imul, ex_iand, ex_ior, ex_ixor, ex_ishl, ex_ishr, ex_iushr, ex_idiv, ex_irem, ex_ladd, ex_lsub, ex_lmul, ex_lor, ex_ldiv, ex_lrem, ex_lshl, ex_lcmp, ex_ineg, ex_lneg, ex_i2l, ex_l2i, ex_i2b, ex_dup, ex_pop, ex_dup2, ex_goto, ex_tableswitch, ex_aaload, ex_ireturn, ex_lreturn, ex_return_, List.map_cons, List.map_nil, List.sum_cons, List.sum_nil, List.drop_succ_cons, List.drop_zero, List.take_succ_cons, List.take_zero, List.reverse_cons, List.reverse_nil, List.nil_append, List.cons_append, List.length_cons, List.length_nil, true_and, and_true, cond_false, cond_true, Bool.false_or, Bool.or_false, Bool.or_true, Bool.true_or, true_or, or_true, false_or, or_false, if_true, if_false, reduceIte, ite_true, ite_false, implies_true, true_implies, false_implies, forall_const, not_true_eq_false, not_false_eq_true, Nat.reduceAdd, Nat.reduceMul, Nat.reduceSub, Nat.reduceBEq, Nat.reduceEqDiff, Nat.reduceLeDiff, Nat.reduceLT, Int.reduceAdd, Int.reduceSub, Int.reduceMul, Int.reduceNeg, Int.reduceToNat, Int.reduceLE, Int.reduceLT, Int.reduceEq, Int.reduceNe, Int.reduceNatCast, Nat.add_zero, Nat.zero_add, reduceCtorEq, Int.reduceNatCast', wp_c, wp_g, e2_ifCond, e2_if_icmp, ↓bq_t, ↓bq_f, ab_br, ↓ab_b1_s, ↓ab_b2_s, ↓ab_l1_s, ↓ab_l2_s, ↓ab_li_s, ↓ab_o1_s, ↓ab_io_s, ↓ab_lo1_s, ↓ab_iio_s, ↓ab_lio_s, ↓ab_cp5_s, moX11_turn, dX11_turn_0, dal_0, dX11_turn_1, dg1_11_45_0, dX11_turn_4, dil_1, dX11_turn_5, dv1_11_202_34, dv1_11_202_41, dv1_11_202_47, dv1_11_202_53, dv1_11_202_59, moX0_has, dX11_turn_8, dX11_turn_11, dX11_turn_12, dX11_turn_13, dX11_turn_14, dg1_11_58_0, dX11_turn_17, dX11_turn_18, dX11_turn_21, dv1_11_225_65, moX3_load, dX11_turn_24, dX11_turn_25, dg1_11_74_0, dX11_turn_28, dX11_turn_29, dv1_11_229_82, moX4_findBest, dX11_turn_32, dX11_turn_33, dX11_turn_36, dg1_11_239_82, dX11_turn_39, dX11_turn_42, dX11_turn_43, dX11_turn_44, dX11_turn_45, dX11_turn_48, dg1_11_199_34, dg1_11_199_41, dg1_11_199_47, dg1_11_199_53, dg1_11_199_59, dX11_turn_51, dX11_turn_52, dX11_turn_53, dX11_turn_54, dX11_turn_57, dX11_turn_58, dX11_turn_61, dg1_11_190_34, dg1_11_190_41, dg1_11_190_47, dg1_11_190_53, dg1_11_190_59, dX11_turn_64, dX11_turn_65, dX11_turn_66, dX11_turn_69, dg1_11_232_82, dX11_turn_72, dX11_turn_73, dX11_turn_76, dX11_turn_77, dX11_turn_80, dg1_11_187_34, dg1_11_187_41, dg1_11_187_47, dg1_11_187_53, dg1_11_187_59, dX11_turn_83, dX11_turn_84, dX11_turn_85, dX11_turn_88, dX11_turn_91, dX11_turn_92, dX11_turn_93, dX11_turn_94, dg1_11_104_0, dX11_turn_97, dX11_turn_98, dX11_turn_99, dp1_11_104_0, dX11_turn_102, dX11_turn_103, dal1_35, das1_35, dal1_36, das1_36, dal1_39, das1_39, dal1_42, das1_42, dal1_43, das1_43, dal1_46, das1_46, dal1_48, das1_48, dal1_49, das1_49, dal1_52, das1_52, dal1_54, das1_54, dal1_55, das1_55, dal1_58, das1_58, dal1_60, das1_60, dal1_61, das1_61, dal1_64, das1_64]
  refine r_has2 hs hn (fun v hv => ?_)
  try simp only [cq_lt, cq_le, cq_gt, cq_ge, cq_eq, cq_r1, cq_r2, ab_r32, ab_r64, ab_go, ab_stp, wp_z, ab_in, ab_rok, ab_wsum, ab_prm, ab_ret, ab_sw, ab_cd, ab_tg, ab_cat_i, ab_cat_l, ab_cat_r, ab_cl_n, ab_cl_i, ab_cl_l, ab_cl_r, ab_f2_0, ab_f2_1, ab_f4_0, ab_f4_1, ab_f4_2, ab_f4_3, ab_op_s, ab_b1_s, ab_b2_s, ab_l1_s, ab_l2_s, ab_li_s, ab_o1_s, ab_io_s, ab_lo1_s, ab_iio_s, ab_lio_s, ab_cp5_s, ab_d2_l, ab_d2_i, ab_d2_o, ex_iconst, ex_bipush, ex_sipush, ex_lconst, ex_ldc, ex_ldc_w, ex_ldc2_w, ex_iadd, ex_isub, ex_imul, ex_iand, ex_ior, ex_ixor, ex_ishl, ex_ishr, ex_iushr, ex_idiv, ex_irem, ex_ladd, ex_lsub, ex_lmul, ex_lor, ex_ldiv, ex_lrem, ex_lshl, ex_lcmp, ex_ineg, ex_lneg, ex_i2l, ex_l2i, ex_i2b, ex_dup, ex_pop, ex_dup2, ex_goto, ex_tableswitch, ex_aaload, ex_ireturn, ex_lreturn, ex_return_, List.map_cons, List.map_nil, List.sum_cons, List.sum_nil, List.drop_succ_cons, List.drop_zero, List.take_succ_cons, List.take_zero, List.reverse_cons, List.reverse_nil, List.nil_append, List.cons_append, List.length_cons, List.length_nil, true_and, and_true, cond_false, cond_true, Bool.false_or, Bool.or_false, Bool.or_true, Bool.true_or, true_or, or_true, false_or, or_false, if_true, if_false, reduceIte, ite_true, ite_false, implies_true, true_implies, false_implies, forall_const, not_true_eq_false, not_false_eq_true, Nat.reduceAdd, Nat.reduceMul, Nat.reduceSub, Nat.reduceBEq, Nat.reduceEqDiff, Nat.reduceLeDiff, Nat.reduceLT, Int.reduceAdd, Int.reduceSub, Int.reduceMul, Int.reduceNeg, Int.reduceToNat, Int.reduceLE, Int.reduceLT, Int.reduceEq, Int.reduceNe, Int.reduceNatCast, Nat.add_zero, Nat.zero_add, reduceCtorEq, Int.reduceNatCast', wp_c, wp_g, e2_ifCond, e2_if_icmp, ↓bq_t, ↓bq_f, ab_br, ↓ab_b1_s, ↓ab_b2_s, ↓ab_l1_s, ↓ab_l2_s, ↓ab_li_s, ↓ab_o1_s, ↓ab_io_s, ↓ab_lo1_s, ↓ab_iio_s, ↓ab_lio_s, ↓ab_cp5_s, moX11_turn, dX11_turn_0, dal_0, dX11_turn_1, dg1_11_45_0, dX11_turn_4, dil_1, dX11_turn_5, dv1_11_202_34, dv1_11_202_41, dv1_11_202_47, dv1_11_202_53, dv1_11_202_59, moX0_has, dX11_turn_8, dX11_turn_11, dX11_turn_12, dX11_turn_13, dX11_turn_14, dg1_11_58_0, dX11_turn_17, dX11_turn_18, dX11_turn_21, dv1_11_225_65, moX3_load, dX11_turn_24, dX11_turn_25, dg1_11_74_0, dX11_turn_28, dX11_turn_29, dv1_11_229_82, moX4_findBest, dX11_turn_32, dX11_turn_33, dX11_turn_36, dg1_11_239_82, dX11_turn_39, dX11_turn_42, dX11_turn_43, dX11_turn_44, dX11_turn_45, dX11_turn_48, dg1_11_199_34, dg1_11_199_41, dg1_11_199_47, dg1_11_199_53, dg1_11_199_59, dX11_turn_51, dX11_turn_52, dX11_turn_53, dX11_turn_54, dX11_turn_57, dX11_turn_58, dX11_turn_61, dg1_11_190_34, dg1_11_190_41, dg1_11_190_47, dg1_11_190_53, dg1_11_190_59, dX11_turn_64, dX11_turn_65, dX11_turn_66, dX11_turn_69, dg1_11_232_82, dX11_turn_72, dX11_turn_73, dX11_turn_76, dX11_turn_77, dX11_turn_80, dg1_11_187_34, dg1_11_187_41, dg1_11_187_47, dg1_11_187_53, dg1_11_187_59, dX11_turn_83, dX11_turn_84, dX11_turn_85, dX11_turn_88, dX11_turn_91, dX11_turn_92, dX11_turn_93, dX11_turn_94, dg1_11_104_0, dX11_turn_97, dX11_turn_98, dX11_turn_99, dp1_11_104_0, dX11_turn_102, dX11_turn_103, dal1_35, das1_35, dal1_36, das1_36, dal1_39, das1_39, dal1_42, das1_42, dal1_43, das1_43, dal1_46, das1_46, dal1_48, das1_48, dal1_49, das1_49, dal1_52, das1_52, dal1_54, das1_54, dal1_55, das1_55, dal1_58, das1_58, dal1_60, das1_60, dal1_61, das1_61, dal1_64, das1_64]
  repeat' (with_reducible (first | apply And.intro | intro _))
  all_goals first | omega | exact N (by omega) | skip
  have hsr : 0 ≤ s ∧ s < ω 34 5 := by omega
  have hbm := zVm_le hJ.1 (zVm_bm hJ ho hsr)
  obtain ⟨-, -, -, -, hk⟩ := hK.2 s hsr.1 hsr.2
  refine l_load hJ hK (zFr_rf ω) (fun ρ hL1 hF1 => ?_)
  try simp only [cq_lt, cq_le, cq_gt, cq_ge, cq_eq, cq_r1, cq_r2, ab_r32, ab_r64, ab_go, ab_stp, wp_z, ab_in, ab_rok, ab_wsum, ab_prm, ab_ret, ab_sw, ab_cd, ab_tg, ab_cat_i, ab_cat_l, ab_cat_r, ab_cl_n, ab_cl_i, ab_cl_l, ab_cl_r, ab_f2_0, ab_f2_1, ab_f4_0, ab_f4_1, ab_f4_2, ab_f4_3, ab_op_s, ab_b1_s, ab_b2_s, ab_l1_s, ab_l2_s, ab_li_s, ab_o1_s, ab_io_s, ab_lo1_s, ab_iio_s, ab_lio_s, ab_cp5_s, ab_d2_l, ab_d2_i, ab_d2_o, ex_iconst, ex_bipush, ex_sipush, ex_lconst, ex_ldc, ex_ldc_w, ex_ldc2_w, ex_iadd, ex_isub, ex_imul, ex_iand, ex_ior, ex_ixor, ex_ishl, ex_ishr, ex_iushr, ex_idiv, ex_irem, ex_ladd, ex_lsub, ex_lmul, ex_lor, ex_ldiv, ex_lrem, ex_lshl, ex_lcmp, ex_ineg, ex_lneg, ex_i2l, ex_l2i, ex_i2b, ex_dup, ex_pop, ex_dup2, ex_goto, ex_tableswitch, ex_aaload, ex_ireturn, ex_lreturn, ex_return_, List.map_cons, List.map_nil, List.sum_cons, List.sum_nil, List.drop_succ_cons, List.drop_zero, List.take_succ_cons, List.take_zero, List.reverse_cons, List.reverse_nil, List.nil_append, List.cons_append, List.length_cons, List.length_nil, true_and, and_true, cond_false, cond_true, Bool.false_or, Bool.or_false, Bool.or_true, Bool.true_or, true_or, or_true, false_or, or_false, if_true, if_false, reduceIte, ite_true, ite_false, implies_true, true_implies, false_implies, forall_const, not_true_eq_false, not_false_eq_true, Nat.reduceAdd, Nat.reduceMul, Nat.reduceSub, Nat.reduceBEq, Nat.reduceEqDiff, Nat.reduceLeDiff, Nat.reduceLT, Int.reduceAdd, Int.reduceSub, Int.reduceMul, Int.reduceNeg, Int.reduceToNat, Int.reduceLE, Int.reduceLT, Int.reduceEq, Int.reduceNe, Int.reduceNatCast, Nat.add_zero, Nat.zero_add, reduceCtorEq, Int.reduceNatCast', wp_c, wp_g, e2_ifCond, e2_if_icmp, ↓bq_t, ↓bq_f, ab_br, ↓ab_b1_s, ↓ab_b2_s, ↓ab_l1_s, ↓ab_l2_s, ↓ab_li_s, ↓ab_o1_s, ↓ab_io_s, ↓ab_lo1_s, ↓ab_iio_s, ↓ab_lio_s, ↓ab_cp5_s, moX11_turn, dX11_turn_0, dal_0, dX11_turn_1, dg1_11_45_0, dX11_turn_4, dil_1, dX11_turn_5, dv1_11_202_34, dv1_11_202_41, dv1_11_202_47, dv1_11_202_53, dv1_11_202_59, moX0_has, dX11_turn_8, dX11_turn_11, dX11_turn_12, dX11_turn_13, dX11_turn_14, dg1_11_58_0, dX11_turn_17, dX11_turn_18, dX11_turn_21, dv1_11_225_65, moX3_load, dX11_turn_24, dX11_turn_25, dg1_11_74_0, dX11_turn_28, dX11_turn_29, dv1_11_229_82, moX4_findBest, dX11_turn_32, dX11_turn_33, dX11_turn_36, dg1_11_239_82, dX11_turn_39, dX11_turn_42, dX11_turn_43, dX11_turn_44, dX11_turn_45, dX11_turn_48, dg1_11_199_34, dg1_11_199_41, dg1_11_199_47, dg1_11_199_53, dg1_11_199_59, dX11_turn_51, dX11_turn_52, dX11_turn_53, dX11_turn_54, dX11_turn_57, dX11_turn_58, dX11_turn_61, dg1_11_190_34, dg1_11_190_41, dg1_11_190_47, dg1_11_190_53, dg1_11_190_59, dX11_turn_64, dX11_turn_65, dX11_turn_66, dX11_turn_69, dg1_11_232_82, dX11_turn_72, dX11_turn_73, dX11_turn_76, dX11_turn_77, dX11_turn_80, dg1_11_187_34, dg1_11_187_41, dg1_11_187_47, dg1_11_187_53, dg1_11_187_59, dX11_turn_83, dX11_turn_84, dX11_turn_85, dX11_turn_88, dX11_turn_91, dX11_turn_92, dX11_turn_93, dX11_turn_94, dg1_11_104_0, dX11_turn_97, dX11_turn_98, dX11_turn_99, dp1_11_104_0, dX11_turn_102, dX11_turn_103, dal1_35, das1_35, dal1_36, das1_36, dal1_39, das1_39, dal1_42, das1_42, dal1_43, das1_43, dal1_46, das1_46, dal1_48, das1_48, dal1_49, das1_49, dal1_52, das1_52, dal1_54, das1_54, dal1_55, das1_55, dal1_58, das1_58, dal1_60, das1_60, dal1_61, das1_61, dal1_64, das1_64]
  refine l_findBest hJ hK hL1 ho hsr (fun υ u1 u2 u3 u4 u5 => ?_)
  have hF : zFv ω υ := zFv_trans (zFm_v hF1) u2
  have g39 : υ 39 = ω 39 := hF.1 39 (by omega)
  have g0 : υ 0 = ω 0 := hF.1 0 (by omega)
  have b14 := hB.2.2.2.2.2.2.2.2.2.2.2.2.2
  try simp only [cq_lt, cq_le, cq_gt, cq_ge, cq_eq, cq_r1, cq_r2, ab_r32, ab_r64, ab_go, ab_stp, wp_z, ab_in, ab_rok, ab_wsum, ab_prm, ab_ret, ab_sw, ab_cd, ab_tg, ab_cat_i, ab_cat_l, ab_cat_r, ab_cl_n, ab_cl_i, ab_cl_l, ab_cl_r, ab_f2_0, ab_f2_1, ab_f4_0, ab_f4_1, ab_f4_2, ab_f4_3, ab_op_s, ab_b1_s, ab_b2_s, ab_l1_s, ab_l2_s, ab_li_s, ab_o1_s, ab_io_s, ab_lo1_s, ab_iio_s, ab_lio_s, ab_cp5_s, ab_d2_l, ab_d2_i, ab_d2_o, ex_iconst, ex_bipush, ex_sipush, ex_lconst, ex_ldc, ex_ldc_w, ex_ldc2_w, ex_iadd, ex_isub, ex_imul, ex_iand, ex_ior, ex_ixor, ex_ishl, ex_ishr, ex_iushr, ex_idiv, ex_irem, ex_ladd, ex_lsub, ex_lmul, ex_lor, ex_ldiv, ex_lrem, ex_lshl, ex_lcmp, ex_ineg, ex_lneg, ex_i2l, ex_l2i, ex_i2b, ex_dup, ex_pop, ex_dup2, ex_goto, ex_tableswitch, ex_aaload, ex_ireturn, ex_lreturn, ex_return_, List.map_cons, List.map_nil, List.sum_cons, List.sum_nil, List.drop_succ_cons, List.drop_zero, List.take_succ_cons, List.take_zero, List.reverse_cons, List.reverse_nil, List.nil_append, List.cons_append, List.length_cons, List.length_nil, true_and, and_true, cond_false, cond_true, Bool.false_or, Bool.or_false, Bool.or_true, Bool.true_or, true_or, or_true, false_or, or_false, if_true, if_false, reduceIte, ite_true, ite_false, implies_true, true_implies, false_implies, forall_const, not_true_eq_false, not_false_eq_true, Nat.reduceAdd, Nat.reduceMul, Nat.reduceSub, Nat.reduceBEq, Nat.reduceEqDiff, Nat.reduceLeDiff, Nat.reduceLT, Int.reduceAdd, Int.reduceSub, Int.reduceMul, Int.reduceNeg, Int.reduceToNat, Int.reduceLE, Int.reduceLT, Int.reduceEq, Int.reduceNe, Int.reduceNatCast, Nat.add_zero, Nat.zero_add, reduceCtorEq, Int.reduceNatCast', wp_c, wp_g, e2_ifCond, e2_if_icmp, ↓bq_t, ↓bq_f, ab_br, ↓ab_b1_s, ↓ab_b2_s, ↓ab_l1_s, ↓ab_l2_s, ↓ab_li_s, ↓ab_o1_s, ↓ab_io_s, ↓ab_lo1_s, ↓ab_iio_s, ↓ab_lio_s, ↓ab_cp5_s, moX11_turn, dX11_turn_0, dal_0, dX11_turn_1, dg1_11_45_0, dX11_turn_4, dil_1, dX11_turn_5, dv1_11_202_34, dv1_11_202_41, dv1_11_202_47, dv1_11_202_53, dv1_11_202_59, moX0_has, dX11_turn_8, dX11_turn_11, dX11_turn_12, dX11_turn_13, dX11_turn_14, dg1_11_58_0, dX11_turn_17, dX11_turn_18, dX11_turn_21, dv1_11_225_65, moX3_load, dX11_turn_24, dX11_turn_25, dg1_11_74_0, dX11_turn_28, dX11_turn_29, dv1_11_229_82, moX4_findBest, dX11_turn_32, dX11_turn_33, dX11_turn_36, dg1_11_239_82, dX11_turn_39, dX11_turn_42, dX11_turn_43, dX11_turn_44, dX11_turn_45, dX11_turn_48, dg1_11_199_34, dg1_11_199_41, dg1_11_199_47, dg1_11_199_53, dg1_11_199_59, dX11_turn_51, dX11_turn_52, dX11_turn_53, dX11_turn_54, dX11_turn_57, dX11_turn_58, dX11_turn_61, dg1_11_190_34, dg1_11_190_41, dg1_11_190_47, dg1_11_190_53, dg1_11_190_59, dX11_turn_64, dX11_turn_65, dX11_turn_66, dX11_turn_69, dg1_11_232_82, dX11_turn_72, dX11_turn_73, dX11_turn_76, dX11_turn_77, dX11_turn_80, dg1_11_187_34, dg1_11_187_41, dg1_11_187_47, dg1_11_187_53, dg1_11_187_59, dX11_turn_83, dX11_turn_84, dX11_turn_85, dX11_turn_88, dX11_turn_91, dX11_turn_92, dX11_turn_93, dX11_turn_94, dg1_11_104_0, dX11_turn_97, dX11_turn_98, dX11_turn_99, dp1_11_104_0, dX11_turn_102, dX11_turn_103, dal1_35, das1_35, dal1_36, das1_36, dal1_39, das1_39, dal1_42, das1_42, dal1_43, das1_43, dal1_46, das1_46, dal1_48, das1_48, dal1_49, das1_49, dal1_52, das1_52, dal1_54, das1_54, dal1_55, das1_55, dal1_58, das1_58, dal1_60, das1_60, dal1_61, das1_61, dal1_64, das1_64, u3, g39]
  repeat' (with_reducible (first | apply And.intro | intro _))
  all_goals first | omega | exact A hsr (by omega) υ hF | skip
  · have z : zBm ω (ω 35) (zpr ω (ω 36)) s ≠ zNow ω (ω 35) (zpr ω (ω 36)) s := by omega
    refine C hsr z υ hF _ (fun o o0 o1 o2 => ?_) (fun j hj => ?_) ?_ ?_ ?_
    · rw [ab_up_o o o0, ab_up_o o o1]
    · rw [ab_up_eq _ 0, ab_set_at, zu_ne _ _ hj, ab_up_o 0 (by decide), g0]
    · rw [ab_up_eq _ 0, ab_set_at, zu_at, ab_up_o 0 (by decide), g0]
    · rw [ab_up_o 35 (by decide), ab_up_eq, ab_set_at, hF.1 35 (by omega)]
      unfold zTs
      rw [if_neg (by omega)]
    · rw [ab_up_o 36 (by decide), ab_up_o 36 (by decide), hF.1 36 (by omega)]
      unfold zTr
      rw [if_neg (by omega)]
  · have z : zBm ω (ω 35) (zpr ω (ω 36)) s ≠ zNow ω (ω 35) (zpr ω (ω 36)) s := by omega
    have zc := cd z
    refine C hsr z υ hF _ (fun o o0 o1 o2 => ?_) (fun j hj => ?_) ?_ ?_ ?_
    · rw [ab_up_o o o0, ab_up_o o o2]
    · rw [ab_up_eq _ 0, ab_set_at, zu_ne _ _ hj, ab_up_o 0 (by decide), g0]
    · rw [ab_up_eq _ 0, ab_set_at, zu_at, ab_up_o 0 (by decide), g0]
    · rw [ab_up_o 35 (by decide), ab_up_o 35 (by decide), hF.1 35 (by omega)]
      unfold zTs
      rw [if_pos (by omega)]
    · rw [ab_up_o 36 (by decide), ab_up_eq, ab_set_at, hF.1 36 (by omega)]
      unfold zTr
      rw [if_pos ⟨by omega, by
        rcases zc with y | y
        · have := y.1
          omega
        · exact y.2.1⟩]
