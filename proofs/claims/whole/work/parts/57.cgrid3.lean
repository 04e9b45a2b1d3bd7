-- CLASS: Grid.findRests, prepare, cornersOf, worthOf
theorem zrw_dec {C D r : Int} (hC : 0 < C) (hD : 0 < D) (hr : 0 ≤ r ∧ r < zrw C D C 0 0) : ∃ a b c, (0 ≤ a ∧ a < C) ∧ (0 ≤ b ∧ b < C) ∧ (0 ≤ c ∧ c < D) ∧ r = zrw C D a b c := by
  have h1 : r < C * C * D := by
    have := hr.2
    unfold zrw at this
    simp only [Int.add_zero] at this
    exact this
  have q0 : 0 ≤ r / D := Int.ediv_nonneg hr.1 (by omega)
  have q1 : r / D < C * C := Int.ediv_lt_of_lt_mul hD h1
  refine ⟨r / D / C, r / D % C, r % D, ⟨Int.ediv_nonneg q0 (by omega), Int.ediv_lt_of_lt_mul hC q1⟩, ⟨Int.emod_nonneg _ (by omega), Int.emod_lt_of_pos _ hC⟩, ⟨Int.emod_nonneg _ (by omega), Int.emod_lt_of_pos _ hD⟩, ?_⟩
  unfold zrw
  rw [Int.mul_comm (r / D / C) C, Int.mul_ediv_add_emod, Int.mul_comm, Int.mul_ediv_add_emod]
/-- the grid is weighed and its rests are found -/
def zGf (ω : ab_S) (x y z : Int) (ρ : ab_S) : Prop := zGh ω x y z ρ ∧ zGr ω x y z ρ (zrw (ω 3 8) (zdp (ω 3 8) z) (ω 3 8) 0 0) ∧ zOt (zRq ω x y z) (ρ 88 12) (ρ 90) (zrw (ω 3 8) (zdp (ω 3 8) z) (ω 3 8) 0 0) 1728
set_option maxRecDepth 100000 in
set_option maxHeartbeats 4000000 in
theorem l_findRests {ω σ : ab_S} {x y z : Int} {K : ab_V → ab_S → Prop} (hJ : zJ ω) (hK : zK ω) (hP : zPl ω x y z) (hF : zFr ω σ) (hH : zGh ω x y z σ) (hGr : zGr ω x y z σ (zrw (ω 3 8) (zdp (ω 3 8) z) (ω 3 8) 0 0))
    (h : ∀ ρ, zFg σ ρ → zGf ω x y z ρ → K (vI 0) ρ) : ab_Runs ab_G1 mdX1_findRests [vR 88] σ K := by
  refine ab_runs mwX1_findRests (by decide +kernel) (Nat.le_of_ble_eq_true rfl) (fun G hG => ?_)
  show G 0 [some (vR 88), none, none] [] _
  have hT := hJ.1
  have hT1 := hT.1
  have hD3 : 0 ≤ zdp (ω 3 8) z ∧ zdp (ω 3 8) z ≤ 12 := by
    unfold zdp
    split <;> omega
  have hR : ω 3 8 * zdp (ω 3 8) z * ω 3 8 = zrw (ω 3 8) (zdp (ω 3 8) z) (ω 3 8) 0 0 := by
    unfold zrw
    simp only [Int.add_zero]
    rw [Int.mul_right_comm]
  have hRin : 0 ≤ zrw (ω 3 8) (zdp (ω 3 8) z) (ω 3 8) 0 0 ∧ zrw (ω 3 8) (zdp (ω 3 8) z) (ω 3 8) 0 0 ≤ 1728 := by
    rw [← hR]
    have a1 : 0 ≤ ω 3 8 * zdp (ω 3 8) z := Int.mul_nonneg hT1.1 hD3.1
    have a2 : ω 3 8 * zdp (ω 3 8) z ≤ 144 := by
      have := Int.mul_le_mul hT1.2 hD3.2 hD3.1 (by omega)
      omega
    have a3 : ω 3 8 * zdp (ω 3 8) z * ω 3 8 ≤ 144 * 12 := Int.mul_le_mul a2 hT1.2 hT1.1 (by omega)
    exact ⟨Int.mul_nonneg a1 hT1.1, by omega⟩
  have hs0 := hH.2.2.1
  have e3 : σ 3 = ω 3 := hF 3 (by decide)
  have hgr : ∀ ρ : ab_S, ρ 89 = σ 89 → zGr ω x y z ρ (zrw (ω 3 8) (zdp (ω 3 8) z) (ω 3 8) 0 0) := fun ρ e => by
    unfold zGr
    rw [e]
    exact hGr
  have key : ∀ (k : Nat) (r : Int) (ρ : ab_S), zrw (ω 3 8) (zdp (ω 3 8) z) (ω 3 8) 0 0 - r < k → 0 ≤ r → r ≤ zrw (ω 3 8) (zdp (ω 3 8) z) (ω 3 8) 0 0 → zFg σ ρ → zGh ω x y z ρ → ρ 89 = σ 89 → zOt (zRq ω x y z) (ρ 88 12) (ρ 90) r r → G 22 [some (vR 88), some (vI (zrw (ω 3 8) (zdp (ω 3 8) z) (ω 3 8) 0 0)), some (vI r)] [] ρ := by
    intro k
    induction k with
    | zero => intro r ρ h1 h2; omega
    | succ k ih =>
      intro r ρ h1 h2 h3 hf hg h89 hO
      have hc := hO.1
      have fin : r < zrw (ω 3 8) (zdp (ω 3 8) z) (ω 3 8) 0 0 → ¬ zRq ω x y z r → G 22 [some (vR 88), some (vI (zrw (ω 3 8) (zdp (ω 3 8) z) (ω 3 8) 0 0)), some (vI (r + 1))] [] ρ := fun hlt hn => ih (r + 1) ρ (by omega) (by omega) (by omega) hf hg h89 (zOt_to hO (by omega) (by omega) (fun m m1 m2 => by rw [show m = r by omega]; exact hn))
      have dec : r < zrw (ω 3 8) (zdp (ω 3 8) z) (ω 3 8) 0 0 → ∃ a b c, (0 ≤ a ∧ a < ω 3 8) ∧ (0 ≤ b ∧ b < ω 3 8) ∧ (0 ≤ c ∧ c < zdp (ω 3 8) z) ∧ r = zrw (ω 3 8) (zdp (ω 3 8) z) a b c ∧ ρ 89 r = zWv ω x y z 0 a b c ∧ (zRq ω x y z r ↔ zRt ω x y z a b c) := by
        intro q1
        have hCp : 0 < ω 3 8 := by
          apply Classical.byContradiction
          intro zz
          have e0 : ω 3 8 = 0 := by omega
          rw [e0] at q1
          unfold zrw at q1
          simp at q1
          omega
        obtain ⟨a, b, c, ha, hb, hcc, hre⟩ := zrw_dec hCp (zdp_in (z := z) hT hCp).1 ⟨h2, q1⟩
        refine ⟨a, b, c, ha, hb, hcc, hre, ?_, ?_, fun y => ⟨a, b, c, ha, hb, hcc, hre, y⟩⟩
        · have hwv := hGr 0 (by omega) (by unfold znp; split <;> omega) a b c ha hb hcc (zrw_lt hT1 hD3 ha hb hcc)
          rw [show 1728 * (0 : Int) + zrw (ω 3 8) (zdp (ω 3 8) z) a b c = r by omega, ← h89] at hwv
          exact hwv
        · rintro ⟨a2, b2, c2, i1, i2, i3, i4, i5⟩
          have r1 := zrw_in hT1 hD3 ha hb hcc
          have r2 := zrw_in hT1 hD3 i1 i2 i3
          rw [← hre] at r1
          rw [← i4] at r2
          have ea : a2 = a := by rw [← r2.2.2.1, r1.2.2.1]
          have eb : b2 = b := by rw [← r2.2.2.2.1, r1.2.2.2.1]
          have ec : c2 = c := by rw [← r2.2.2.2.2, r1.2.2.2.2]
          rw [ea, eb, ec] at i5
          exact i5
      apply hG [22] 60
      simp only [cq_lt, cq_le, cq_gt, cq_ge, cq_eq, cq_r1, cq_r2, ab_r32, ab_r64, ab_go, ab_stp, wp_z, ab_in, ab_rok, ab_wsum, ab_prm, ab_ret, ab_sw, ab_cd, ab_tg, ab_cat_i, ab_cat_l, ab_cat_r, ab_cl_n, ab_cl_i, ab_cl_l, ab_cl_r, ab_f2_0, ab_f2_1, ab_f4_0, ab_f4_1, ab_f4_2, ab_f4_3, ab_op_s, ab_b1_s, ab_b2_s, ab_l1_s, ab_l2_s, ab_li_s, ab_o1_s, ab_io_s, ab_lo1_s, ab_iio_s, ab_lio_s, ab_cp5_s, ab_d2_l, ab_d2_i, ab_d2_o, ex_iconst, ex_bipush, ex_sipush, ex_lconst, ex_ldc, ex_ldc_w, ex_ldc2_w, ex_iadd, ex_isub, ex_imul, ex_iand, ex_ior, ex_ixor, ex_ishl, ex_ishr, ex_iushr, ex_idiv, ex_irem, ex_ladd, ex_lsub, ex_lmul, ex_lor, ex_ldiv, ex_lrem, ex_lshl, ex_lcmp, ex_ineg, ex_lneg, ex_i2l, ex_l2i, ex_i2b, ex_dup, ex_pop, ex_dup2, ex_goto, ex_tableswitch, ex_aaload, ex_ireturn, ex_lreturn, ex_return_, List.map_cons, List.map_nil, List.sum_cons, List.sum_nil, List.drop_succ_cons, List.drop_zero, List.take_succ_cons, List.take_zero, List.reverse_cons, List.reverse_nil, List.nil_append, List.cons_append, List.length_cons, List.length_nil, true_and, and_true, cond_false, cond_true, Bool.false_or, Bool.or_false, Bool.or_true, Bool.true_or, true_or, or_true, false_or, or_false, if_true, if_false, reduceIte, ite_true, ite_false, implies_true, true_implies, false_implies, forall_const, not_true_eq_false, not_false_eq_true, Nat.reduceAdd, Nat.reduceMul, Nat.reduceSub, Nat.reduceBEq, Nat.reduceEqDiff, Nat.reduceLeDiff, Nat.reduceLT, Int.reduceAdd, Int.reduceSub, Int.reduceMul, Int.reduceNeg, Int.reduceToNat, Int.reduceLE, Int.reduceLT, Int.reduceEq, Int.reduceNe, Int.reduceNatCast, Nat.add_zero, Nat.zero_add, reduceCtorEq, Int.reduceNatCast', wp_c, wp_g, e2_ifCond, e2_if_icmp, ↓bq_t, ↓bq_f, ab_br, ↓ab_b1_s, ↓ab_b2_s, ↓ab_l1_s, ↓ab_l2_s, ↓ab_li_s, ↓ab_o1_s, ↓ab_io_s, ↓ab_lo1_s, ↓ab_iio_s, ↓ab_lio_s, ↓ab_cp5_s, moX1_findRests, dX1_findRests_0, dal_0, dX1_findRests_1, dg1_1_22_88, dX1_findRests_4, dX1_findRests_5, dX1_findRests_6, dX1_findRests_7, dg1_1_53_88, dX1_findRests_10, dg1_1_76_3, dg1_1_76_12, dX1_findRests_13, dX1_findRests_14, dis_1, dX1_findRests_15, dX1_findRests_16, dX1_findRests_17, dp1_1_38_88, dX1_findRests_20, dX1_findRests_21, dis_2, dX1_findRests_22, dil_2, dX1_findRests_23, dil_1, dX1_findRests_24, dX1_findRests_27, dX1_findRests_28, dX1_findRests_31, dX1_findRests_34, dX1_findRests_35, dg1_1_11_88, dX1_findRests_38, dX1_findRests_39, dX1_findRests_40, kx1_108, dX1_findRests_43, dX1_findRests_44, dX1_findRests_47, dX1_findRests_48, dX1_findRests_49, dv1_1_110_88, moX1_isRest, dX1_findRests_52, dX1_findRests_55, dX1_findRests_56, dg1_1_15_88, dX1_findRests_59, dX1_findRests_60, dg1_1_38_88, dX1_findRests_63, dX1_findRests_64, dX1_findRests_65, dX1_findRests_66, dX1_findRests_67, dX1_findRests_70, dX1_findRests_71, dX1_findRests_72, dX1_findRests_75, dinc_2, dX1_findRests_78, dX1_findRests_81, dal1_89, das1_89, dal1_90, das1_90, dal1_92, das1_92]
      repeat' (with_reducible (first | apply And.intro | intro _))
      all_goals first | omega | skip
      · have e : r = zrw (ω 3 8) (zdp (ω 3 8) z) (ω 3 8) 0 0 := by omega
        subst e
        exact h ρ hf ⟨hg, hgr ρ h89, zOt_to hO (by omega) (by omega) (fun m m1 m2 => by omega)⟩
      all_goals (obtain ⟨a, b, c, ha, hb, hcc, hre, hwv, hrq⟩ := dec (by omega); have hwin := zWv_in (a := a) (b := b) (c := c) hJ hK hP (Or.inl rfl))
      all_goals first | omega | skip
      · rename_i q2 q3
        refine fin (by omega) (fun y => ?_)
        have := hwin.2.2 (hrq.1 y).1
        omega
      · rename_i q2 q3
        have hlet : zLet ω x y z a b c := by
          apply Classical.byContradiction
          intro y
          rw [zWv_not y] at hwv
          exact q3 hwv
        rw [hre]
        refine l_isRest hJ hK hP ((hf.1 3 (by decide)).trans e3) hg (hgr ρ h89) ha hb hcc hlet (fun v hv => ?_)
        rw [← hre]
        rw [← hrq] at hv
        try simp only [cq_lt, cq_le, cq_gt, cq_ge, cq_eq, cq_r1, cq_r2, ab_r32, ab_r64, ab_go, ab_stp, wp_z, ab_in, ab_rok, ab_wsum, ab_prm, ab_ret, ab_sw, ab_cd, ab_tg, ab_cat_i, ab_cat_l, ab_cat_r, ab_cl_n, ab_cl_i, ab_cl_l, ab_cl_r, ab_f2_0, ab_f2_1, ab_f4_0, ab_f4_1, ab_f4_2, ab_f4_3, ab_op_s, ab_b1_s, ab_b2_s, ab_l1_s, ab_l2_s, ab_li_s, ab_o1_s, ab_io_s, ab_lo1_s, ab_iio_s, ab_lio_s, ab_cp5_s, ab_d2_l, ab_d2_i, ab_d2_o, ex_iconst, ex_bipush, ex_sipush, ex_lconst, ex_ldc, ex_ldc_w, ex_ldc2_w, ex_iadd, ex_isub, ex_imul, ex_iand, ex_ior, ex_ixor, ex_ishl, ex_ishr, ex_iushr, ex_idiv, ex_irem, ex_ladd, ex_lsub, ex_lmul, ex_lor, ex_ldiv, ex_lrem, ex_lshl, ex_lcmp, ex_ineg, ex_lneg, ex_i2l, ex_l2i, ex_i2b, ex_dup, ex_pop, ex_dup2, ex_goto, ex_tableswitch, ex_aaload, ex_ireturn, ex_lreturn, ex_return_, List.map_cons, List.map_nil, List.sum_cons, List.sum_nil, List.drop_succ_cons, List.drop_zero, List.take_succ_cons, List.take_zero, List.reverse_cons, List.reverse_nil, List.nil_append, List.cons_append, List.length_cons, List.length_nil, true_and, and_true, cond_false, cond_true, Bool.false_or, Bool.or_false, Bool.or_true, Bool.true_or, true_or, or_true, false_or, or_false, if_true, if_false, reduceIte, ite_true, ite_false, implies_true, true_implies, false_implies, forall_const, not_true_eq_false, not_false_eq_true, Nat.reduceAdd, Nat.reduceMul, Nat.reduceSub, Nat.reduceBEq, Nat.reduceEqDiff, Nat.reduceLeDiff, Nat.reduceLT, Int.reduceAdd, Int.reduceSub, Int.reduceMul, Int.reduceNeg, Int.reduceToNat, Int.reduceLE, Int.reduceLT, Int.reduceEq, Int.reduceNe, Int.reduceNatCast, Nat.add_zero, Nat.zero_add, reduceCtorEq, Int.reduceNatCast', wp_c, wp_g, e2_ifCond, e2_if_icmp, ↓bq_t, ↓bq_f, ab_br, ↓ab_b1_s, ↓ab_b2_s, ↓ab_l1_s, ↓ab_l2_s, ↓ab_li_s, ↓ab_o1_s, ↓ab_io_s, ↓ab_lo1_s, ↓ab_iio_s, ↓ab_lio_s, ↓ab_cp5_s, moX1_findRests, dX1_findRests_0, dal_0, dX1_findRests_1, dg1_1_22_88, dX1_findRests_4, dX1_findRests_5, dX1_findRests_6, dX1_findRests_7, dg1_1_53_88, dX1_findRests_10, dg1_1_76_3, dg1_1_76_12, dX1_findRests_13, dX1_findRests_14, dis_1, dX1_findRests_15, dX1_findRests_16, dX1_findRests_17, dp1_1_38_88, dX1_findRests_20, dX1_findRests_21, dis_2, dX1_findRests_22, dil_2, dX1_findRests_23, dil_1, dX1_findRests_24, dX1_findRests_27, dX1_findRests_28, dX1_findRests_31, dX1_findRests_34, dX1_findRests_35, dg1_1_11_88, dX1_findRests_38, dX1_findRests_39, dX1_findRests_40, kx1_108, dX1_findRests_43, dX1_findRests_44, dX1_findRests_47, dX1_findRests_48, dX1_findRests_49, dv1_1_110_88, moX1_isRest, dX1_findRests_52, dX1_findRests_55, dX1_findRests_56, dg1_1_15_88, dX1_findRests_59, dX1_findRests_60, dg1_1_38_88, dX1_findRests_63, dX1_findRests_64, dX1_findRests_65, dX1_findRests_66, dX1_findRests_67, dX1_findRests_70, dX1_findRests_71, dX1_findRests_72, dX1_findRests_75, dinc_2, dX1_findRests_78, dX1_findRests_81, dal1_89, das1_89, dal1_90, das1_90, dal1_92, das1_92]
        repeat' (with_reducible (first | apply And.intro | intro _))
        all_goals first | omega | skip
        · rename_i q4
          refine fin (by omega) ?_
          rcases hv with ⟨-, y⟩ | ⟨y, -⟩
          · omega
          · exact y
        · rename_i q4
          have hyes : zRq ω x y z r := by
            rcases hv with ⟨y, -⟩ | ⟨-, y⟩
            · exact y
            · exact absurd y q4
          refine ih (r + 1) _ (by omega) (by omega) (by omega) (zFg_trans hf ⟨fun o o1 => by rw [ab_up_o o (by omega), ab_up_o o (by omega)], fun k k1 => ?_⟩) ?_ h89 ?_
          · show (if k = 12 then _ else ρ 88 k) = _
            rw [if_neg (by omega)]
          · obtain ⟨g1, g2, g3⟩ := hg
            exact ⟨g1, g2, g3⟩
          · have := zOt_yes hO hyes
            exact this
  apply hG [22] 60
  simp only [cq_lt, cq_le, cq_gt, cq_ge, cq_eq, cq_r1, cq_r2, ab_r32, ab_r64, ab_go, ab_stp, wp_z, ab_in, ab_rok, ab_wsum, ab_prm, ab_ret, ab_sw, ab_cd, ab_tg, ab_cat_i, ab_cat_l, ab_cat_r, ab_cl_n, ab_cl_i, ab_cl_l, ab_cl_r, ab_f2_0, ab_f2_1, ab_f4_0, ab_f4_1, ab_f4_2, ab_f4_3, ab_op_s, ab_b1_s, ab_b2_s, ab_l1_s, ab_l2_s, ab_li_s, ab_o1_s, ab_io_s, ab_lo1_s, ab_iio_s, ab_lio_s, ab_cp5_s, ab_d2_l, ab_d2_i, ab_d2_o, ex_iconst, ex_bipush, ex_sipush, ex_lconst, ex_ldc, ex_ldc_w, ex_ldc2_w, ex_iadd, ex_isub, ex_imul, ex_iand, ex_ior, ex_ixor, ex_ishl, ex_ishr, ex_iushr, ex_idiv, ex_irem, ex_ladd, ex_lsub, ex_lmul, ex_lor, ex_ldiv, ex_lrem, ex_lshl, ex_lcmp, ex_ineg, ex_lneg, ex_i2l, ex_l2i, ex_i2b, ex_dup, ex_pop, ex_dup2, ex_goto, ex_tableswitch, ex_aaload, ex_ireturn, ex_lreturn, ex_return_, List.map_cons, List.map_nil, List.sum_cons, List.sum_nil, List.drop_succ_cons, List.drop_zero, List.take_succ_cons, List.take_zero, List.reverse_cons, List.reverse_nil, List.nil_append, List.cons_append, List.length_cons, List.length_nil, true_and, and_true, cond_false, cond_true, Bool.false_or, Bool.or_false, Bool.or_true, Bool.true_or, true_or, or_true, false_or, or_false, if_true, if_false, reduceIte, ite_true, ite_false, implies_true, true_implies, false_implies, forall_const, not_true_eq_false, not_false_eq_true, Nat.reduceAdd, Nat.reduceMul, Nat.reduceSub, Nat.reduceBEq, Nat.reduceEqDiff, Nat.reduceLeDiff, Nat.reduceLT, Int.reduceAdd, Int.reduceSub, Int.reduceMul, Int.reduceNeg, Int.reduceToNat, Int.reduceLE, Int.reduceLT, Int.reduceEq, Int.reduceNe, Int.reduceNatCast, Nat.add_zero, Nat.zero_add, reduceCtorEq, Int.reduceNatCast', wp_c, wp_g, e2_ifCond, e2_if_icmp, ↓bq_t, ↓bq_f, ab_br, ↓ab_b1_s, ↓ab_b2_s, ↓ab_l1_s, ↓ab_l2_s, ↓ab_li_s, ↓ab_o1_s, ↓ab_io_s, ↓ab_lo1_s, ↓ab_iio_s, ↓ab_lio_s, ↓ab_cp5_s, moX1_findRests, dX1_findRests_0, dal_0, dX1_findRests_1, dg1_1_22_88, dX1_findRests_4, dX1_findRests_5, dX1_findRests_6, dX1_findRests_7, dg1_1_53_88, dX1_findRests_10, dg1_1_76_3, dg1_1_76_12, dX1_findRests_13, dX1_findRests_14, dis_1, dX1_findRests_15, dX1_findRests_16, dX1_findRests_17, dp1_1_38_88, dX1_findRests_20, dX1_findRests_21, dis_2, dX1_findRests_22, dil_2, dX1_findRests_23, dil_1, dX1_findRests_24, dX1_findRests_27, dX1_findRests_28, dX1_findRests_31, dX1_findRests_34, dX1_findRests_35, dg1_1_11_88, dX1_findRests_38, dX1_findRests_39, dX1_findRests_40, kx1_108, dX1_findRests_43, dX1_findRests_44, dX1_findRests_47, dX1_findRests_48, dX1_findRests_49, dv1_1_110_88, moX1_isRest, dX1_findRests_52, dX1_findRests_55, dX1_findRests_56, dg1_1_15_88, dX1_findRests_59, dX1_findRests_60, dg1_1_38_88, dX1_findRests_63, dX1_findRests_64, dX1_findRests_65, dX1_findRests_66, dX1_findRests_67, dX1_findRests_70, dX1_findRests_71, dX1_findRests_72, dX1_findRests_75, dinc_2, dX1_findRests_78, dX1_findRests_81, dal1_89, das1_89, dal1_90, das1_90, dal1_92, das1_92, hs0, e3]
  repeat' (with_reducible (first | apply And.intro | intro _))
  all_goals first | omega | skip
  rw [hR]
  refine key 1730 0 _ (by omega) (by omega) (by omega) ⟨fun o o1 => ab_up_o o (by omega), fun k k1 => ?_⟩ ?_ rfl ⟨⟨Int.le_refl 0, Int.le_refl 0⟩, fun i i1 i2 => ?_, fun i j i1 i2 i3 => ?_, fun m m1 m2 => ?_⟩
  · show (if k = 12 then _ else σ 88 k) = _
    rw [if_neg (by omega)]
  · obtain ⟨g1, g2, g3⟩ := hH
    exact ⟨g1, g2, g3⟩
  · have : i < 0 := i2
    omega
  · have : j < 0 := i3
    omega
  · obtain ⟨a, b, c, i1, i2, i3, i4, i5⟩ := m2
    have := (zrw_in hT1 hD3 i1 i2 i3).1
    omega
/-- the frame of prepare -/
def zFh (σ ρ : ab_S) : Prop := (∀ o, (o < 65 ∨ (75 < o ∧ o < 88) ∨ 92 < o) → ρ o = σ o) ∧ ∀ k, 14 ≤ k → ρ 88 k = σ 88 k
theorem zFg_h {σ ρ : ab_S} (h : zFg σ ρ) : zFh σ ρ := ⟨h.1, fun k hk => h.2 k (by omega)⟩
theorem zFh_trans {σ ρ υ : ab_S} (h1 : zFh σ ρ) (h2 : zFh ρ υ) : zFh σ υ := ⟨fun o ho => (h2.1 o ho).trans (h1.1 o ho), fun k hk => (h2.2 k hk).trans (h1.2 k hk)⟩
def zGc (ω ρ : ab_S) : Prop := ∃ x y z, zPl ω x y z ∧ zGf ω x y z ρ
set_option maxRecDepth 100000 in
set_option maxHeartbeats 4000000 in
theorem l_prepare {ω σ : ab_S} {x y z now : Int} {K : ab_V → ab_S → Prop} (hJ : zJ ω) (hK : zK ω) (hP : zPl ω x y z) (hF : zFr ω σ) (hnow : -1000 ≤ now ∧ now ≤ 1000000) (hs2 : -1000 ≤ σ 88 13 ∧ σ 88 13 ≤ 1000000) (hpl : (-1000 ≤ σ 88 11 ∧ σ 88 11 ≤ 1000) ∧ ∀ p, 0 ≤ p → p < 3 → -1000 ≤ σ 91 p ∧ σ 91 p ≤ 1000) (hc : σ 88 13 = now → zGc ω σ)
    (h : ∀ ρ, zFh σ ρ → ρ 88 13 = now → zGf ω x y z ρ → K (vI 0) ρ) : ab_Runs ab_G1 mdX1_prepare [vR 88, vI now, vI x, vI y, vI z] σ K := by
  refine ab_runs mwX1_prepare (by decide +kernel) (Nat.le_of_ble_eq_true rfl) (fun G hG => ?_)
  show G 0 [some (vR 88), some (vI now), some (vI x), some (vI y), some (vI z), none] [] _
  have hn := hK.1
  have hPx := hP.1
  have hPy := hP.2.1
  have hPz : -1 ≤ z ∧ z ≤ 4 := by
    rcases hP.2.2.2 with e | e <;> omega
  obtain ⟨p1, p2⟩ := hpl
  have p20 := p2 0 (by omega) (by omega)
  have p21 := p2 1 (by omega) (by omega)
  have p22 := p2 2 (by omega) (by omega)
  have beg : ∀ b, G 76 [some (vR 88), some (vI now), some (vI x), some (vI y), some (vI z), some (vI b)] [] σ := by
    intro b
    apply hG [9999] 60
    simp only [cq_lt, cq_le, cq_gt, cq_ge, cq_eq, cq_r1, cq_r2, ab_r32, ab_r64, ab_go, ab_stp, wp_z, ab_in, ab_rok, ab_wsum, ab_prm, ab_ret, ab_sw, ab_cd, ab_tg, ab_cat_i, ab_cat_l, ab_cat_r, ab_cl_n, ab_cl_i, ab_cl_l, ab_cl_r, ab_f2_0, ab_f2_1, ab_f4_0, ab_f4_1, ab_f4_2, ab_f4_3, ab_op_s, ab_b1_s, ab_b2_s, ab_l1_s, ab_l2_s, ab_li_s, ab_o1_s, ab_io_s, ab_lo1_s, ab_iio_s, ab_lio_s, ab_cp5_s, ab_d2_l, ab_d2_i, ab_d2_o, ex_iconst, ex_bipush, ex_sipush, ex_lconst, ex_ldc, ex_ldc_w, ex_ldc2_w, ex_iadd, ex_isub, ex_imul, ex_iand, ex_ior, ex_ixor, ex_ishl, ex_ishr, ex_iushr, ex_idiv, ex_irem, ex_ladd, ex_lsub, ex_lmul, ex_lor, ex_ldiv, ex_lrem, ex_lshl, ex_lcmp, ex_ineg, ex_lneg, ex_i2l, ex_l2i, ex_i2b, ex_dup, ex_pop, ex_dup2, ex_goto, ex_tableswitch, ex_aaload, ex_ireturn, ex_lreturn, ex_return_, List.map_cons, List.map_nil, List.sum_cons, List.sum_nil, List.drop_succ_cons, List.drop_zero, List.take_succ_cons, List.take_zero, List.reverse_cons, List.reverse_nil, List.nil_append, List.cons_append, List.length_cons, List.length_nil, true_and, and_true, cond_false, cond_true, Bool.false_or, Bool.or_false, Bool.or_true, Bool.true_or, true_or, or_true, false_or, or_false, if_true, if_false, reduceIte, ite_true, ite_false, implies_true, true_implies, false_implies, forall_const, not_true_eq_false, not_false_eq_true, Nat.reduceAdd, Nat.reduceMul, Nat.reduceSub, Nat.reduceBEq, Nat.reduceEqDiff, Nat.reduceLeDiff, Nat.reduceLT, Int.reduceAdd, Int.reduceSub, Int.reduceMul, Int.reduceNeg, Int.reduceToNat, Int.reduceLE, Int.reduceLT, Int.reduceEq, Int.reduceNe, Int.reduceNatCast, Nat.add_zero, Nat.zero_add, reduceCtorEq, Int.reduceNatCast', wp_c, wp_g, e2_ifCond, e2_if_icmp, ↓bq_t, ↓bq_f, ab_br, ↓ab_b1_s, ↓ab_b2_s, ↓ab_l1_s, ↓ab_l2_s, ↓ab_li_s, ↓ab_o1_s, ↓ab_io_s, ↓ab_lo1_s, ↓ab_iio_s, ↓ab_lio_s, ↓ab_cp5_s, moX1_prepare, dX1_prepare_0, dal_0, dX1_prepare_1, dg1_1_34_88, dX1_prepare_4, dil_4, dX1_prepare_6, dX1_prepare_7, dX1_prepare_10, dX1_prepare_11, dX1_prepare_14, dX1_prepare_15, dX1_prepare_18, dX1_prepare_19, dg1_1_19_88, dX1_prepare_22, dX1_prepare_23, dX1_prepare_24, dil_2, dX1_prepare_25, dX1_prepare_28, dX1_prepare_29, dX1_prepare_32, dX1_prepare_33, dX1_prepare_34, dil_3, dX1_prepare_35, dX1_prepare_38, dX1_prepare_39, dX1_prepare_42, dX1_prepare_43, dis_5, dX1_prepare_45, dX1_prepare_46, dg1_1_41_88, dX1_prepare_49, dil_1, dX1_prepare_50, dX1_prepare_53, dil_5, dX1_prepare_55, dX1_prepare_58, dX1_prepare_60, dX1_prepare_61, dX1_prepare_64, dX1_prepare_65, dX1_prepare_68, dX1_prepare_69, dX1_prepare_70, dX1_prepare_72, dX1_prepare_75, dX1_prepare_76, dX1_prepare_77, dX1_prepare_78, dp1_1_41_88, dX1_prepare_81, dX1_prepare_82, dX1_prepare_83, dX1_prepare_84, dX1_prepare_86, dv1_1_69_88, moX1_weighAll, dX1_prepare_89, dX1_prepare_90, dv1_1_73_88, moX1_findRests, dX1_prepare_93, dal1_91]
    repeat' (with_reducible (first | apply And.intro | intro _))
    all_goals first | omega | skip
    have hF2 : zFr ω (ab_up σ 88 13 now) := fun o o1 => by
      rw [ab_up_o o (by omega)]
      exact hF o o1
    refine l_weighAll hJ hK hP hF2 (fun φ a1 a2 a3 a4 => ?_)
    try simp only [cq_lt, cq_le, cq_gt, cq_ge, cq_eq, cq_r1, cq_r2, ab_r32, ab_r64, ab_go, ab_stp, wp_z, ab_in, ab_rok, ab_wsum, ab_prm, ab_ret, ab_sw, ab_cd, ab_tg, ab_cat_i, ab_cat_l, ab_cat_r, ab_cl_n, ab_cl_i, ab_cl_l, ab_cl_r, ab_f2_0, ab_f2_1, ab_f4_0, ab_f4_1, ab_f4_2, ab_f4_3, ab_op_s, ab_b1_s, ab_b2_s, ab_l1_s, ab_l2_s, ab_li_s, ab_o1_s, ab_io_s, ab_lo1_s, ab_iio_s, ab_lio_s, ab_cp5_s, ab_d2_l, ab_d2_i, ab_d2_o, ex_iconst, ex_bipush, ex_sipush, ex_lconst, ex_ldc, ex_ldc_w, ex_ldc2_w, ex_iadd, ex_isub, ex_imul, ex_iand, ex_ior, ex_ixor, ex_ishl, ex_ishr, ex_iushr, ex_idiv, ex_irem, ex_ladd, ex_lsub, ex_lmul, ex_lor, ex_ldiv, ex_lrem, ex_lshl, ex_lcmp, ex_ineg, ex_lneg, ex_i2l, ex_l2i, ex_i2b, ex_dup, ex_pop, ex_dup2, ex_goto, ex_tableswitch, ex_aaload, ex_ireturn, ex_lreturn, ex_return_, List.map_cons, List.map_nil, List.sum_cons, List.sum_nil, List.drop_succ_cons, List.drop_zero, List.take_succ_cons, List.take_zero, List.reverse_cons, List.reverse_nil, List.nil_append, List.cons_append, List.length_cons, List.length_nil, true_and, and_true, cond_false, cond_true, Bool.false_or, Bool.or_false, Bool.or_true, Bool.true_or, true_or, or_true, false_or, or_false, if_true, if_false, reduceIte, ite_true, ite_false, implies_true, true_implies, false_implies, forall_const, not_true_eq_false, not_false_eq_true, Nat.reduceAdd, Nat.reduceMul, Nat.reduceSub, Nat.reduceBEq, Nat.reduceEqDiff, Nat.reduceLeDiff, Nat.reduceLT, Int.reduceAdd, Int.reduceSub, Int.reduceMul, Int.reduceNeg, Int.reduceToNat, Int.reduceLE, Int.reduceLT, Int.reduceEq, Int.reduceNe, Int.reduceNatCast, Nat.add_zero, Nat.zero_add, reduceCtorEq, Int.reduceNatCast', wp_c, wp_g, e2_ifCond, e2_if_icmp, ↓bq_t, ↓bq_f, ab_br, ↓ab_b1_s, ↓ab_b2_s, ↓ab_l1_s, ↓ab_l2_s, ↓ab_li_s, ↓ab_o1_s, ↓ab_io_s, ↓ab_lo1_s, ↓ab_iio_s, ↓ab_lio_s, ↓ab_cp5_s, moX1_prepare, dX1_prepare_0, dal_0, dX1_prepare_1, dg1_1_34_88, dX1_prepare_4, dil_4, dX1_prepare_6, dX1_prepare_7, dX1_prepare_10, dX1_prepare_11, dX1_prepare_14, dX1_prepare_15, dX1_prepare_18, dX1_prepare_19, dg1_1_19_88, dX1_prepare_22, dX1_prepare_23, dX1_prepare_24, dil_2, dX1_prepare_25, dX1_prepare_28, dX1_prepare_29, dX1_prepare_32, dX1_prepare_33, dX1_prepare_34, dil_3, dX1_prepare_35, dX1_prepare_38, dX1_prepare_39, dX1_prepare_42, dX1_prepare_43, dis_5, dX1_prepare_45, dX1_prepare_46, dg1_1_41_88, dX1_prepare_49, dil_1, dX1_prepare_50, dX1_prepare_53, dil_5, dX1_prepare_55, dX1_prepare_58, dX1_prepare_60, dX1_prepare_61, dX1_prepare_64, dX1_prepare_65, dX1_prepare_68, dX1_prepare_69, dX1_prepare_70, dX1_prepare_72, dX1_prepare_75, dX1_prepare_76, dX1_prepare_77, dX1_prepare_78, dp1_1_41_88, dX1_prepare_81, dX1_prepare_82, dX1_prepare_83, dX1_prepare_84, dX1_prepare_86, dv1_1_69_88, moX1_weighAll, dX1_prepare_89, dX1_prepare_90, dv1_1_73_88, moX1_findRests, dX1_prepare_93, dal1_91]
    repeat' (with_reducible (first | apply And.intro | intro _))
    all_goals first | omega | skip
    refine l_findRests hJ hK hP (fun o o1 => (a1.1 o (by omega)).trans (hF2 o o1)) a2 a4 (fun ψ b1 b2 => ?_)
    try simp only [cq_lt, cq_le, cq_gt, cq_ge, cq_eq, cq_r1, cq_r2, ab_r32, ab_r64, ab_go, ab_stp, wp_z, ab_in, ab_rok, ab_wsum, ab_prm, ab_ret, ab_sw, ab_cd, ab_tg, ab_cat_i, ab_cat_l, ab_cat_r, ab_cl_n, ab_cl_i, ab_cl_l, ab_cl_r, ab_f2_0, ab_f2_1, ab_f4_0, ab_f4_1, ab_f4_2, ab_f4_3, ab_op_s, ab_b1_s, ab_b2_s, ab_l1_s, ab_l2_s, ab_li_s, ab_o1_s, ab_io_s, ab_lo1_s, ab_iio_s, ab_lio_s, ab_cp5_s, ab_d2_l, ab_d2_i, ab_d2_o, ex_iconst, ex_bipush, ex_sipush, ex_lconst, ex_ldc, ex_ldc_w, ex_ldc2_w, ex_iadd, ex_isub, ex_imul, ex_iand, ex_ior, ex_ixor, ex_ishl, ex_ishr, ex_iushr, ex_idiv, ex_irem, ex_ladd, ex_lsub, ex_lmul, ex_lor, ex_ldiv, ex_lrem, ex_lshl, ex_lcmp, ex_ineg, ex_lneg, ex_i2l, ex_l2i, ex_i2b, ex_dup, ex_pop, ex_dup2, ex_goto, ex_tableswitch, ex_aaload, ex_ireturn, ex_lreturn, ex_return_, List.map_cons, List.map_nil, List.sum_cons, List.sum_nil, List.drop_succ_cons, List.drop_zero, List.take_succ_cons, List.take_zero, List.reverse_cons, List.reverse_nil, List.nil_append, List.cons_append, List.length_cons, List.length_nil, true_and, and_true, cond_false, cond_true, Bool.false_or, Bool.or_false, Bool.or_true, Bool.true_or, true_or, or_true, false_or, or_false, if_true, if_false, reduceIte, ite_true, ite_false, implies_true, true_implies, false_implies, forall_const, not_true_eq_false, not_false_eq_true, Nat.reduceAdd, Nat.reduceMul, Nat.reduceSub, Nat.reduceBEq, Nat.reduceEqDiff, Nat.reduceLeDiff, Nat.reduceLT, Int.reduceAdd, Int.reduceSub, Int.reduceMul, Int.reduceNeg, Int.reduceToNat, Int.reduceLE, Int.reduceLT, Int.reduceEq, Int.reduceNe, Int.reduceNatCast, Nat.add_zero, Nat.zero_add, reduceCtorEq, Int.reduceNatCast', wp_c, wp_g, e2_ifCond, e2_if_icmp, ↓bq_t, ↓bq_f, ab_br, ↓ab_b1_s, ↓ab_b2_s, ↓ab_l1_s, ↓ab_l2_s, ↓ab_li_s, ↓ab_o1_s, ↓ab_io_s, ↓ab_lo1_s, ↓ab_iio_s, ↓ab_lio_s, ↓ab_cp5_s, moX1_prepare, dX1_prepare_0, dal_0, dX1_prepare_1, dg1_1_34_88, dX1_prepare_4, dil_4, dX1_prepare_6, dX1_prepare_7, dX1_prepare_10, dX1_prepare_11, dX1_prepare_14, dX1_prepare_15, dX1_prepare_18, dX1_prepare_19, dg1_1_19_88, dX1_prepare_22, dX1_prepare_23, dX1_prepare_24, dil_2, dX1_prepare_25, dX1_prepare_28, dX1_prepare_29, dX1_prepare_32, dX1_prepare_33, dX1_prepare_34, dil_3, dX1_prepare_35, dX1_prepare_38, dX1_prepare_39, dX1_prepare_42, dX1_prepare_43, dis_5, dX1_prepare_45, dX1_prepare_46, dg1_1_41_88, dX1_prepare_49, dil_1, dX1_prepare_50, dX1_prepare_53, dil_5, dX1_prepare_55, dX1_prepare_58, dX1_prepare_60, dX1_prepare_61, dX1_prepare_64, dX1_prepare_65, dX1_prepare_68, dX1_prepare_69, dX1_prepare_70, dX1_prepare_72, dX1_prepare_75, dX1_prepare_76, dX1_prepare_77, dX1_prepare_78, dp1_1_41_88, dX1_prepare_81, dX1_prepare_82, dX1_prepare_83, dX1_prepare_84, dX1_prepare_86, dv1_1_69_88, moX1_weighAll, dX1_prepare_89, dX1_prepare_90, dv1_1_73_88, moX1_findRests, dX1_prepare_93, dal1_91]
    refine h ψ (zFh_trans (zFh_trans ⟨fun o o1 => ab_up_o o (by omega), fun k k1 => ?_⟩ (zFg_h a1)) (zFg_h b1)) ?_ b2
    · show (if k = 13 then _ else σ 88 k) = _
      rw [if_neg (by omega)]
    · rw [b1.2 13 (by decide), a1.2 13 (by decide)]
      rfl
  have hit : σ 88 13 = now → σ 88 11 = znp z → σ 91 0 = x → σ 91 1 = y → (z = -1 ∨ σ 91 2 = z) → K (vI 0) σ := by
    intro e1 e2 e3 e4 e5
    obtain ⟨x', y', z', g1, g2⟩ := hc e1
    obtain ⟨⟨f1, ⟨f2, f3, f4⟩, f5⟩, -⟩ := id g2
    have hz : z' = z := by
      rw [f1] at e2
      unfold znp at e2
      rcases e5 with e | e
      · rw [if_pos e] at e2
        split at e2 <;> omega
      · rw [← e, f4]
    rw [← f2, ← f3, e3, e4, hz] at g2
    exact h σ ⟨fun _ _ => rfl, fun _ _ => rfl⟩ e1 g2
  have z2 : z = -1 → znp z = 2 := fun e => by unfold znp; rw [if_pos e]
  have z3 : z ≠ -1 → znp z = 3 := fun e => by unfold znp; rw [if_neg e]
  apply hG [76] 60
  simp only [cq_lt, cq_le, cq_gt, cq_ge, cq_eq, cq_r1, cq_r2, ab_r32, ab_r64, ab_go, ab_stp, wp_z, ab_in, ab_rok, ab_wsum, ab_prm, ab_ret, ab_sw, ab_cd, ab_tg, ab_cat_i, ab_cat_l, ab_cat_r, ab_cl_n, ab_cl_i, ab_cl_l, ab_cl_r, ab_f2_0, ab_f2_1, ab_f4_0, ab_f4_1, ab_f4_2, ab_f4_3, ab_op_s, ab_b1_s, ab_b2_s, ab_l1_s, ab_l2_s, ab_li_s, ab_o1_s, ab_io_s, ab_lo1_s, ab_iio_s, ab_lio_s, ab_cp5_s, ab_d2_l, ab_d2_i, ab_d2_o, ex_iconst, ex_bipush, ex_sipush, ex_lconst, ex_ldc, ex_ldc_w, ex_ldc2_w, ex_iadd, ex_isub, ex_imul, ex_iand, ex_ior, ex_ixor, ex_ishl, ex_ishr, ex_iushr, ex_idiv, ex_irem, ex_ladd, ex_lsub, ex_lmul, ex_lor, ex_ldiv, ex_lrem, ex_lshl, ex_lcmp, ex_ineg, ex_lneg, ex_i2l, ex_l2i, ex_i2b, ex_dup, ex_pop, ex_dup2, ex_goto, ex_tableswitch, ex_aaload, ex_ireturn, ex_lreturn, ex_return_, List.map_cons, List.map_nil, List.sum_cons, List.sum_nil, List.drop_succ_cons, List.drop_zero, List.take_succ_cons, List.take_zero, List.reverse_cons, List.reverse_nil, List.nil_append, List.cons_append, List.length_cons, List.length_nil, true_and, and_true, cond_false, cond_true, Bool.false_or, Bool.or_false, Bool.or_true, Bool.true_or, true_or, or_true, false_or, or_false, if_true, if_false, reduceIte, ite_true, ite_false, implies_true, true_implies, false_implies, forall_const, not_true_eq_false, not_false_eq_true, Nat.reduceAdd, Nat.reduceMul, Nat.reduceSub, Nat.reduceBEq, Nat.reduceEqDiff, Nat.reduceLeDiff, Nat.reduceLT, Int.reduceAdd, Int.reduceSub, Int.reduceMul, Int.reduceNeg, Int.reduceToNat, Int.reduceLE, Int.reduceLT, Int.reduceEq, Int.reduceNe, Int.reduceNatCast, Nat.add_zero, Nat.zero_add, reduceCtorEq, Int.reduceNatCast', wp_c, wp_g, e2_ifCond, e2_if_icmp, ↓bq_t, ↓bq_f, ab_br, ↓ab_b1_s, ↓ab_b2_s, ↓ab_l1_s, ↓ab_l2_s, ↓ab_li_s, ↓ab_o1_s, ↓ab_io_s, ↓ab_lo1_s, ↓ab_iio_s, ↓ab_lio_s, ↓ab_cp5_s, moX1_prepare, dX1_prepare_0, dal_0, dX1_prepare_1, dg1_1_34_88, dX1_prepare_4, dil_4, dX1_prepare_6, dX1_prepare_7, dX1_prepare_10, dX1_prepare_11, dX1_prepare_14, dX1_prepare_15, dX1_prepare_18, dX1_prepare_19, dg1_1_19_88, dX1_prepare_22, dX1_prepare_23, dX1_prepare_24, dil_2, dX1_prepare_25, dX1_prepare_28, dX1_prepare_29, dX1_prepare_32, dX1_prepare_33, dX1_prepare_34, dil_3, dX1_prepare_35, dX1_prepare_38, dX1_prepare_39, dX1_prepare_42, dX1_prepare_43, dis_5, dX1_prepare_45, dX1_prepare_46, dg1_1_41_88, dX1_prepare_49, dil_1, dX1_prepare_50, dX1_prepare_53, dil_5, dX1_prepare_55, dX1_prepare_58, dX1_prepare_60, dX1_prepare_61, dX1_prepare_64, dX1_prepare_65, dX1_prepare_68, dX1_prepare_69, dX1_prepare_70, dX1_prepare_72, dX1_prepare_75, dX1_prepare_76, dX1_prepare_77, dX1_prepare_78, dp1_1_41_88, dX1_prepare_81, dX1_prepare_82, dX1_prepare_83, dX1_prepare_84, dX1_prepare_86, dv1_1_69_88, moX1_weighAll, dX1_prepare_89, dX1_prepare_90, dv1_1_73_88, moX1_findRests, dX1_prepare_93, dal1_91]
  repeat' (with_reducible (first | apply And.intro | intro _))
  all_goals first | omega | exact beg _ | (refine hit (by omega) ?_ (by omega) (by omega) (by omega); first | (rw [z2 (by omega)]; omega) | (rw [z3 (by omega)]; omega))
set_option maxRecDepth 100000 in
set_option maxHeartbeats 4000000 in
theorem r_worthOf {σ : ab_S} {p r : Int} {K : ab_V → ab_S → Prop} (hp : 0 ≤ p ∧ p < 3) (hr : 0 ≤ r ∧ r < 1728) (h : K (vJ (σ 89 (1728 * p + r))) σ) : ab_Runs ab_G1 mdX1_worthOf [vR 88, vI p, vI r] σ K := by
  refine ab_runs mwX1_worthOf (by decide +kernel) (Nat.le_of_ble_eq_true rfl) (fun G hG => ?_)
  show G 0 [some (vR 88), some (vI p), some (vI r)] [] _
  apply hG [9999] 40
  simp only [cq_lt, cq_le, cq_gt, cq_ge, cq_eq, cq_r1, cq_r2, ab_r32, ab_r64, ab_go, ab_stp, wp_z, ab_in, ab_rok, ab_wsum, ab_prm, ab_ret, ab_sw, ab_cd, ab_tg, ab_cat_i, ab_cat_l, ab_cat_r, ab_cl_n, ab_cl_i, ab_cl_l, ab_cl_r, ab_f2_0, ab_f2_1, ab_f4_0, ab_f4_1, ab_f4_2, ab_f4_3, ab_op_s, ab_b1_s, ab_b2_s, ab_l1_s, ab_l2_s, ab_li_s, ab_o1_s, ab_io_s, ab_lo1_s, ab_iio_s, ab_lio_s, ab_cp5_s, ab_d2_l, ab_d2_i, ab_d2_o, ex_iconst, ex_bipush, ex_sipush, ex_lconst, ex_ldc, ex_ldc_w, ex_ldc2_w, ex_iadd, ex_isub, ex_imul, ex_iand, ex_ior, ex_ixor, ex_ishl, ex_ishr, ex_iushr, ex_idiv, ex_irem, ex_ladd, ex_lsub, ex_lmul, ex_lor, ex_ldiv, ex_lrem, ex_lshl, ex_lcmp, ex_ineg, ex_lneg, ex_i2l, ex_l2i, ex_i2b, ex_dup, ex_pop, ex_dup2, ex_goto, ex_tableswitch, ex_aaload, ex_ireturn, ex_lreturn, ex_return_, List.map_cons, List.map_nil, List.sum_cons, List.sum_nil, List.drop_succ_cons, List.drop_zero, List.take_succ_cons, List.take_zero, List.reverse_cons, List.reverse_nil, List.nil_append, List.cons_append, List.length_cons, List.length_nil, true_and, and_true, cond_false, cond_true, Bool.false_or, Bool.or_false, Bool.or_true, Bool.true_or, true_or, or_true, false_or, or_false, if_true, if_false, reduceIte, ite_true, ite_false, implies_true, true_implies, false_implies, forall_const, not_true_eq_false, not_false_eq_true, Nat.reduceAdd, Nat.reduceMul, Nat.reduceSub, Nat.reduceBEq, Nat.reduceEqDiff, Nat.reduceLeDiff, Nat.reduceLT, Int.reduceAdd, Int.reduceSub, Int.reduceMul, Int.reduceNeg, Int.reduceToNat, Int.reduceLE, Int.reduceLT, Int.reduceEq, Int.reduceNe, Int.reduceNatCast, Nat.add_zero, Nat.zero_add, reduceCtorEq, Int.reduceNatCast', wp_c, wp_g, e2_ifCond, e2_if_icmp, ↓bq_t, ↓bq_f, ab_br, ↓ab_b1_s, ↓ab_b2_s, ↓ab_l1_s, ↓ab_l2_s, ↓ab_li_s, ↓ab_o1_s, ↓ab_io_s, ↓ab_lo1_s, ↓ab_iio_s, ↓ab_lio_s, ↓ab_cp5_s, moX1_worthOf, dX1_worthOf_0, dal_0, dX1_worthOf_1, dg1_1_11_88, dX1_worthOf_4, dX1_worthOf_7, dil_1, dX1_worthOf_8, dX1_worthOf_9, dil_2, dX1_worthOf_10, dX1_worthOf_11, dX1_worthOf_12, dal1_89]
  repeat' (with_reducible (first | apply And.intro | intro _))
  all_goals first | omega | exact h
set_option maxRecDepth 100000 in
set_option maxHeartbeats 4000000 in
theorem l_cornersOf {ω σ : ab_S} {x y z a b c : Int} {K : ab_V → ab_S → Prop} (hT : zTn ω) (hF : σ 3 = ω 3) (hH : zGh ω x y z σ) (ha : 0 ≤ a ∧ a < ω 3 8) (hb : 0 ≤ b ∧ b < ω 3 8) (hc : 0 ≤ c ∧ c < zdp (ω 3 8) z) (h : K (vI (256 * a + 16 * b + c)) σ) : ab_Runs ab_G1 mdX1_cornersOf [vR 88, vI (zrw (ω 3 8) (zdp (ω 3 8) z) a b c)] σ K := by
  have hcin := fun p (hp : p = 0 ∨ p = 1 ∨ (p = 2 ∧ z ≠ -1)) (K' : ab_V → ab_S → Prop) => r_cornerIn (K := K') hT hF hH hp ha hb hc
  generalize zrw (ω 3 8) (zdp (ω 3 8) z) a b c = r at *
  refine ab_runs mwX1_cornersOf (by decide +kernel) (Nat.le_of_ble_eq_true rfl) (fun G hG => ?_)
  show G 0 [some (vR 88), some (vI r)] [] _
  have hpl := hH.1
  have hnp : 2 ≤ znp z ∧ znp z ≤ 3 := by
    unfold znp
    split <;> omega
  apply hG [9999] 40
  simp only [cq_lt, cq_le, cq_gt, cq_ge, cq_eq, cq_r1, cq_r2, ab_r32, ab_r64, ab_go, ab_stp, wp_z, ab_in, ab_rok, ab_wsum, ab_prm, ab_ret, ab_sw, ab_cd, ab_tg, ab_cat_i, ab_cat_l, ab_cat_r, ab_cl_n, ab_cl_i, ab_cl_l, ab_cl_r, ab_f2_0, ab_f2_1, ab_f4_0, ab_f4_1, ab_f4_2, ab_f4_3, ab_op_s, ab_b1_s, ab_b2_s, ab_l1_s, ab_l2_s, ab_li_s, ab_o1_s, ab_io_s, ab_lo1_s, ab_iio_s, ab_lio_s, ab_cp5_s, ab_d2_l, ab_d2_i, ab_d2_o, ex_iconst, ex_bipush, ex_sipush, ex_lconst, ex_ldc, ex_ldc_w, ex_ldc2_w, ex_iadd, ex_isub, ex_imul, ex_iand, ex_ior, ex_ixor, ex_ishl, ex_ishr, ex_iushr, ex_idiv, ex_irem, ex_ladd, ex_lsub, ex_lmul, ex_lor, ex_ldiv, ex_lrem, ex_lshl, ex_lcmp, ex_ineg, ex_lneg, ex_i2l, ex_l2i, ex_i2b, ex_dup, ex_pop, ex_dup2, ex_goto, ex_tableswitch, ex_aaload, ex_ireturn, ex_lreturn, ex_return_, List.map_cons, List.map_nil, List.sum_cons, List.sum_nil, List.drop_succ_cons, List.drop_zero, List.take_succ_cons, List.take_zero, List.reverse_cons, List.reverse_nil, List.nil_append, List.cons_append, List.length_cons, List.length_nil, true_and, and_true, cond_false, cond_true, Bool.false_or, Bool.or_false, Bool.or_true, Bool.true_or, true_or, or_true, false_or, or_false, if_true, if_false, reduceIte, ite_true, ite_false, implies_true, true_implies, false_implies, forall_const, not_true_eq_false, not_false_eq_true, Nat.reduceAdd, Nat.reduceMul, Nat.reduceSub, Nat.reduceBEq, Nat.reduceEqDiff, Nat.reduceLeDiff, Nat.reduceLT, Int.reduceAdd, Int.reduceSub, Int.reduceMul, Int.reduceNeg, Int.reduceToNat, Int.reduceLE, Int.reduceLT, Int.reduceEq, Int.reduceNe, Int.reduceNatCast, Nat.add_zero, Nat.zero_add, reduceCtorEq, Int.reduceNatCast', wp_c, wp_g, e2_ifCond, e2_if_icmp, ↓bq_t, ↓bq_f, ab_br, ↓ab_b1_s, ↓ab_b2_s, ↓ab_l1_s, ↓ab_l2_s, ↓ab_li_s, ↓ab_o1_s, ↓ab_io_s, ↓ab_lo1_s, ↓ab_iio_s, ↓ab_lio_s, ↓ab_cp5_s, moX1_cornersOf, dX1_cornersOf_0, dX1_cornersOf_3, dal_0, dX1_cornersOf_4, dil_1, dX1_cornersOf_5, dX1_cornersOf_6, dv1_1_114_88, moX1_cornerIn, dX1_cornersOf_9, dX1_cornersOf_10, dX1_cornersOf_12, dX1_cornersOf_13, dX1_cornersOf_14, dX1_cornersOf_15, dX1_cornersOf_18, dX1_cornersOf_19, dX1_cornersOf_20, dX1_cornersOf_21, dg1_1_34_88, dX1_cornersOf_24, dX1_cornersOf_25, dX1_cornersOf_28, dX1_cornersOf_29, dX1_cornersOf_30, dX1_cornersOf_31, dX1_cornersOf_34, dX1_cornersOf_37, dX1_cornersOf_38, dX1_cornersOf_39, hpl]
  repeat' (with_reducible (first | apply And.intro | intro _))
  all_goals first | omega | skip
  refine hcin 0 (Or.inl rfl) _ ?_
  try simp only [cq_lt, cq_le, cq_gt, cq_ge, cq_eq, cq_r1, cq_r2, ab_r32, ab_r64, ab_go, ab_stp, wp_z, ab_in, ab_rok, ab_wsum, ab_prm, ab_ret, ab_sw, ab_cd, ab_tg, ab_cat_i, ab_cat_l, ab_cat_r, ab_cl_n, ab_cl_i, ab_cl_l, ab_cl_r, ab_f2_0, ab_f2_1, ab_f4_0, ab_f4_1, ab_f4_2, ab_f4_3, ab_op_s, ab_b1_s, ab_b2_s, ab_l1_s, ab_l2_s, ab_li_s, ab_o1_s, ab_io_s, ab_lo1_s, ab_iio_s, ab_lio_s, ab_cp5_s, ab_d2_l, ab_d2_i, ab_d2_o, ex_iconst, ex_bipush, ex_sipush, ex_lconst, ex_ldc, ex_ldc_w, ex_ldc2_w, ex_iadd, ex_isub, ex_imul, ex_iand, ex_ior, ex_ixor, ex_ishl, ex_ishr, ex_iushr, ex_idiv, ex_irem, ex_ladd, ex_lsub, ex_lmul, ex_lor, ex_ldiv, ex_lrem, ex_lshl, ex_lcmp, ex_ineg, ex_lneg, ex_i2l, ex_l2i, ex_i2b, ex_dup, ex_pop, ex_dup2, ex_goto, ex_tableswitch, ex_aaload, ex_ireturn, ex_lreturn, ex_return_, List.map_cons, List.map_nil, List.sum_cons, List.sum_nil, List.drop_succ_cons, List.drop_zero, List.take_succ_cons, List.take_zero, List.reverse_cons, List.reverse_nil, List.nil_append, List.cons_append, List.length_cons, List.length_nil, true_and, and_true, cond_false, cond_true, Bool.false_or, Bool.or_false, Bool.or_true, Bool.true_or, true_or, or_true, false_or, or_false, if_true, if_false, reduceIte, ite_true, ite_false, implies_true, true_implies, false_implies, forall_const, not_true_eq_false, not_false_eq_true, Nat.reduceAdd, Nat.reduceMul, Nat.reduceSub, Nat.reduceBEq, Nat.reduceEqDiff, Nat.reduceLeDiff, Nat.reduceLT, Int.reduceAdd, Int.reduceSub, Int.reduceMul, Int.reduceNeg, Int.reduceToNat, Int.reduceLE, Int.reduceLT, Int.reduceEq, Int.reduceNe, Int.reduceNatCast, Nat.add_zero, Nat.zero_add, reduceCtorEq, Int.reduceNatCast', wp_c, wp_g, e2_ifCond, e2_if_icmp, ↓bq_t, ↓bq_f, ab_br, ↓ab_b1_s, ↓ab_b2_s, ↓ab_l1_s, ↓ab_l2_s, ↓ab_li_s, ↓ab_o1_s, ↓ab_io_s, ↓ab_lo1_s, ↓ab_iio_s, ↓ab_lio_s, ↓ab_cp5_s, moX1_cornersOf, dX1_cornersOf_0, dX1_cornersOf_3, dal_0, dX1_cornersOf_4, dil_1, dX1_cornersOf_5, dX1_cornersOf_6, dv1_1_114_88, moX1_cornerIn, dX1_cornersOf_9, dX1_cornersOf_10, dX1_cornersOf_12, dX1_cornersOf_13, dX1_cornersOf_14, dX1_cornersOf_15, dX1_cornersOf_18, dX1_cornersOf_19, dX1_cornersOf_20, dX1_cornersOf_21, dg1_1_34_88, dX1_cornersOf_24, dX1_cornersOf_25, dX1_cornersOf_28, dX1_cornersOf_29, dX1_cornersOf_30, dX1_cornersOf_31, dX1_cornersOf_34, dX1_cornersOf_37, dX1_cornersOf_38, dX1_cornersOf_39, hpl]
  repeat' (with_reducible (first | apply And.intro | intro _))
  all_goals first | omega | skip
  refine hcin 1 (Or.inr (Or.inl rfl)) _ ?_
  try simp only [cq_lt, cq_le, cq_gt, cq_ge, cq_eq, cq_r1, cq_r2, ab_r32, ab_r64, ab_go, ab_stp, wp_z, ab_in, ab_rok, ab_wsum, ab_prm, ab_ret, ab_sw, ab_cd, ab_tg, ab_cat_i, ab_cat_l, ab_cat_r, ab_cl_n, ab_cl_i, ab_cl_l, ab_cl_r, ab_f2_0, ab_f2_1, ab_f4_0, ab_f4_1, ab_f4_2, ab_f4_3, ab_op_s, ab_b1_s, ab_b2_s, ab_l1_s, ab_l2_s, ab_li_s, ab_o1_s, ab_io_s, ab_lo1_s, ab_iio_s, ab_lio_s, ab_cp5_s, ab_d2_l, ab_d2_i, ab_d2_o, ex_iconst, ex_bipush, ex_sipush, ex_lconst, ex_ldc, ex_ldc_w, ex_ldc2_w, ex_iadd, ex_isub, ex_imul, ex_iand, ex_ior, ex_ixor, ex_ishl, ex_ishr, ex_iushr, ex_idiv, ex_irem, ex_ladd, ex_lsub, ex_lmul, ex_lor, ex_ldiv, ex_lrem, ex_lshl, ex_lcmp, ex_ineg, ex_lneg, ex_i2l, ex_l2i, ex_i2b, ex_dup, ex_pop, ex_dup2, ex_goto, ex_tableswitch, ex_aaload, ex_ireturn, ex_lreturn, ex_return_, List.map_cons, List.map_nil, List.sum_cons, List.sum_nil, List.drop_succ_cons, List.drop_zero, List.take_succ_cons, List.take_zero, List.reverse_cons, List.reverse_nil, List.nil_append, List.cons_append, List.length_cons, List.length_nil, true_and, and_true, cond_false, cond_true, Bool.false_or, Bool.or_false, Bool.or_true, Bool.true_or, true_or, or_true, false_or, or_false, if_true, if_false, reduceIte, ite_true, ite_false, implies_true, true_implies, false_implies, forall_const, not_true_eq_false, not_false_eq_true, Nat.reduceAdd, Nat.reduceMul, Nat.reduceSub, Nat.reduceBEq, Nat.reduceEqDiff, Nat.reduceLeDiff, Nat.reduceLT, Int.reduceAdd, Int.reduceSub, Int.reduceMul, Int.reduceNeg, Int.reduceToNat, Int.reduceLE, Int.reduceLT, Int.reduceEq, Int.reduceNe, Int.reduceNatCast, Nat.add_zero, Nat.zero_add, reduceCtorEq, Int.reduceNatCast', wp_c, wp_g, e2_ifCond, e2_if_icmp, ↓bq_t, ↓bq_f, ab_br, ↓ab_b1_s, ↓ab_b2_s, ↓ab_l1_s, ↓ab_l2_s, ↓ab_li_s, ↓ab_o1_s, ↓ab_io_s, ↓ab_lo1_s, ↓ab_iio_s, ↓ab_lio_s, ↓ab_cp5_s, moX1_cornersOf, dX1_cornersOf_0, dX1_cornersOf_3, dal_0, dX1_cornersOf_4, dil_1, dX1_cornersOf_5, dX1_cornersOf_6, dv1_1_114_88, moX1_cornerIn, dX1_cornersOf_9, dX1_cornersOf_10, dX1_cornersOf_12, dX1_cornersOf_13, dX1_cornersOf_14, dX1_cornersOf_15, dX1_cornersOf_18, dX1_cornersOf_19, dX1_cornersOf_20, dX1_cornersOf_21, dg1_1_34_88, dX1_cornersOf_24, dX1_cornersOf_25, dX1_cornersOf_28, dX1_cornersOf_29, dX1_cornersOf_30, dX1_cornersOf_31, dX1_cornersOf_34, dX1_cornersOf_37, dX1_cornersOf_38, dX1_cornersOf_39, hpl]
  repeat' (with_reducible (first | apply And.intro | intro _))
  all_goals first | omega | skip
  · rename_i q1
    have hz : z = -1 := by
      apply Classical.byContradiction
      intro y
      unfold znp at q1
      rw [if_neg y] at q1
      exact q1 rfl
    have hc0 : c = 0 := by
      unfold zdp at hc
      rw [if_pos hz] at hc
      omega
    rw [hc0] at h
    exact h
  · rename_i q1
    have hz : z ≠ -1 := by
      intro y
      unfold znp at q1
      rw [if_pos y] at q1
      omega
    refine hcin 2 (Or.inr (Or.inr ⟨rfl, hz⟩)) _ ?_
    try simp only [cq_lt, cq_le, cq_gt, cq_ge, cq_eq, cq_r1, cq_r2, ab_r32, ab_r64, ab_go, ab_stp, wp_z, ab_in, ab_rok, ab_wsum, ab_prm, ab_ret, ab_sw, ab_cd, ab_tg, ab_cat_i, ab_cat_l, ab_cat_r, ab_cl_n, ab_cl_i, ab_cl_l, ab_cl_r, ab_f2_0, ab_f2_1, ab_f4_0, ab_f4_1, ab_f4_2, ab_f4_3, ab_op_s, ab_b1_s, ab_b2_s, ab_l1_s, ab_l2_s, ab_li_s, ab_o1_s, ab_io_s, ab_lo1_s, ab_iio_s, ab_lio_s, ab_cp5_s, ab_d2_l, ab_d2_i, ab_d2_o, ex_iconst, ex_bipush, ex_sipush, ex_lconst, ex_ldc, ex_ldc_w, ex_ldc2_w, ex_iadd, ex_isub, ex_imul, ex_iand, ex_ior, ex_ixor, ex_ishl, ex_ishr, ex_iushr, ex_idiv, ex_irem, ex_ladd, ex_lsub, ex_lmul, ex_lor, ex_ldiv, ex_lrem, ex_lshl, ex_lcmp, ex_ineg, ex_lneg, ex_i2l, ex_l2i, ex_i2b, ex_dup, ex_pop, ex_dup2, ex_goto, ex_tableswitch, ex_aaload, ex_ireturn, ex_lreturn, ex_return_, List.map_cons, List.map_nil, List.sum_cons, List.sum_nil, List.drop_succ_cons, List.drop_zero, List.take_succ_cons, List.take_zero, List.reverse_cons, List.reverse_nil, List.nil_append, List.cons_append, List.length_cons, List.length_nil, true_and, and_true, cond_false, cond_true, Bool.false_or, Bool.or_false, Bool.or_true, Bool.true_or, true_or, or_true, false_or, or_false, if_true, if_false, reduceIte, ite_true, ite_false, implies_true, true_implies, false_implies, forall_const, not_true_eq_false, not_false_eq_true, Nat.reduceAdd, Nat.reduceMul, Nat.reduceSub, Nat.reduceBEq, Nat.reduceEqDiff, Nat.reduceLeDiff, Nat.reduceLT, Int.reduceAdd, Int.reduceSub, Int.reduceMul, Int.reduceNeg, Int.reduceToNat, Int.reduceLE, Int.reduceLT, Int.reduceEq, Int.reduceNe, Int.reduceNatCast, Nat.add_zero, Nat.zero_add, reduceCtorEq, Int.reduceNatCast', wp_c, wp_g, e2_ifCond, e2_if_icmp, ↓bq_t, ↓bq_f, ab_br, ↓ab_b1_s, ↓ab_b2_s, ↓ab_l1_s, ↓ab_l2_s, ↓ab_li_s, ↓ab_o1_s, ↓ab_io_s, ↓ab_lo1_s, ↓ab_iio_s, ↓ab_lio_s, ↓ab_cp5_s, moX1_cornersOf, dX1_cornersOf_0, dX1_cornersOf_3, dal_0, dX1_cornersOf_4, dil_1, dX1_cornersOf_5, dX1_cornersOf_6, dv1_1_114_88, moX1_cornerIn, dX1_cornersOf_9, dX1_cornersOf_10, dX1_cornersOf_12, dX1_cornersOf_13, dX1_cornersOf_14, dX1_cornersOf_15, dX1_cornersOf_18, dX1_cornersOf_19, dX1_cornersOf_20, dX1_cornersOf_21, dg1_1_34_88, dX1_cornersOf_24, dX1_cornersOf_25, dX1_cornersOf_28, dX1_cornersOf_29, dX1_cornersOf_30, dX1_cornersOf_31, dX1_cornersOf_34, dX1_cornersOf_37, dX1_cornersOf_38, dX1_cornersOf_39]
    exact h
