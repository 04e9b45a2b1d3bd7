-- CALL: town
set_option maxRecDepth 100000 in
set_option maxHeartbeats 4000000 in
theorem r_copyTown {σ : ab_S} {K : ab_V → ab_S → Prop} (h : ∀ σ', (∀ o, ¬ (3 ≤ o ∧ o ≤ 11) → σ' o = σ o) → (∀ k, 8 ≤ k → k ≤ 14 → σ' 3 k = σ 12 k) → (∀ i, 0 ≤ i → i < 72 → σ' 4 i = σ 13 i) → (∀ i, 0 ≤ i → i < 12 → σ' 5 i = σ 14 i ∧ σ' 6 i = σ 15 i) → (∀ i, 0 ≤ i → i < 36 → σ' 7 i = σ 16 i) → (∀ i, 0 ≤ i → i < 16 → σ' 8 i = σ 17 i ∧ σ' 9 i = σ 18 i ∧ σ' 10 i = σ 19 i ∧ σ' 11 i = σ 20 i) → K (vI 0) σ') : ab_Runs ab_G1 mdX9_copyFrom [vR 3, vR 12] σ K := by
  refine ab_runs mwX9_copyFrom (by decide +kernel) (Nat.le_of_ble_eq_true rfl) (fun G hG => ?_)
  show G 0 [some (vR 3), some (vR 12)] [] _
  apply hG [9999] 140
  simp only [cq_lt, cq_le, cq_gt, cq_ge, cq_eq, cq_r1, cq_r2, ab_r32, ab_r64, ab_go, ab_stp, wp_z, ab_in, ab_rok, ab_wsum, ab_prm, ab_ret, ab_sw, ab_cd, ab_tg, ab_cat_i, ab_cat_l, ab_cat_r, ab_cl_n, ab_cl_i, ab_cl_l, ab_cl_r, ab_f2_0, ab_f2_1, ab_f4_0, ab_f4_1, ab_f4_2, ab_f4_3, ab_op_s, ab_b1_s, ab_b2_s, ab_l1_s, ab_l2_s, ab_li_s, ab_o1_s, ab_io_s, ab_lo1_s, ab_iio_s, ab_lio_s, ab_cp5_s, ab_d2_l, ab_d2_i, ab_d2_o, ex_iconst, ex_bipush, ex_sipush, ex_lconst, ex_ldc, ex_ldc_w, ex_ldc2_w, ex_iadd, ex_isub, ex_imul, ex_iand, ex_ior, ex_ixor, ex_ishl, ex_ishr, ex_iushr, ex_idiv, ex_irem, ex_ladd, ex_lsub, ex_lmul, ex_lor, ex_ldiv, ex_lrem, ex_lshl, ex_lcmp, ex_ineg, ex_lneg, ex_i2l, ex_l2i, ex_i2b, ex_dup, ex_pop, ex_dup2, ex_goto, ex_tableswitch, ex_aaload, ex_ireturn, ex_lreturn, ex_return_, List.map_cons, List.map_nil, List.sum_cons, List.sum_nil, List.drop_succ_cons, List.drop_zero, List.take_succ_cons, List.take_zero, List.reverse_cons, List.reverse_nil, List.nil_append, List.cons_append, List.length_cons, List.length_nil, true_and, and_true, cond_false, cond_true, Bool.false_or, Bool.or_false, Bool.or_true, Bool.true_or, true_or, or_true, false_or, or_false, if_true, if_false, reduceIte, ite_true, ite_false, implies_true, true_implies, false_implies, forall_const, not_true_eq_false, not_false_eq_true, Nat.reduceAdd, Nat.reduceMul, Nat.reduceSub, Nat.reduceBEq, Nat.reduceEqDiff, Nat.reduceLeDiff, Nat.reduceLT, Int.reduceAdd, Int.reduceSub, Int.reduceMul, Int.reduceNeg, Int.reduceToNat, Int.reduceLE, Int.reduceLT, Int.reduceEq, Int.reduceNe, Int.reduceNatCast, Nat.add_zero, Nat.zero_add, reduceCtorEq, Int.reduceNatCast', wp_c, wp_g, e2_ifCond, e2_if_icmp, ↓bq_t, ↓bq_f, ab_br, ↓ab_b1_s, ↓ab_b2_s, ↓ab_l1_s, ↓ab_l2_s, ↓ab_li_s, ↓ab_o1_s, ↓ab_io_s, ↓ab_lo1_s, ↓ab_iio_s, ↓ab_lio_s, ↓ab_cp5_s, moX9_copyFrom, dX9_copyFrom_0, dal_1, dX9_copyFrom_1, dg1_9_9_3, dg1_9_9_12, dX9_copyFrom_4, dX9_copyFrom_5, dal_0, dX9_copyFrom_6, dX9_copyFrom_9, dX9_copyFrom_10, dX9_copyFrom_11, dX9_copyFrom_14, dX9_copyFrom_15, dq9_64, dX9_copyFrom_18, dX9_copyFrom_19, dg1_9_15_3, dg1_9_15_12, dX9_copyFrom_22, dX9_copyFrom_23, dX9_copyFrom_24, dX9_copyFrom_27, dX9_copyFrom_28, dX9_copyFrom_30, dX9_copyFrom_33, dX9_copyFrom_34, dg1_9_18_3, dg1_9_18_12, dX9_copyFrom_37, dX9_copyFrom_38, dX9_copyFrom_39, dX9_copyFrom_42, dX9_copyFrom_43, dX9_copyFrom_45, dX9_copyFrom_48, dX9_copyFrom_49, dg1_9_21_3, dg1_9_21_12, dX9_copyFrom_52, dX9_copyFrom_53, dX9_copyFrom_54, dX9_copyFrom_57, dX9_copyFrom_58, dX9_copyFrom_59, dX9_copyFrom_62, dX9_copyFrom_63, dX9_copyFrom_66, dX9_copyFrom_67, dg1_9_24_3, dg1_9_24_12, dX9_copyFrom_70, dX9_copyFrom_71, dX9_copyFrom_72, dX9_copyFrom_75, dX9_copyFrom_76, dX9_copyFrom_78, dX9_copyFrom_81, dX9_copyFrom_82, dg1_9_27_3, dg1_9_27_12, dX9_copyFrom_85, dX9_copyFrom_86, dX9_copyFrom_87, dX9_copyFrom_90, dX9_copyFrom_91, dX9_copyFrom_93, dX9_copyFrom_96, dX9_copyFrom_97, dg1_9_30_3, dg1_9_30_12, dX9_copyFrom_100, dX9_copyFrom_101, dX9_copyFrom_102, dX9_copyFrom_105, dX9_copyFrom_106, dX9_copyFrom_108, dX9_copyFrom_111, dX9_copyFrom_112, dg1_9_33_3, dg1_9_33_12, dX9_copyFrom_115, dX9_copyFrom_116, dX9_copyFrom_117, dX9_copyFrom_120, dX9_copyFrom_121, dX9_copyFrom_123, dX9_copyFrom_126, dX9_copyFrom_127, dX9_copyFrom_128, dg1_9_36_3, dg1_9_36_12, dX9_copyFrom_131, dp1_9_36_3, dp1_9_36_12, dX9_copyFrom_134, dX9_copyFrom_135, dX9_copyFrom_136, dg1_9_40_3, dg1_9_40_12, dX9_copyFrom_139, dp1_9_40_3, dp1_9_40_12, dX9_copyFrom_142, dX9_copyFrom_143, dX9_copyFrom_144, dg1_9_43_3, dg1_9_43_12, dX9_copyFrom_147, dp1_9_43_3, dp1_9_43_12, dX9_copyFrom_150, dX9_copyFrom_151, dX9_copyFrom_152, dg1_9_46_3, dg1_9_46_12, dX9_copyFrom_155, dp1_9_46_3, dp1_9_46_12, dX9_copyFrom_158, dX9_copyFrom_159, dX9_copyFrom_160, dg1_9_49_3, dg1_9_49_12, dX9_copyFrom_163, dp1_9_49_3, dp1_9_49_12, dX9_copyFrom_166, dX9_copyFrom_167, dX9_copyFrom_168, dg1_9_52_3, dg1_9_52_12, dX9_copyFrom_171, dp1_9_52_3, dp1_9_52_12, dX9_copyFrom_174, dX9_copyFrom_175, dX9_copyFrom_176, dg1_9_55_3, dg1_9_55_12, dX9_copyFrom_179, dp1_9_55_3, dp1_9_55_12, dX9_copyFrom_182, dln1_4, ar1_4, dln1_5, ar1_5, dln1_6, ar1_6, dln1_7, ar1_7, dln1_8, ar1_8, dln1_9, ar1_9, dln1_10, ar1_10, dln1_11, ar1_11, dln1_13, ar1_13, dln1_14, ar1_14, dln1_15, ar1_15, dln1_16, ar1_16, dln1_17, ar1_17, dln1_18, ar1_18, dln1_19, ar1_19, dln1_20, ar1_20]
  repeat' (with_reducible (first | apply And.intro | intro _))
  all_goals first | omega | skip
  refine h _ (fun o ho => ?_) (fun k k1 k2 => ?_) (fun i i1 i2 => ?_) (fun i i1 i2 => ⟨?_, ?_⟩) (fun i i1 i2 => ?_) (fun i i1 i2 => ⟨?_, ?_, ?_, ?_⟩)
  · have e : ∀ p, 3 ≤ p → p ≤ 11 → o ≠ p := fun p p1 p2 e => ho ⟨by omega, by omega⟩
    rw [ab_up_o o (e 3 (by decide) (by decide)), ab_up_o o (e 3 (by decide) (by decide)), ab_up_o o (e 3 (by decide) (by decide)), ab_up_o o (e 3 (by decide) (by decide)), ab_up_o o (e 3 (by decide) (by decide)), ab_up_o o (e 3 (by decide) (by decide)), ab_up_o o (e 3 (by decide) (by decide)), ab_cpy_o o (e 11 (by decide) (by decide)), ab_cpy_o o (e 10 (by decide) (by decide)), ab_cpy_o o (e 9 (by decide) (by decide)), ab_cpy_o o (e 8 (by decide) (by decide)), ab_cpy_o o (e 7 (by decide) (by decide)), ab_cpy_o o (e 6 (by decide) (by decide)), ab_cpy_o o (e 5 (by decide) (by decide)), ab_cpy_o o (e 4 (by decide) (by decide))]
  · rcases (show k = 8 ∨ k = 9 ∨ k = 10 ∨ k = 11 ∨ k = 12 ∨ k = 13 ∨ k = 14 by omega) with rfl | rfl | rfl | rfl | rfl | rfl | rfl <;> rfl
  all_goals (show (if (0 : Int) ≤ i ∧ _ then σ _ ((0 : Int) + (i - 0)) else _) = _; rw [if_pos (by omega), show (0 : Int) + (i - 0) = i by omega])
/-- the town is the draft -/
def zTd (σ σ' : ab_S) : Prop := (∀ k, 8 ≤ k → k ≤ 14 → σ' 3 k = σ 12 k) ∧ (∀ i, 0 ≤ i → i < 72 → σ' 4 i = σ 13 i) ∧ (∀ i, 0 ≤ i → i < 12 → σ' 5 i = σ 14 i ∧ σ' 6 i = σ 15 i) ∧ (∀ i, 0 ≤ i → i < 36 → σ' 7 i = σ 16 i) ∧ (∀ i, 0 ≤ i → i < 16 → σ' 8 i = σ 17 i ∧ σ' 9 i = σ 18 i ∧ σ' 10 i = σ 19 i ∧ σ' 11 i = σ 20 i)
theorem zTo_d {σ σ' : ab_S} (h : zTd σ σ') (hD : zDr σ) (hs : 0 ≤ σ 12 14 ∧ σ 12 14 ≤ 40) : zTo σ' := by
  obtain ⟨h1, h2, h3, h4, h5⟩ := h
  obtain ⟨⟨d0, d1⟩, d2, d3, d4, d5, d6, d7, d8, d9⟩ := hD
  have e8 := h1 8 (by decide) (by decide)
  have e9 := h1 9 (by decide) (by decide)
  refine ⟨⟨by rw [e8]; exact d0, fun k k1 k2 => ?_⟩, ⟨by rw [e8]; exact d0, by rw [e9]; exact d2, fun s s1 s2 => ?_⟩, fun k k1 k2 => ?_, fun k k1 k2 => ?_, fun s s1 s2 => ?_, by rw [h1 10 (by decide) (by decide)]; exact d7, by rw [h1 11 (by decide) (by decide)]; exact d8, by rw [h1 12 (by decide) (by decide), h1 13 (by decide) (by decide)]; exact d9, by rw [h1 14 (by decide) (by decide)]; exact hs⟩
  · rw [e8] at k2
    obtain ⟨p1, p2⟩ := d1 k k1 k2
    have el : σ' (3 + 2) k = σ (12 + 2) k := (h3 k k1 (by omega)).1
    rw [el]
    refine ⟨p1, fun i i1 i2 => ?_⟩
    have : σ' (3 + 1) (6 * k + i) = σ (12 + 1) (6 * k + i) := h2 (6 * k + i) (by omega) (by omega)
    rw [this]
    exact p2 i i1 i2
  · rw [e9] at s2
    obtain ⟨p1, p2, p3, -⟩ := h5 s s1 (by omega)
    rw [p1, p2, p3, e8]
    exact d5 s s1 s2
  · rw [(h3 k k1 k2).2]
    exact (d3 k k1 k2).1
  · rw [h4 k k1 k2]
    exact (d4 k k1 k2).1
  · rw [(h5 s s1 s2).2.2.2]
    exact (d6 s s1 s2).1
/-- the model's town is its draft -/
def yTd (ω τ' : ab_S) (many : Int) : Prop := τ' 0 1 = ω 12 8 ∧ τ' 0 2 = ω 12 9 ∧ τ' 0 4 = ω 12 10 ∧ τ' 0 5 = ω 12 11 ∧ τ' 0 6 = ω 12 12 ∧ τ' 0 7 = ω 12 13 ∧ τ' 0 3 = many ∧ yNm ω 12 τ' 1 ∧ (∀ k, 0 ≤ k → k < ω 12 8 → τ' 3 k = ω 15 k ∧ ∀ b, 0 ≤ b → b < 3 → τ' 5 (3 * k + b) = ω 16 (3 * k + b)) ∧ (∀ s, 0 ≤ s → s < ω 12 9 → τ' 7 s = ω 17 s ∧ τ' 8 s = ω 18 s ∧ τ' 9 s = ω 19 s ∧ τ' 10 s = ω 20 s)
theorem yTo_d {σ σ' τ' : ab_S} (h : zTd σ σ') (hD : zDr σ) (hy : yTd σ τ' (σ 12 14)) : yTo σ' τ' := by
  obtain ⟨h1, h2, h3, h4, h5⟩ := h
  obtain ⟨y1, y2, y3, y4, y5, y6, y7, y8, y9, y10⟩ := hy
  obtain ⟨⟨d0, d1⟩, d2, -⟩ := hD
  have e8 := h1 8 (by decide) (by decide)
  have e9 := h1 9 (by decide) (by decide)
  refine ⟨fun k k1 k2 => ?_, by rw [e8]; exact y1, by rw [e9]; exact y2, by rw [h1 10 (by decide) (by decide)]; exact y3, by rw [h1 11 (by decide) (by decide)]; exact y4, by rw [h1 12 (by decide) (by decide)]; exact y5, by rw [h1 13 (by decide) (by decide)]; exact y6, by rw [h1 14 (by decide) (by decide)]; exact y7, fun k k1 k2 => ?_, fun s s1 s2 => ?_⟩
  · rw [e8] at k2
    obtain ⟨p1, p2⟩ := d1 k k1 k2
    obtain ⟨q1, q2⟩ := y8 k k1 k2
    have el : σ' (3 + 2) k = σ (12 + 2) k := (h3 k k1 (by omega)).1
    refine ⟨?_, q2⟩
    rw [q1, el]
    refine zCd7_congr (fun i hi => ?_)
    have : σ' (3 + 1) (6 * k + i) = σ (12 + 1) (6 * k + i) := h2 (6 * k + i) (by omega) (by omega)
    exact this.symm
  · rw [e8] at k2
    obtain ⟨q1, q2⟩ := y9 k k1 k2
    rw [(h3 k k1 (by omega)).2]
    refine ⟨q1, fun b b1 b2 => ?_⟩
    rw [h4 (3 * k + b) (by omega) (by omega)]
    exact q2 b b1 b2
  · rw [e9] at s2
    obtain ⟨p1, p2, p3, p4⟩ := h5 s s1 (by omega)
    rw [p1, p2, p3, p4]
    exact y10 s s1 s2
