-- MODEL: lays
def yWy (σ τ : ab_S) : Prop := τ 0 45 = σ 3 9 + σ 28 6 ∧ yWq σ (τ 25) (τ 21) (τ 22) (τ 23)
set_option maxRecDepth 100000 in
set_option maxHeartbeats 4000000 in
theorem y_lays0 {τ : ab_S} {i n : Int} {K : ab_V → ab_S → Prop} (hi : 0 ≤ i ∧ i < 120) (hk : τ 17 i = 0) (hn : τ 20 i = n) (h : K (vI 0) (ab_set τ 0 (zu (τ 0) 46 n))) : ab_Runs ab_G2 mdX12_lays [vR 0, vI i] τ K := by
  refine ab_runs mwX12_lays (by decide +kernel) (Nat.le_of_ble_eq_true rfl) (fun G hG => ?_)
  show G 0 [some (vR 0), some (vI i), none] [] _
  have u1 : ∀ x : Int, ab_up τ 0 46 x 17 = τ 17 := fun _ => rfl
  apply hG [9999] 80
  simp only [cq_lt, cq_le, cq_gt, cq_ge, cq_eq, cq_r1, cq_r2, ab_r32, ab_r64, ab_go, ab_stp, wp_z, ab_in, ab_rok, ab_wsum, ab_prm, ab_ret, ab_sw, ab_cd, ab_tg, ab_cat_i, ab_cat_l, ab_cat_r, ab_cl_n, ab_cl_i, ab_cl_l, ab_cl_r, ab_f2_0, ab_f2_1, ab_f4_0, ab_f4_1, ab_f4_2, ab_f4_3, ab_op_s, ab_b1_s, ab_b2_s, ab_l1_s, ab_l2_s, ab_li_s, ab_o1_s, ab_io_s, ab_lo1_s, ab_iio_s, ab_lio_s, ab_cp5_s, ab_d2_l, ab_d2_i, ab_d2_o, ex_iconst, ex_bipush, ex_sipush, ex_lconst, ex_ldc, ex_ldc_w, ex_ldc2_w, ex_iadd, ex_isub, ex_imul, ex_iand, ex_ior, ex_ixor, ex_ishl, ex_ishr, ex_iushr, ex_idiv, ex_irem, ex_ladd, ex_lsub, ex_lmul, ex_lor, ex_ldiv, ex_lrem, ex_lshl, ex_lcmp, ex_ineg, ex_lneg, ex_i2l, ex_l2i, ex_i2b, ex_dup, ex_pop, ex_dup2, ex_goto, ex_tableswitch, ex_aaload, ex_ireturn, ex_lreturn, ex_return_, List.map_cons, List.map_nil, List.sum_cons, List.sum_nil, List.drop_succ_cons, List.drop_zero, List.take_succ_cons, List.take_zero, List.reverse_cons, List.reverse_nil, List.nil_append, List.cons_append, List.length_cons, List.length_nil, true_and, and_true, cond_false, cond_true, Bool.false_or, Bool.or_false, Bool.or_true, Bool.true_or, true_or, or_true, false_or, or_false, if_true, if_false, reduceIte, ite_true, ite_false, implies_true, true_implies, false_implies, forall_const, not_true_eq_false, not_false_eq_true, Nat.reduceAdd, Nat.reduceMul, Nat.reduceSub, Nat.reduceBEq, Nat.reduceEqDiff, Nat.reduceLeDiff, Nat.reduceLT, Int.reduceAdd, Int.reduceSub, Int.reduceMul, Int.reduceNeg, Int.reduceToNat, Int.reduceLE, Int.reduceLT, Int.reduceEq, Int.reduceNe, Int.reduceNatCast, Nat.add_zero, Nat.zero_add, reduceCtorEq, Int.reduceNatCast', wp_c, wp_g, e2_ifCond, e2_if_icmp, ↓bq_t, ↓bq_f, ab_br, ↓ab_b1_s, ↓ab_b2_s, ↓ab_l1_s, ↓ab_l2_s, ↓ab_li_s, ↓ab_o1_s, ↓ab_io_s, ↓ab_lo1_s, ↓ab_iio_s, ↓ab_lio_s, ↓ab_cp5_s, moX12_lays, dX12_lays_0, dal_0, dX12_lays_1, dg2_12_79_0, dX12_lays_4, dil_1, dX12_lays_5, dX12_lays_6, dX12_lays_9, dX12_lays_10, dX12_lays_11, dg2_12_88_0, dX12_lays_14, dX12_lays_15, dX12_lays_16, dp2_12_348_0, dX12_lays_19, dX12_lays_20, dX12_lays_23, dX12_lays_24, dX12_lays_25, dX12_lays_26, dX12_lays_29, dX12_lays_30, dX12_lays_31, dX12_lays_34, dX12_lays_35, dX12_lays_36, dp2_12_351_0, dX12_lays_39, dX12_lays_40, dX12_lays_43, dX12_lays_44, dX12_lays_45, dX12_lays_46, dX12_lays_49, dX12_lays_50, dis_2, dX12_lays_51, dil_2, dX12_lays_52, dX12_lays_53, dg2_12_345_0, dX12_lays_56, dX12_lays_59, dX12_lays_60, dg2_12_91_0, dX12_lays_63, dX12_lays_64, dX12_lays_65, dX12_lays_66, dg2_12_82_0, dX12_lays_69, dX12_lays_70, dX12_lays_71, dX12_lays_74, dX12_lays_75, dg2_12_94_0, dX12_lays_78, dX12_lays_79, dX12_lays_80, dX12_lays_81, dg2_12_85_0, dX12_lays_84, dX12_lays_85, dX12_lays_86, dX12_lays_89, dX12_lays_90, dX12_lays_93, dX12_lays_94, dX12_lays_95, dX12_lays_96, dX12_lays_99, dX12_lays_100, dX12_lays_101, dX12_lays_104, dX12_lays_105, dX12_lays_108, dX12_lays_109, dX12_lays_110, dX12_lays_111, dX12_lays_114, dX12_lays_115, dX12_lays_116, dX12_lays_119, dX12_lays_120, dg2_12_103_0, dX12_lays_123, dX12_lays_124, dX12_lays_125, dX12_lays_126, dinc_2, dX12_lays_129, dX12_lays_132, dX12_lays_133, dX12_lays_136, dX12_lays_137, dX12_lays_138, dX12_lays_139, dX12_lays_142, dX12_lays_143, dX12_lays_144, dX12_lays_147, dX12_lays_148, dX12_lays_151, dX12_lays_152, dX12_lays_155, dX12_lays_156, dX12_lays_157, dX12_lays_158, dX12_lays_159, dX12_lays_162, dX12_lays_163, dX12_lays_166, dX12_lays_167, dX12_lays_170, dX12_lays_171, dX12_lays_172, dX12_lays_173, dX12_lays_174, dg2_12_97_0, dX12_lays_177, dX12_lays_178, dX12_lays_181, dX12_lays_182, dX12_lays_185, dX12_lays_186, dX12_lays_187, dX12_lays_188, dX12_lays_189, dX12_lays_192, dX12_lays_193, dX12_lays_196, dX12_lays_197, dX12_lays_198, dX12_lays_199, dX12_lays_200, dX12_lays_203, dX12_lays_204, dX12_lays_205, dp2_12_345_0, dX12_lays_208, dal2_17, das2_17, dal2_18, das2_18, dal2_19, das2_19, dal2_20, das2_20, dal2_21, das2_21, dal2_22, das2_22, dal2_23, das2_23, dal2_25, das2_25, hk, hn, u1]
  repeat' (with_reducible (first | apply And.intro | intro _))
  all_goals first | omega | skip
  rw [ab_up_eq]
  exact h
set_option maxRecDepth 100000 in
set_option maxHeartbeats 4000000 in
theorem y_lays3 {τ : ab_S} {i n : Int} {K : ab_V → ab_S → Prop} (hi : 0 ≤ i ∧ i < 120) (hk : τ 17 i = 3) (hn : τ 20 i = n) (h : K (vI 0) (ab_set τ 0 (zu (τ 0) 47 n))) : ab_Runs ab_G2 mdX12_lays [vR 0, vI i] τ K := by
  refine ab_runs mwX12_lays (by decide +kernel) (Nat.le_of_ble_eq_true rfl) (fun G hG => ?_)
  show G 0 [some (vR 0), some (vI i), none] [] _
  have u1 : ∀ x : Int, ab_up τ 0 47 x 17 = τ 17 := fun _ => rfl
  apply hG [9999] 80
  simp only [cq_lt, cq_le, cq_gt, cq_ge, cq_eq, cq_r1, cq_r2, ab_r32, ab_r64, ab_go, ab_stp, wp_z, ab_in, ab_rok, ab_wsum, ab_prm, ab_ret, ab_sw, ab_cd, ab_tg, ab_cat_i, ab_cat_l, ab_cat_r, ab_cl_n, ab_cl_i, ab_cl_l, ab_cl_r, ab_f2_0, ab_f2_1, ab_f4_0, ab_f4_1, ab_f4_2, ab_f4_3, ab_op_s, ab_b1_s, ab_b2_s, ab_l1_s, ab_l2_s, ab_li_s, ab_o1_s, ab_io_s, ab_lo1_s, ab_iio_s, ab_lio_s, ab_cp5_s, ab_d2_l, ab_d2_i, ab_d2_o, ex_iconst, ex_bipush, ex_sipush, ex_lconst, ex_ldc, ex_ldc_w, ex_ldc2_w, ex_iadd, ex_isub, ex_imul, ex_iand, ex_ior, ex_ixor, ex_ishl, ex_ishr, ex_iushr, ex_idiv, ex_irem, ex_ladd, ex_lsub, ex_lmul, ex_lor, ex_ldiv, ex_lrem, ex_lshl, ex_lcmp, ex_ineg, ex_lneg, ex_i2l, ex_l2i, ex_i2b, ex_dup, ex_pop, ex_dup2, ex_goto, ex_tableswitch, ex_aaload, ex_ireturn, ex_lreturn, ex_return_, List.map_cons, List.map_nil, List.sum_cons, List.sum_nil, List.drop_succ_cons, List.drop_zero, List.take_succ_cons, List.take_zero, List.reverse_cons, List.reverse_nil, List.nil_append, List.cons_append, List.length_cons, List.length_nil, true_and, and_true, cond_false, cond_true, Bool.false_or, Bool.or_false, Bool.or_true, Bool.true_or, true_or, or_true, false_or, or_false, if_true, if_false, reduceIte, ite_true, ite_false, implies_true, true_implies, false_implies, forall_const, not_true_eq_false, not_false_eq_true, Nat.reduceAdd, Nat.reduceMul, Nat.reduceSub, Nat.reduceBEq, Nat.reduceEqDiff, Nat.reduceLeDiff, Nat.reduceLT, Int.reduceAdd, Int.reduceSub, Int.reduceMul, Int.reduceNeg, Int.reduceToNat, Int.reduceLE, Int.reduceLT, Int.reduceEq, Int.reduceNe, Int.reduceNatCast, Nat.add_zero, Nat.zero_add, reduceCtorEq, Int.reduceNatCast', wp_c, wp_g, e2_ifCond, e2_if_icmp, ↓bq_t, ↓bq_f, ab_br, ↓ab_b1_s, ↓ab_b2_s, ↓ab_l1_s, ↓ab_l2_s, ↓ab_li_s, ↓ab_o1_s, ↓ab_io_s, ↓ab_lo1_s, ↓ab_iio_s, ↓ab_lio_s, ↓ab_cp5_s, moX12_lays, dX12_lays_0, dal_0, dX12_lays_1, dg2_12_79_0, dX12_lays_4, dil_1, dX12_lays_5, dX12_lays_6, dX12_lays_9, dX12_lays_10, dX12_lays_11, dg2_12_88_0, dX12_lays_14, dX12_lays_15, dX12_lays_16, dp2_12_348_0, dX12_lays_19, dX12_lays_20, dX12_lays_23, dX12_lays_24, dX12_lays_25, dX12_lays_26, dX12_lays_29, dX12_lays_30, dX12_lays_31, dX12_lays_34, dX12_lays_35, dX12_lays_36, dp2_12_351_0, dX12_lays_39, dX12_lays_40, dX12_lays_43, dX12_lays_44, dX12_lays_45, dX12_lays_46, dX12_lays_49, dX12_lays_50, dis_2, dX12_lays_51, dil_2, dX12_lays_52, dX12_lays_53, dg2_12_345_0, dX12_lays_56, dX12_lays_59, dX12_lays_60, dg2_12_91_0, dX12_lays_63, dX12_lays_64, dX12_lays_65, dX12_lays_66, dg2_12_82_0, dX12_lays_69, dX12_lays_70, dX12_lays_71, dX12_lays_74, dX12_lays_75, dg2_12_94_0, dX12_lays_78, dX12_lays_79, dX12_lays_80, dX12_lays_81, dg2_12_85_0, dX12_lays_84, dX12_lays_85, dX12_lays_86, dX12_lays_89, dX12_lays_90, dX12_lays_93, dX12_lays_94, dX12_lays_95, dX12_lays_96, dX12_lays_99, dX12_lays_100, dX12_lays_101, dX12_lays_104, dX12_lays_105, dX12_lays_108, dX12_lays_109, dX12_lays_110, dX12_lays_111, dX12_lays_114, dX12_lays_115, dX12_lays_116, dX12_lays_119, dX12_lays_120, dg2_12_103_0, dX12_lays_123, dX12_lays_124, dX12_lays_125, dX12_lays_126, dinc_2, dX12_lays_129, dX12_lays_132, dX12_lays_133, dX12_lays_136, dX12_lays_137, dX12_lays_138, dX12_lays_139, dX12_lays_142, dX12_lays_143, dX12_lays_144, dX12_lays_147, dX12_lays_148, dX12_lays_151, dX12_lays_152, dX12_lays_155, dX12_lays_156, dX12_lays_157, dX12_lays_158, dX12_lays_159, dX12_lays_162, dX12_lays_163, dX12_lays_166, dX12_lays_167, dX12_lays_170, dX12_lays_171, dX12_lays_172, dX12_lays_173, dX12_lays_174, dg2_12_97_0, dX12_lays_177, dX12_lays_178, dX12_lays_181, dX12_lays_182, dX12_lays_185, dX12_lays_186, dX12_lays_187, dX12_lays_188, dX12_lays_189, dX12_lays_192, dX12_lays_193, dX12_lays_196, dX12_lays_197, dX12_lays_198, dX12_lays_199, dX12_lays_200, dX12_lays_203, dX12_lays_204, dX12_lays_205, dp2_12_345_0, dX12_lays_208, dal2_17, das2_17, dal2_18, das2_18, dal2_19, das2_19, dal2_20, das2_20, dal2_21, das2_21, dal2_22, das2_22, dal2_23, das2_23, dal2_25, das2_25, hk, hn, u1]
  repeat' (with_reducible (first | apply And.intro | intro _))
  all_goals first | omega | skip
  rw [ab_up_eq]
  exact h
/-- the model's ways: nothing else is otherwise -/
def yFy (τ τ' : ab_S) : Prop := (∀ o, o ≠ 0 → ¬ (21 ≤ o ∧ o ≤ 25) → τ' o = τ o) ∧ ∀ j, ¬ (45 ≤ j ∧ j ≤ 47) → τ' 0 j = τ 0 j
theorem yFy_rf (τ : ab_S) : yFy τ τ := ⟨fun _ _ _ => rfl, fun _ _ => rfl⟩
theorem yFy_tr {τ τ' τ'' : ab_S} (h1 : yFy τ τ') (h2 : yFy τ' τ'') : yFy τ τ'' := ⟨fun o a b => (h2.1 o a b).trans (h1.1 o a b), fun j a => (h2.2 j a).trans (h1.2 j a)⟩
theorem yWq_in {σ : ab_S} {sh wa wb ws : Int → Int} (hT : zTn σ) (hW : zWvl 12 σ) (hq : yWq σ sh wa wb ws) {s : Int} (hs : 0 ≤ s ∧ s < σ 3 9 + σ 28 6) : (0 ≤ wa s ∧ wa s < σ 3 8) ∧ (0 ≤ wb s ∧ wb s < σ 3 8) ∧ (sh s = 0 ∨ sh s = 1) ∧ (sh s = 0 → 1 ≤ ws s ∧ ws s ≤ 12) := by
  have hS := hT.2.1
  by_cases e : s < σ 3 9
  · obtain ⟨q1, q2, q3, q4⟩ := hq.1 s.toNat (by omega)
    rw [Int.toNat_of_nonneg hs.1] at q1 q2 q3 q4
    obtain ⟨p1, p2, p3⟩ := hT.2.2 s hs.1 e
    rw [q1, q2, q3, q4]
    exact ⟨p1, p2, hW.1 s hs.1 (by omega), fun _ => p3⟩
  · obtain ⟨q1, q2, q3⟩ := hq.2 (s - σ 3 9).toNat (by omega)
    have e2 : σ 3 9 + (((s - σ 3 9).toNat : Nat) : Int) = s := by omega
    rw [e2] at q1 q2 q3
    obtain ⟨p1, p2, -⟩ := hW.2.2 (((s - σ 3 9).toNat : Nat) : Int) (by omega) (by omega)
    rw [q1, q2]
    refine ⟨p1, p2, ?_, ?_⟩
    · rcases q3 with ⟨r1, -⟩ | ⟨r1, -⟩
      · exact Or.inl r1
      · exact Or.inr r1
    · intro z
      rcases q3 with ⟨r1, r2, r3⟩ | ⟨r1, -⟩
      · rw [r2]
        exact r3
      · omega
set_option maxRecDepth 100000 in
set_option maxHeartbeats 4000000 in
theorem y_lays1 {σ σ' τ : ab_S} {i a b : Int} {K : ab_V → ab_S → Prop} (hT : zTn σ) (hW : zWvl 12 σ) (hy : yWy σ τ) (h24 : σ 3 9 + σ 28 6 ≤ 24) (hi : 0 ≤ i ∧ i < 120) (hk : τ 17 i = 1) (ha : τ 18 i = a) (hb : τ 19 i = b) (har : 0 ≤ a ∧ a < 12) (hbr : 0 ≤ b ∧ b < 12) (hz : zSb σ a b (σ 3 9) (σ 28 6) σ') (h : ∀ τ', yFy τ τ' → τ' 0 = τ 0 → yWy σ' τ' → K (vI 0) τ') : ab_Runs ab_G2 mdX12_lays [vR 0, vI i] τ K := by
  refine ab_runs mwX12_lays (by decide +kernel) (Nat.le_of_ble_eq_true rfl) (fun G hG => ?_)
  show G 0 [some (vR 0), some (vI i), none] [] _
  obtain ⟨hw, hq⟩ := hy
  have hS := hT.2.1
  have hL := hW.2.1
  have hC := hT.1
  have key : ∀ (k : Nat) (s : Int) (f : Int → Int), σ 3 9 + σ 28 6 - s < k → 0 ≤ s → s ≤ σ 3 9 + σ 28 6 → (∀ t, ((0 ≤ t ∧ t < s) ∧ ((τ 21 t = a ∧ τ 22 t = b) ∨ (τ 21 t = b ∧ τ 22 t = a)) ∧ f t = 1) ∨ (¬ ((0 ≤ t ∧ t < s) ∧ ((τ 21 t = a ∧ τ 22 t = b) ∨ (τ 21 t = b ∧ τ 22 t = a))) ∧ f t = τ 25 t)) → G 51 [some (vR 0), some (vI i), some (vI s)] [] (ab_set τ 25 f) := by
    intro k
    induction k with
    | zero => intro s f h1 h2; omega
    | succ k ih =>
      intro s f h1 h2 h3 hf
      have q := fun z : s < σ 3 9 + σ 28 6 => yWq_in hT hW hq (s := s) ⟨h2, z⟩
      have u0 : ab_set τ 25 f 0 = τ 0 := rfl
      have u17 : ab_set τ 25 f 17 = τ 17 := rfl
      have u18 : ab_set τ 25 f 18 = τ 18 := rfl
      have u19 : ab_set τ 25 f 19 = τ 19 := rfl
      have u21 : ab_set τ 25 f 21 = τ 21 := rfl
      have u22 : ab_set τ 25 f 22 = τ 22 := rfl
      have yes : s < σ 3 9 + σ 28 6 → ((τ 21 s = a ∧ τ 22 s = b) ∨ (τ 21 s = b ∧ τ 22 s = a)) → G 119 [some (vR 0), some (vI i), some (vI s)] [] (ab_set τ 25 f) := by
        intro y1 y2
        apply hG [51] 40
        simp only [cq_lt, cq_le, cq_gt, cq_ge, cq_eq, cq_r1, cq_r2, ab_r32, ab_r64, ab_go, ab_stp, wp_z, ab_in, ab_rok, ab_wsum, ab_prm, ab_ret, ab_sw, ab_cd, ab_tg, ab_cat_i, ab_cat_l, ab_cat_r, ab_cl_n, ab_cl_i, ab_cl_l, ab_cl_r, ab_f2_0, ab_f2_1, ab_f4_0, ab_f4_1, ab_f4_2, ab_f4_3, ab_op_s, ab_b1_s, ab_b2_s, ab_l1_s, ab_l2_s, ab_li_s, ab_o1_s, ab_io_s, ab_lo1_s, ab_iio_s, ab_lio_s, ab_cp5_s, ab_d2_l, ab_d2_i, ab_d2_o, ex_iconst, ex_bipush, ex_sipush, ex_lconst, ex_ldc, ex_ldc_w, ex_ldc2_w, ex_iadd, ex_isub, ex_imul, ex_iand, ex_ior, ex_ixor, ex_ishl, ex_ishr, ex_iushr, ex_idiv, ex_irem, ex_ladd, ex_lsub, ex_lmul, ex_lor, ex_ldiv, ex_lrem, ex_lshl, ex_lcmp, ex_ineg, ex_lneg, ex_i2l, ex_l2i, ex_i2b, ex_dup, ex_pop, ex_dup2, ex_goto, ex_tableswitch, ex_aaload, ex_ireturn, ex_lreturn, ex_return_, List.map_cons, List.map_nil, List.sum_cons, List.sum_nil, List.drop_succ_cons, List.drop_zero, List.take_succ_cons, List.take_zero, List.reverse_cons, List.reverse_nil, List.nil_append, List.cons_append, List.length_cons, List.length_nil, true_and, and_true, cond_false, cond_true, Bool.false_or, Bool.or_false, Bool.or_true, Bool.true_or, true_or, or_true, false_or, or_false, if_true, if_false, reduceIte, ite_true, ite_false, implies_true, true_implies, false_implies, forall_const, not_true_eq_false, not_false_eq_true, Nat.reduceAdd, Nat.reduceMul, Nat.reduceSub, Nat.reduceBEq, Nat.reduceEqDiff, Nat.reduceLeDiff, Nat.reduceLT, Int.reduceAdd, Int.reduceSub, Int.reduceMul, Int.reduceNeg, Int.reduceToNat, Int.reduceLE, Int.reduceLT, Int.reduceEq, Int.reduceNe, Int.reduceNatCast, Nat.add_zero, Nat.zero_add, reduceCtorEq, Int.reduceNatCast', wp_c, wp_g, e2_ifCond, e2_if_icmp, ↓bq_t, ↓bq_f, ab_br, ↓ab_b1_s, ↓ab_b2_s, ↓ab_l1_s, ↓ab_l2_s, ↓ab_li_s, ↓ab_o1_s, ↓ab_io_s, ↓ab_lo1_s, ↓ab_iio_s, ↓ab_lio_s, ↓ab_cp5_s, moX12_lays, dX12_lays_0, dal_0, dX12_lays_1, dg2_12_79_0, dX12_lays_4, dil_1, dX12_lays_5, dX12_lays_6, dX12_lays_9, dX12_lays_10, dX12_lays_11, dg2_12_88_0, dX12_lays_14, dX12_lays_15, dX12_lays_16, dp2_12_348_0, dX12_lays_19, dX12_lays_20, dX12_lays_23, dX12_lays_24, dX12_lays_25, dX12_lays_26, dX12_lays_29, dX12_lays_30, dX12_lays_31, dX12_lays_34, dX12_lays_35, dX12_lays_36, dp2_12_351_0, dX12_lays_39, dX12_lays_40, dX12_lays_43, dX12_lays_44, dX12_lays_45, dX12_lays_46, dX12_lays_49, dX12_lays_50, dis_2, dX12_lays_51, dil_2, dX12_lays_52, dX12_lays_53, dg2_12_345_0, dX12_lays_56, dX12_lays_59, dX12_lays_60, dg2_12_91_0, dX12_lays_63, dX12_lays_64, dX12_lays_65, dX12_lays_66, dg2_12_82_0, dX12_lays_69, dX12_lays_70, dX12_lays_71, dX12_lays_74, dX12_lays_75, dg2_12_94_0, dX12_lays_78, dX12_lays_79, dX12_lays_80, dX12_lays_81, dg2_12_85_0, dX12_lays_84, dX12_lays_85, dX12_lays_86, dX12_lays_89, dX12_lays_90, dX12_lays_93, dX12_lays_94, dX12_lays_95, dX12_lays_96, dX12_lays_99, dX12_lays_100, dX12_lays_101, dX12_lays_104, dX12_lays_105, dX12_lays_108, dX12_lays_109, dX12_lays_110, dX12_lays_111, dX12_lays_114, dX12_lays_115, dX12_lays_116, dX12_lays_119, dX12_lays_120, dg2_12_103_0, dX12_lays_123, dX12_lays_124, dX12_lays_125, dX12_lays_126, dinc_2, dX12_lays_129, dX12_lays_132, dX12_lays_133, dX12_lays_136, dX12_lays_137, dX12_lays_138, dX12_lays_139, dX12_lays_142, dX12_lays_143, dX12_lays_144, dX12_lays_147, dX12_lays_148, dX12_lays_151, dX12_lays_152, dX12_lays_155, dX12_lays_156, dX12_lays_157, dX12_lays_158, dX12_lays_159, dX12_lays_162, dX12_lays_163, dX12_lays_166, dX12_lays_167, dX12_lays_170, dX12_lays_171, dX12_lays_172, dX12_lays_173, dX12_lays_174, dg2_12_97_0, dX12_lays_177, dX12_lays_178, dX12_lays_181, dX12_lays_182, dX12_lays_185, dX12_lays_186, dX12_lays_187, dX12_lays_188, dX12_lays_189, dX12_lays_192, dX12_lays_193, dX12_lays_196, dX12_lays_197, dX12_lays_198, dX12_lays_199, dX12_lays_200, dX12_lays_203, dX12_lays_204, dX12_lays_205, dp2_12_345_0, dX12_lays_208, dal2_17, das2_17, dal2_18, das2_18, dal2_19, das2_19, dal2_20, das2_20, dal2_21, das2_21, dal2_22, das2_22, dal2_23, das2_23, dal2_25, das2_25]
        repeat' (with_reducible (first | apply And.intro | intro _))
        all_goals first | omega | skip
        rw [ab_up_set]
        refine ih (s + 1) _ (by omega) (by omega) (by omega) (fun t => ?_)
        by_cases e : t = s
        · rw [e, zu_at]
          exact Or.inl ⟨by omega, y2, rfl⟩
        · rw [zu_ne _ _ e]
          rcases hf t with ⟨p1, p2, p3⟩ | ⟨p1, p2⟩
          · exact Or.inl ⟨by omega, p2, p3⟩
          · exact Or.inr ⟨fun p => p1 ⟨by omega, p.2⟩, p2⟩
      have no : s < σ 3 9 + σ 28 6 → ¬ ((τ 21 s = a ∧ τ 22 s = b) ∨ (τ 21 s = b ∧ τ 22 s = a)) → G 51 [some (vR 0), some (vI i), some (vI (s + 1))] [] (ab_set τ 25 f) := by
        intro y1 y2
        refine ih (s + 1) f (by omega) (by omega) (by omega) (fun t => ?_)
        rcases hf t with ⟨p1, p2, p3⟩ | ⟨p1, p2⟩
        · exact Or.inl ⟨by omega, p2, p3⟩
        · by_cases e : t = s
          · exact Or.inr ⟨fun p => y2 (e ▸ p.2), p2⟩
          · exact Or.inr ⟨fun p => p1 ⟨by omega, p.2⟩, p2⟩
      apply hG [51, 119] 60
      simp only [cq_lt, cq_le, cq_gt, cq_ge, cq_eq, cq_r1, cq_r2, ab_r32, ab_r64, ab_go, ab_stp, wp_z, ab_in, ab_rok, ab_wsum, ab_prm, ab_ret, ab_sw, ab_cd, ab_tg, ab_cat_i, ab_cat_l, ab_cat_r, ab_cl_n, ab_cl_i, ab_cl_l, ab_cl_r, ab_f2_0, ab_f2_1, ab_f4_0, ab_f4_1, ab_f4_2, ab_f4_3, ab_op_s, ab_b1_s, ab_b2_s, ab_l1_s, ab_l2_s, ab_li_s, ab_o1_s, ab_io_s, ab_lo1_s, ab_iio_s, ab_lio_s, ab_cp5_s, ab_d2_l, ab_d2_i, ab_d2_o, ex_iconst, ex_bipush, ex_sipush, ex_lconst, ex_ldc, ex_ldc_w, ex_ldc2_w, ex_iadd, ex_isub, ex_imul, ex_iand, ex_ior, ex_ixor, ex_ishl, ex_ishr, ex_iushr, ex_idiv, ex_irem, ex_ladd, ex_lsub, ex_lmul, ex_lor, ex_ldiv, ex_lrem, ex_lshl, ex_lcmp, ex_ineg, ex_lneg, ex_i2l, ex_l2i, ex_i2b, ex_dup, ex_pop, ex_dup2, ex_goto, ex_tableswitch, ex_aaload, ex_ireturn, ex_lreturn, ex_return_, List.map_cons, List.map_nil, List.sum_cons, List.sum_nil, List.drop_succ_cons, List.drop_zero, List.take_succ_cons, List.take_zero, List.reverse_cons, List.reverse_nil, List.nil_append, List.cons_append, List.length_cons, List.length_nil, true_and, and_true, cond_false, cond_true, Bool.false_or, Bool.or_false, Bool.or_true, Bool.true_or, true_or, or_true, false_or, or_false, if_true, if_false, reduceIte, ite_true, ite_false, implies_true, true_implies, false_implies, forall_const, not_true_eq_false, not_false_eq_true, Nat.reduceAdd, Nat.reduceMul, Nat.reduceSub, Nat.reduceBEq, Nat.reduceEqDiff, Nat.reduceLeDiff, Nat.reduceLT, Int.reduceAdd, Int.reduceSub, Int.reduceMul, Int.reduceNeg, Int.reduceToNat, Int.reduceLE, Int.reduceLT, Int.reduceEq, Int.reduceNe, Int.reduceNatCast, Nat.add_zero, Nat.zero_add, reduceCtorEq, Int.reduceNatCast', wp_c, wp_g, e2_ifCond, e2_if_icmp, ↓bq_t, ↓bq_f, ab_br, ↓ab_b1_s, ↓ab_b2_s, ↓ab_l1_s, ↓ab_l2_s, ↓ab_li_s, ↓ab_o1_s, ↓ab_io_s, ↓ab_lo1_s, ↓ab_iio_s, ↓ab_lio_s, ↓ab_cp5_s, moX12_lays, dX12_lays_0, dal_0, dX12_lays_1, dg2_12_79_0, dX12_lays_4, dil_1, dX12_lays_5, dX12_lays_6, dX12_lays_9, dX12_lays_10, dX12_lays_11, dg2_12_88_0, dX12_lays_14, dX12_lays_15, dX12_lays_16, dp2_12_348_0, dX12_lays_19, dX12_lays_20, dX12_lays_23, dX12_lays_24, dX12_lays_25, dX12_lays_26, dX12_lays_29, dX12_lays_30, dX12_lays_31, dX12_lays_34, dX12_lays_35, dX12_lays_36, dp2_12_351_0, dX12_lays_39, dX12_lays_40, dX12_lays_43, dX12_lays_44, dX12_lays_45, dX12_lays_46, dX12_lays_49, dX12_lays_50, dis_2, dX12_lays_51, dil_2, dX12_lays_52, dX12_lays_53, dg2_12_345_0, dX12_lays_56, dX12_lays_59, dX12_lays_60, dg2_12_91_0, dX12_lays_63, dX12_lays_64, dX12_lays_65, dX12_lays_66, dg2_12_82_0, dX12_lays_69, dX12_lays_70, dX12_lays_71, dX12_lays_74, dX12_lays_75, dg2_12_94_0, dX12_lays_78, dX12_lays_79, dX12_lays_80, dX12_lays_81, dg2_12_85_0, dX12_lays_84, dX12_lays_85, dX12_lays_86, dX12_lays_89, dX12_lays_90, dX12_lays_93, dX12_lays_94, dX12_lays_95, dX12_lays_96, dX12_lays_99, dX12_lays_100, dX12_lays_101, dX12_lays_104, dX12_lays_105, dX12_lays_108, dX12_lays_109, dX12_lays_110, dX12_lays_111, dX12_lays_114, dX12_lays_115, dX12_lays_116, dX12_lays_119, dX12_lays_120, dg2_12_103_0, dX12_lays_123, dX12_lays_124, dX12_lays_125, dX12_lays_126, dinc_2, dX12_lays_129, dX12_lays_132, dX12_lays_133, dX12_lays_136, dX12_lays_137, dX12_lays_138, dX12_lays_139, dX12_lays_142, dX12_lays_143, dX12_lays_144, dX12_lays_147, dX12_lays_148, dX12_lays_151, dX12_lays_152, dX12_lays_155, dX12_lays_156, dX12_lays_157, dX12_lays_158, dX12_lays_159, dX12_lays_162, dX12_lays_163, dX12_lays_166, dX12_lays_167, dX12_lays_170, dX12_lays_171, dX12_lays_172, dX12_lays_173, dX12_lays_174, dg2_12_97_0, dX12_lays_177, dX12_lays_178, dX12_lays_181, dX12_lays_182, dX12_lays_185, dX12_lays_186, dX12_lays_187, dX12_lays_188, dX12_lays_189, dX12_lays_192, dX12_lays_193, dX12_lays_196, dX12_lays_197, dX12_lays_198, dX12_lays_199, dX12_lays_200, dX12_lays_203, dX12_lays_204, dX12_lays_205, dp2_12_345_0, dX12_lays_208, dal2_17, das2_17, dal2_18, das2_18, dal2_19, das2_19, dal2_20, das2_20, dal2_21, das2_21, dal2_22, das2_22, dal2_23, das2_23, dal2_25, das2_25, u0, u17, u18, u19, u21, u22, hw, ha, hb, hk]
      repeat' (with_reducible (first | apply And.intro | intro _))
      all_goals first | omega | skip
      · rename_i w
        have es : s = σ 3 9 + σ 28 6 := by omega
        refine h _ ⟨fun o _ o1 => ab_set_ne _ _ (by omega), fun _ _ => rfl⟩ rfl ⟨?_, ?_⟩
        · show τ 0 45 = σ' 3 9 + σ' 28 6
          rw [hz.1 3 (by decide) (by decide), hz.1 28 (by decide) (by decide)]
          exact hw
        · have f3 : σ' 3 = σ 3 := hz.1 3 (by decide) (by decide)
          have f28 : σ' 28 = σ 28 := hz.1 28 (by decide) (by decide)
          have f8 : σ' 8 = σ 8 := hz.1 8 (by decide) (by decide)
          have f9 : σ' 9 = σ 9 := hz.1 9 (by decide) (by decide)
          have f10 : σ' 10 = σ 10 := hz.1 10 (by decide) (by decide)
          have f31 : σ' 31 = σ 31 := hz.1 31 (by decide) (by decide)
          have f32 : σ' 32 = σ 32 := hz.1 32 (by decide) (by decide)
          refine ⟨fun j hj => ?_, fun j hj => ?_⟩
          · rw [f3] at hj
            obtain ⟨q1, q2, q3, q4⟩ := hq.1 j hj
            rw [f8, f9, f10]
            refine ⟨?_, q2, q3, q4⟩
            show f j = σ' 30 j
            rcases hf j with ⟨p1, p2, p3⟩ | ⟨p1, p2⟩
            · rcases hz.2.1 j with ⟨r1, r2, r3⟩ | ⟨r1, r2⟩
              · rw [p3, r3]
              · refine absurd ⟨by omega, ?_⟩ r1
                unfold zJs
                rw [← q2, ← q3]
                exact p2
            · rcases hz.2.1 j with ⟨r1, r2, r3⟩ | ⟨r1, r2⟩
              · refine absurd ⟨by omega, ?_⟩ p1
                unfold zJs at r2
                rw [q2, q3]
                exact r2
              · rw [p2, r2]
                exact q1
          · rw [f28] at hj
            rw [f3, f31, f32]
            obtain ⟨q1, q2, q3⟩ := hq.2 j hj
            refine ⟨q1, q2, ?_⟩
            show (f (σ 3 9 + j) = 0 ∧ τ 23 (σ 3 9 + j) = σ' 33 j ∧ 1 ≤ σ' 33 j ∧ σ' 33 j ≤ 12) ∨ (f (σ 3 9 + j) = 1 ∧ σ' 33 j = 100000)
            rcases hf (σ 3 9 + j) with ⟨p1, p2, p3⟩ | ⟨p1, p2⟩
            · right
              refine ⟨p3, ?_⟩
              rcases hz.2.2 j with ⟨r1, r2, r3⟩ | ⟨r1, r2⟩
              · exact r3
              · refine absurd ⟨by omega, ?_⟩ r1
                unfold zJl
                rw [← q1, ← q2]
                exact p2
            · rw [p2]
              rcases hz.2.2 j with ⟨r1, r2, r3⟩ | ⟨r1, r2⟩
              · refine absurd ⟨by omega, ?_⟩ p1
                unfold zJl at r2
                rw [q1, q2]
                exact r2
              · rw [r2]
                exact q3
      all_goals (have q := q (by omega))
      all_goals first | omega | exact yes (by omega) (by omega) | exact no (by omega) (by omega)
  have k0 := key 25 0 (τ 25) (by omega) (by omega) (by omega) (fun t => Or.inr ⟨fun p => by omega, rfl⟩)
  rw [ab_set_self] at k0
  apply hG [51] 60
  simp only [cq_lt, cq_le, cq_gt, cq_ge, cq_eq, cq_r1, cq_r2, ab_r32, ab_r64, ab_go, ab_stp, wp_z, ab_in, ab_rok, ab_wsum, ab_prm, ab_ret, ab_sw, ab_cd, ab_tg, ab_cat_i, ab_cat_l, ab_cat_r, ab_cl_n, ab_cl_i, ab_cl_l, ab_cl_r, ab_f2_0, ab_f2_1, ab_f4_0, ab_f4_1, ab_f4_2, ab_f4_3, ab_op_s, ab_b1_s, ab_b2_s, ab_l1_s, ab_l2_s, ab_li_s, ab_o1_s, ab_io_s, ab_lo1_s, ab_iio_s, ab_lio_s, ab_cp5_s, ab_d2_l, ab_d2_i, ab_d2_o, ex_iconst, ex_bipush, ex_sipush, ex_lconst, ex_ldc, ex_ldc_w, ex_ldc2_w, ex_iadd, ex_isub, ex_imul, ex_iand, ex_ior, ex_ixor, ex_ishl, ex_ishr, ex_iushr, ex_idiv, ex_irem, ex_ladd, ex_lsub, ex_lmul, ex_lor, ex_ldiv, ex_lrem, ex_lshl, ex_lcmp, ex_ineg, ex_lneg, ex_i2l, ex_l2i, ex_i2b, ex_dup, ex_pop, ex_dup2, ex_goto, ex_tableswitch, ex_aaload, ex_ireturn, ex_lreturn, ex_return_, List.map_cons, List.map_nil, List.sum_cons, List.sum_nil, List.drop_succ_cons, List.drop_zero, List.take_succ_cons, List.take_zero, List.reverse_cons, List.reverse_nil, List.nil_append, List.cons_append, List.length_cons, List.length_nil, true_and, and_true, cond_false, cond_true, Bool.false_or, Bool.or_false, Bool.or_true, Bool.true_or, true_or, or_true, false_or, or_false, if_true, if_false, reduceIte, ite_true, ite_false, implies_true, true_implies, false_implies, forall_const, not_true_eq_false, not_false_eq_true, Nat.reduceAdd, Nat.reduceMul, Nat.reduceSub, Nat.reduceBEq, Nat.reduceEqDiff, Nat.reduceLeDiff, Nat.reduceLT, Int.reduceAdd, Int.reduceSub, Int.reduceMul, Int.reduceNeg, Int.reduceToNat, Int.reduceLE, Int.reduceLT, Int.reduceEq, Int.reduceNe, Int.reduceNatCast, Nat.add_zero, Nat.zero_add, reduceCtorEq, Int.reduceNatCast', wp_c, wp_g, e2_ifCond, e2_if_icmp, ↓bq_t, ↓bq_f, ab_br, ↓ab_b1_s, ↓ab_b2_s, ↓ab_l1_s, ↓ab_l2_s, ↓ab_li_s, ↓ab_o1_s, ↓ab_io_s, ↓ab_lo1_s, ↓ab_iio_s, ↓ab_lio_s, ↓ab_cp5_s, moX12_lays, dX12_lays_0, dal_0, dX12_lays_1, dg2_12_79_0, dX12_lays_4, dil_1, dX12_lays_5, dX12_lays_6, dX12_lays_9, dX12_lays_10, dX12_lays_11, dg2_12_88_0, dX12_lays_14, dX12_lays_15, dX12_lays_16, dp2_12_348_0, dX12_lays_19, dX12_lays_20, dX12_lays_23, dX12_lays_24, dX12_lays_25, dX12_lays_26, dX12_lays_29, dX12_lays_30, dX12_lays_31, dX12_lays_34, dX12_lays_35, dX12_lays_36, dp2_12_351_0, dX12_lays_39, dX12_lays_40, dX12_lays_43, dX12_lays_44, dX12_lays_45, dX12_lays_46, dX12_lays_49, dX12_lays_50, dis_2, dX12_lays_51, dil_2, dX12_lays_52, dX12_lays_53, dg2_12_345_0, dX12_lays_56, dX12_lays_59, dX12_lays_60, dg2_12_91_0, dX12_lays_63, dX12_lays_64, dX12_lays_65, dX12_lays_66, dg2_12_82_0, dX12_lays_69, dX12_lays_70, dX12_lays_71, dX12_lays_74, dX12_lays_75, dg2_12_94_0, dX12_lays_78, dX12_lays_79, dX12_lays_80, dX12_lays_81, dg2_12_85_0, dX12_lays_84, dX12_lays_85, dX12_lays_86, dX12_lays_89, dX12_lays_90, dX12_lays_93, dX12_lays_94, dX12_lays_95, dX12_lays_96, dX12_lays_99, dX12_lays_100, dX12_lays_101, dX12_lays_104, dX12_lays_105, dX12_lays_108, dX12_lays_109, dX12_lays_110, dX12_lays_111, dX12_lays_114, dX12_lays_115, dX12_lays_116, dX12_lays_119, dX12_lays_120, dg2_12_103_0, dX12_lays_123, dX12_lays_124, dX12_lays_125, dX12_lays_126, dinc_2, dX12_lays_129, dX12_lays_132, dX12_lays_133, dX12_lays_136, dX12_lays_137, dX12_lays_138, dX12_lays_139, dX12_lays_142, dX12_lays_143, dX12_lays_144, dX12_lays_147, dX12_lays_148, dX12_lays_151, dX12_lays_152, dX12_lays_155, dX12_lays_156, dX12_lays_157, dX12_lays_158, dX12_lays_159, dX12_lays_162, dX12_lays_163, dX12_lays_166, dX12_lays_167, dX12_lays_170, dX12_lays_171, dX12_lays_172, dX12_lays_173, dX12_lays_174, dg2_12_97_0, dX12_lays_177, dX12_lays_178, dX12_lays_181, dX12_lays_182, dX12_lays_185, dX12_lays_186, dX12_lays_187, dX12_lays_188, dX12_lays_189, dX12_lays_192, dX12_lays_193, dX12_lays_196, dX12_lays_197, dX12_lays_198, dX12_lays_199, dX12_lays_200, dX12_lays_203, dX12_lays_204, dX12_lays_205, dp2_12_345_0, dX12_lays_208, dal2_17, das2_17, dal2_18, das2_18, dal2_19, das2_19, dal2_20, das2_20, dal2_21, das2_21, dal2_22, das2_22, dal2_23, das2_23, dal2_25, das2_25, hk]
  repeat' (with_reducible (first | apply And.intro | intro _))
  all_goals first | omega | exact k0
set_option maxRecDepth 100000 in
set_option maxHeartbeats 4000000 in
theorem y_lays2 {σ σ' τ : ab_S} {i a b n : Int} {K : ab_V → ab_S → Prop} (hy : yWy σ τ) (h0 : 0 ≤ σ 3 9 ∧ 0 ≤ σ 28 6) (h24 : σ 3 9 + σ 28 6 < 24) (hi : 0 ≤ i ∧ i < 120) (hk : τ 17 i = 2) (ha : τ 18 i = a) (hb : τ 19 i = b) (hn : τ 20 i = n) (hnr : 1 ≤ n ∧ n ≤ 12) (hz : zLk σ a b n σ') (h : ∀ τ', yFy τ τ' → (∀ j, j ≠ 45 → τ' 0 j = τ 0 j) → yWy σ' τ' → K (vI 0) τ') : ab_Runs ab_G2 mdX12_lays [vR 0, vI i] τ K := by
  refine ab_runs mwX12_lays (by decide +kernel) (Nat.le_of_ble_eq_true rfl) (fun G hG => ?_)
  show G 0 [some (vR 0), some (vI i), none] [] _
  obtain ⟨hw, hq⟩ := hy
  obtain ⟨z1, z2, z3, z4, z5⟩ := hz
  have u0 : ∀ (x y : Int), ab_up τ 21 x y 0 = τ 0 := fun _ _ => rfl
  have u1 : ∀ (x y z w : Int), ab_up (ab_up τ 21 x y) 22 z w 0 = τ 0 := fun _ _ _ _ => rfl
  have u2 : ∀ (x y z w s t : Int), ab_up (ab_up (ab_up τ 21 x y) 22 z w) 23 s t 0 = τ 0 := fun _ _ _ _ _ _ => rfl
  have u3 : ∀ (x y z w s t p q : Int), ab_up (ab_up (ab_up (ab_up τ 21 x y) 22 z w) 23 s t) 25 p q 0 = τ 0 := fun _ _ _ _ _ _ _ _ => rfl
  have v1 : ∀ (x y : Int), ab_up τ 21 x y 19 = τ 19 := fun _ _ => rfl
  have v2 : ∀ (x y z w : Int), ab_up (ab_up τ 21 x y) 22 z w 20 = τ 20 := fun _ _ _ _ => rfl
  apply hG [51] 120
  simp only [cq_lt, cq_le, cq_gt, cq_ge, cq_eq, cq_r1, cq_r2, ab_r32, ab_r64, ab_go, ab_stp, wp_z, ab_in, ab_rok, ab_wsum, ab_prm, ab_ret, ab_sw, ab_cd, ab_tg, ab_cat_i, ab_cat_l, ab_cat_r, ab_cl_n, ab_cl_i, ab_cl_l, ab_cl_r, ab_f2_0, ab_f2_1, ab_f4_0, ab_f4_1, ab_f4_2, ab_f4_3, ab_op_s, ab_b1_s, ab_b2_s, ab_l1_s, ab_l2_s, ab_li_s, ab_o1_s, ab_io_s, ab_lo1_s, ab_iio_s, ab_lio_s, ab_cp5_s, ab_d2_l, ab_d2_i, ab_d2_o, ex_iconst, ex_bipush, ex_sipush, ex_lconst, ex_ldc, ex_ldc_w, ex_ldc2_w, ex_iadd, ex_isub, ex_imul, ex_iand, ex_ior, ex_ixor, ex_ishl, ex_ishr, ex_iushr, ex_idiv, ex_irem, ex_ladd, ex_lsub, ex_lmul, ex_lor, ex_ldiv, ex_lrem, ex_lshl, ex_lcmp, ex_ineg, ex_lneg, ex_i2l, ex_l2i, ex_i2b, ex_dup, ex_pop, ex_dup2, ex_goto, ex_tableswitch, ex_aaload, ex_ireturn, ex_lreturn, ex_return_, List.map_cons, List.map_nil, List.sum_cons, List.sum_nil, List.drop_succ_cons, List.drop_zero, List.take_succ_cons, List.take_zero, List.reverse_cons, List.reverse_nil, List.nil_append, List.cons_append, List.length_cons, List.length_nil, true_and, and_true, cond_false, cond_true, Bool.false_or, Bool.or_false, Bool.or_true, Bool.true_or, true_or, or_true, false_or, or_false, if_true, if_false, reduceIte, ite_true, ite_false, implies_true, true_implies, false_implies, forall_const, not_true_eq_false, not_false_eq_true, Nat.reduceAdd, Nat.reduceMul, Nat.reduceSub, Nat.reduceBEq, Nat.reduceEqDiff, Nat.reduceLeDiff, Nat.reduceLT, Int.reduceAdd, Int.reduceSub, Int.reduceMul, Int.reduceNeg, Int.reduceToNat, Int.reduceLE, Int.reduceLT, Int.reduceEq, Int.reduceNe, Int.reduceNatCast, Nat.add_zero, Nat.zero_add, reduceCtorEq, Int.reduceNatCast', wp_c, wp_g, e2_ifCond, e2_if_icmp, ↓bq_t, ↓bq_f, ab_br, ↓ab_b1_s, ↓ab_b2_s, ↓ab_l1_s, ↓ab_l2_s, ↓ab_li_s, ↓ab_o1_s, ↓ab_io_s, ↓ab_lo1_s, ↓ab_iio_s, ↓ab_lio_s, ↓ab_cp5_s, moX12_lays, dX12_lays_0, dal_0, dX12_lays_1, dg2_12_79_0, dX12_lays_4, dil_1, dX12_lays_5, dX12_lays_6, dX12_lays_9, dX12_lays_10, dX12_lays_11, dg2_12_88_0, dX12_lays_14, dX12_lays_15, dX12_lays_16, dp2_12_348_0, dX12_lays_19, dX12_lays_20, dX12_lays_23, dX12_lays_24, dX12_lays_25, dX12_lays_26, dX12_lays_29, dX12_lays_30, dX12_lays_31, dX12_lays_34, dX12_lays_35, dX12_lays_36, dp2_12_351_0, dX12_lays_39, dX12_lays_40, dX12_lays_43, dX12_lays_44, dX12_lays_45, dX12_lays_46, dX12_lays_49, dX12_lays_50, dis_2, dX12_lays_51, dil_2, dX12_lays_52, dX12_lays_53, dg2_12_345_0, dX12_lays_56, dX12_lays_59, dX12_lays_60, dg2_12_91_0, dX12_lays_63, dX12_lays_64, dX12_lays_65, dX12_lays_66, dg2_12_82_0, dX12_lays_69, dX12_lays_70, dX12_lays_71, dX12_lays_74, dX12_lays_75, dg2_12_94_0, dX12_lays_78, dX12_lays_79, dX12_lays_80, dX12_lays_81, dg2_12_85_0, dX12_lays_84, dX12_lays_85, dX12_lays_86, dX12_lays_89, dX12_lays_90, dX12_lays_93, dX12_lays_94, dX12_lays_95, dX12_lays_96, dX12_lays_99, dX12_lays_100, dX12_lays_101, dX12_lays_104, dX12_lays_105, dX12_lays_108, dX12_lays_109, dX12_lays_110, dX12_lays_111, dX12_lays_114, dX12_lays_115, dX12_lays_116, dX12_lays_119, dX12_lays_120, dg2_12_103_0, dX12_lays_123, dX12_lays_124, dX12_lays_125, dX12_lays_126, dinc_2, dX12_lays_129, dX12_lays_132, dX12_lays_133, dX12_lays_136, dX12_lays_137, dX12_lays_138, dX12_lays_139, dX12_lays_142, dX12_lays_143, dX12_lays_144, dX12_lays_147, dX12_lays_148, dX12_lays_151, dX12_lays_152, dX12_lays_155, dX12_lays_156, dX12_lays_157, dX12_lays_158, dX12_lays_159, dX12_lays_162, dX12_lays_163, dX12_lays_166, dX12_lays_167, dX12_lays_170, dX12_lays_171, dX12_lays_172, dX12_lays_173, dX12_lays_174, dg2_12_97_0, dX12_lays_177, dX12_lays_178, dX12_lays_181, dX12_lays_182, dX12_lays_185, dX12_lays_186, dX12_lays_187, dX12_lays_188, dX12_lays_189, dX12_lays_192, dX12_lays_193, dX12_lays_196, dX12_lays_197, dX12_lays_198, dX12_lays_199, dX12_lays_200, dX12_lays_203, dX12_lays_204, dX12_lays_205, dp2_12_345_0, dX12_lays_208, dal2_17, das2_17, dal2_18, das2_18, dal2_19, das2_19, dal2_20, das2_20, dal2_21, das2_21, dal2_22, das2_22, dal2_23, das2_23, dal2_25, das2_25, hk, ha, hb, hn, hw, u0, u1, u2, u3, v1, v2]
  repeat' (with_reducible (first | apply And.intro | intro _))
  all_goals first | omega | skip
  refine h _ ⟨fun o o0 o1 => ?_, fun j hj => ?_⟩ (fun j hj => ?_) ⟨?_, ?_⟩
  · rw [ab_up_o o o0, ab_up_o o (by omega), ab_up_o o (by omega), ab_up_o o (by omega), ab_up_o o (by omega)]
  · show (if j = 45 then _ else τ 0 j) = τ 0 j
    rw [if_neg (by omega)]
  · show (if j = 45 then _ else τ 0 j) = τ 0 j
    rw [if_neg hj]
  · show σ 3 9 + σ 28 6 + 1 = σ' 3 9 + σ' 28 6
    rw [z1 3 (by decide) (by decide) (by decide) (by decide), z2, zu_at]
    omega
  · have f3 : σ' 3 = σ 3 := z1 3 (by decide) (by decide) (by decide) (by decide)
    refine ⟨fun j hj => ?_, fun j hj => ?_⟩
    · rw [f3] at hj
      obtain ⟨q1, q2, q3, q4⟩ := hq.1 j hj
      have ne : ¬ ((j : Int) = σ 3 9 + σ 28 6) := by omega
      rw [z1 30 (by decide) (by decide) (by decide) (by decide), z1 8 (by decide) (by decide) (by decide) (by decide), z1 9 (by decide) (by decide) (by decide) (by decide), z1 10 (by decide) (by decide) (by decide) (by decide)]
      refine ⟨?_, ?_, ?_, ?_⟩
      · show (if (j : Int) = σ 3 9 + σ 28 6 then _ else τ 25 j) = _
        rw [if_neg ne]; exact q1
      · show (if (j : Int) = σ 3 9 + σ 28 6 then _ else τ 21 j) = _
        rw [if_neg ne]; exact q2
      · show (if (j : Int) = σ 3 9 + σ 28 6 then _ else τ 22 j) = _
        rw [if_neg ne]; exact q3
      · show (if (j : Int) = σ 3 9 + σ 28 6 then _ else τ 23 j) = _
        rw [if_neg ne]; exact q4
    · rw [z2, zu_at] at hj
      rw [f3, z3, z4, z5]
      show (if σ 3 9 + (j : Int) = σ 3 9 + σ 28 6 then a else τ 21 (σ 3 9 + j)) = _ ∧ (if σ 3 9 + (j : Int) = σ 3 9 + σ 28 6 then b else τ 22 (σ 3 9 + j)) = _ ∧ (((if σ 3 9 + (j : Int) = σ 3 9 + σ 28 6 then 0 else τ 25 (σ 3 9 + j)) = 0 ∧ (if σ 3 9 + (j : Int) = σ 3 9 + σ 28 6 then n else τ 23 (σ 3 9 + j)) = _ ∧ _) ∨ ((if σ 3 9 + (j : Int) = σ 3 9 + σ 28 6 then 0 else τ 25 (σ 3 9 + j)) = 1 ∧ _))
      by_cases e : (j : Int) = σ 28 6
      · have e2 : σ 3 9 + (j : Int) = σ 3 9 + σ 28 6 := by omega
        rw [if_pos e2, if_pos e2, if_pos e2, if_pos e2, e, zu_at, zu_at, zu_at]
        exact ⟨rfl, rfl, Or.inl ⟨rfl, rfl, hnr⟩⟩
      · have e2 : ¬ (σ 3 9 + (j : Int) = σ 3 9 + σ 28 6) := by omega
        rw [if_neg e2, if_neg e2, if_neg e2, if_neg e2, zu_ne _ _ e, zu_ne _ _ e, zu_ne _ _ e]
        exact hq.2 j (by omega)
