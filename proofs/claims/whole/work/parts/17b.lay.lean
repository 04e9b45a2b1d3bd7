-- CLASS: Roads.shutBetween, change, lay
/-- street s joins a and b -/
def zJs (σ : ab_S) (a b s : Int) : Prop := (σ 8 s = a ∧ σ 9 s = b) ∨ (σ 8 s = b ∧ σ 9 s = a)
def zJl (σ : ab_S) (a b i : Int) : Prop := (σ 31 i = a ∧ σ 32 i = b) ∨ (σ 31 i = b ∧ σ 32 i = a)
/-- ways between a and b are shut: streets before n, links before m -/
def zSb (σ : ab_S) (a b n m : Int) (σ' : ab_S) : Prop := (∀ o, o ≠ 30 → o ≠ 33 → σ' o = σ o) ∧ (∀ s, ((0 ≤ s ∧ s < n) ∧ zJs σ a b s ∧ σ' 30 s = 1) ∨ (¬ ((0 ≤ s ∧ s < n) ∧ zJs σ a b s) ∧ σ' 30 s = σ 30 s)) ∧ (∀ i, ((0 ≤ i ∧ i < m) ∧ zJl σ a b i ∧ σ' 33 i = 100000) ∨ (¬ ((0 ≤ i ∧ i < m) ∧ zJl σ a b i) ∧ σ' 33 i = σ 33 i))
set_option maxRecDepth 100000 in
set_option maxHeartbeats 4000000 in
theorem r_shutBetween {σ : ab_S} {a b : Int} {K : ab_V → ab_S → Prop} (hT : zTn σ) (hL : (0 ≤ σ 28 6 ∧ σ 28 6 ≤ 12) ∧ ∀ i, 0 ≤ i → i < σ 28 6 → (0 ≤ σ 31 i ∧ σ 31 i < σ 3 8) ∧ (0 ≤ σ 32 i ∧ σ 32 i < σ 3 8)) (ha : 0 ≤ a ∧ a < 12) (hb : 0 ≤ b ∧ b < 12)
    (h : ∀ σ', zSb σ a b (σ 3 9) (σ 28 6) σ' → K (vI 0) σ') : ab_Runs ab_G1 mdX7_shutBetween [vR 28, vI a, vI b] σ K := by
  refine ab_runs mwX7_shutBetween (by decide +kernel) (Nat.le_of_ble_eq_true rfl) (fun G hG => ?_)
  show G 0 [some (vR 28), some (vI a), some (vI b), none, none] [] _
  obtain ⟨hC, hS, hs⟩ := hT
  obtain ⟨hl, hk⟩ := hL
  have key2 : ∀ (k : Nat) (i : Int) (z : Option ab_V) (σ1 : ab_S), σ 28 6 - i < k → 0 ≤ i → i ≤ σ 28 6 → zSb σ a b (σ 3 9) i σ1 → G 41 [some (vR 28), some (vI a), some (vI b), some (vI i), z] [] σ1 := by
    intro k
    induction k with
    | zero => intro i z σ1 h1 h2; omega
    | succ k ih =>
      intro i z σ1 h1 h2 h3 hz
      have e28 : σ1 28 = σ 28 := hz.1 28 (by decide) (by decide)
      have e31 : σ1 31 = σ 31 := hz.1 31 (by decide) (by decide)
      have e32 : σ1 32 = σ 32 := hz.1 32 (by decide) (by decide)
      have q : i < σ 28 6 → (0 ≤ σ 31 i ∧ σ 31 i < 12) ∧ (0 ≤ σ 32 i ∧ σ 32 i < 12) := fun z => by
        have := hk i h2 z
        omega
      have yes : i < σ 28 6 → zJl σ a b i → G 101 [some (vR 28), some (vI a), some (vI b), some (vI i), some (vI 0)] [] σ1 ∧ G 101 [some (vR 28), some (vI a), some (vI b), some (vI i), some (vI 1)] [] σ1 := by
        intro y1 y2
        have nx : zSb σ a b (σ 3 9) (i + 1) (ab_up σ1 33 i 100000) := by
          refine ⟨fun o o1 o2 => (ab_up_o o o2).trans (hz.1 o o1 o2), hz.2.1, fun j => ?_⟩
          by_cases e : j = i
          · left
            rw [e]
            refine ⟨by omega, y2, ?_⟩
            show (if i = i then _ else _) = _
            rw [if_pos rfl]
          · have ej : ab_up σ1 33 i 100000 33 j = σ1 33 j := by
              show (if j = i then _ else _) = _
              rw [if_neg e]
            rw [ej]
            rcases hz.2.2 j with ⟨p1, p2, p3⟩ | ⟨p1, p2⟩
            · exact Or.inl ⟨by omega, p2, p3⟩
            · exact Or.inr ⟨fun p => p1 ⟨by omega, p.2⟩, p2⟩
        constructor
        · apply hG [41] 40
          simp only [cq_lt, cq_le, cq_gt, cq_ge, cq_eq, cq_r1, cq_r2, ab_r32, ab_r64, ab_go, ab_stp, wp_z, ab_in, ab_rok, ab_wsum, ab_prm, ab_ret, ab_sw, ab_cd, ab_tg, ab_cat_i, ab_cat_l, ab_cat_r, ab_cl_n, ab_cl_i, ab_cl_l, ab_cl_r, ab_f2_0, ab_f2_1, ab_f4_0, ab_f4_1, ab_f4_2, ab_f4_3, ab_op_s, ab_b1_s, ab_b2_s, ab_l1_s, ab_l2_s, ab_li_s, ab_o1_s, ab_io_s, ab_lo1_s, ab_iio_s, ab_lio_s, ab_cp5_s, ab_d2_l, ab_d2_i, ab_d2_o, ex_iconst, ex_bipush, ex_sipush, ex_lconst, ex_ldc, ex_ldc_w, ex_ldc2_w, ex_iadd, ex_isub, ex_imul, ex_iand, ex_ior, ex_ixor, ex_ishl, ex_ishr, ex_iushr, ex_idiv, ex_irem, ex_ladd, ex_lsub, ex_lmul, ex_lor, ex_ldiv, ex_lrem, ex_lshl, ex_lcmp, ex_ineg, ex_lneg, ex_i2l, ex_l2i, ex_i2b, ex_dup, ex_pop, ex_dup2, ex_goto, ex_tableswitch, ex_aaload, ex_ireturn, ex_lreturn, ex_return_, List.map_cons, List.map_nil, List.sum_cons, List.sum_nil, List.drop_succ_cons, List.drop_zero, List.take_succ_cons, List.take_zero, List.reverse_cons, List.reverse_nil, List.nil_append, List.cons_append, List.length_cons, List.length_nil, true_and, and_true, cond_false, cond_true, Bool.false_or, Bool.or_false, Bool.or_true, Bool.true_or, true_or, or_true, false_or, or_false, if_true, if_false, reduceIte, ite_true, ite_false, implies_true, true_implies, false_implies, forall_const, not_true_eq_false, not_false_eq_true, Nat.reduceAdd, Nat.reduceMul, Nat.reduceSub, Nat.reduceBEq, Nat.reduceEqDiff, Nat.reduceLeDiff, Nat.reduceLT, Int.reduceAdd, Int.reduceSub, Int.reduceMul, Int.reduceNeg, Int.reduceToNat, Int.reduceLE, Int.reduceLT, Int.reduceEq, Int.reduceNe, Int.reduceNatCast, Nat.add_zero, Nat.zero_add, reduceCtorEq, Int.reduceNatCast', wp_c, wp_g, e2_ifCond, e2_if_icmp, ↓bq_t, ↓bq_f, ab_br, ↓ab_b1_s, ↓ab_b2_s, ↓ab_l1_s, ↓ab_l2_s, ↓ab_li_s, ↓ab_o1_s, ↓ab_io_s, ↓ab_lo1_s, ↓ab_iio_s, ↓ab_lio_s, ↓ab_cp5_s, moX7_shutBetween, dX7_shutBetween_0, dX7_shutBetween_1, dis_3, dX7_shutBetween_2, dil_3, dX7_shutBetween_3, dal_0, dX7_shutBetween_4, dg1_7_38_28, dX7_shutBetween_7, dg1_7_81_3, dg1_7_81_12, dX7_shutBetween_10, dX7_shutBetween_13, dX7_shutBetween_14, dX7_shutBetween_17, dX7_shutBetween_18, dil_1, dX7_shutBetween_19, dil_2, dX7_shutBetween_20, dv1_7_86_3, dv1_7_86_12, moX9_joins, dX7_shutBetween_23, dX7_shutBetween_26, dX7_shutBetween_27, dg1_7_15_28, dX7_shutBetween_30, dX7_shutBetween_31, dX7_shutBetween_32, dX7_shutBetween_33, dinc_3, dX7_shutBetween_36, dX7_shutBetween_39, dX7_shutBetween_40, dX7_shutBetween_41, dX7_shutBetween_42, dX7_shutBetween_43, dg1_7_28_28, dX7_shutBetween_46, dX7_shutBetween_49, dX7_shutBetween_50, dg1_7_19_28, dX7_shutBetween_53, dX7_shutBetween_54, dX7_shutBetween_55, dX7_shutBetween_56, dX7_shutBetween_59, dX7_shutBetween_60, dg1_7_22_28, dX7_shutBetween_63, dX7_shutBetween_64, dX7_shutBetween_65, dX7_shutBetween_66, dX7_shutBetween_69, dX7_shutBetween_70, dX7_shutBetween_73, dX7_shutBetween_74, dis_4, dX7_shutBetween_76, dil_4, dX7_shutBetween_78, dX7_shutBetween_81, dX7_shutBetween_82, dX7_shutBetween_85, dX7_shutBetween_86, dX7_shutBetween_87, dX7_shutBetween_88, dX7_shutBetween_91, dX7_shutBetween_92, dX7_shutBetween_95, dX7_shutBetween_96, dX7_shutBetween_97, dX7_shutBetween_98, dX7_shutBetween_101, dX7_shutBetween_102, dg1_7_25_28, dX7_shutBetween_105, dX7_shutBetween_106, kx7_90, dX7_shutBetween_108, dX7_shutBetween_109, dX7_shutBetween_112, dX7_shutBetween_115, dal1_30, das1_30, dal1_31, das1_31, dal1_32, das1_32, dal1_33, das1_33]
          repeat' (with_reducible (first | apply And.intro | intro _))
          all_goals first | omega | exact ih (i + 1) _ _ (by omega) (by omega) (by omega) nx
        · apply hG [41] 40
          simp only [cq_lt, cq_le, cq_gt, cq_ge, cq_eq, cq_r1, cq_r2, ab_r32, ab_r64, ab_go, ab_stp, wp_z, ab_in, ab_rok, ab_wsum, ab_prm, ab_ret, ab_sw, ab_cd, ab_tg, ab_cat_i, ab_cat_l, ab_cat_r, ab_cl_n, ab_cl_i, ab_cl_l, ab_cl_r, ab_f2_0, ab_f2_1, ab_f4_0, ab_f4_1, ab_f4_2, ab_f4_3, ab_op_s, ab_b1_s, ab_b2_s, ab_l1_s, ab_l2_s, ab_li_s, ab_o1_s, ab_io_s, ab_lo1_s, ab_iio_s, ab_lio_s, ab_cp5_s, ab_d2_l, ab_d2_i, ab_d2_o, ex_iconst, ex_bipush, ex_sipush, ex_lconst, ex_ldc, ex_ldc_w, ex_ldc2_w, ex_iadd, ex_isub, ex_imul, ex_iand, ex_ior, ex_ixor, ex_ishl, ex_ishr, ex_iushr, ex_idiv, ex_irem, ex_ladd, ex_lsub, ex_lmul, ex_lor, ex_ldiv, ex_lrem, ex_lshl, ex_lcmp, ex_ineg, ex_lneg, ex_i2l, ex_l2i, ex_i2b, ex_dup, ex_pop, ex_dup2, ex_goto, ex_tableswitch, ex_aaload, ex_ireturn, ex_lreturn, ex_return_, List.map_cons, List.map_nil, List.sum_cons, List.sum_nil, List.drop_succ_cons, List.drop_zero, List.take_succ_cons, List.take_zero, List.reverse_cons, List.reverse_nil, List.nil_append, List.cons_append, List.length_cons, List.length_nil, true_and, and_true, cond_false, cond_true, Bool.false_or, Bool.or_false, Bool.or_true, Bool.true_or, true_or, or_true, false_or, or_false, if_true, if_false, reduceIte, ite_true, ite_false, implies_true, true_implies, false_implies, forall_const, not_true_eq_false, not_false_eq_true, Nat.reduceAdd, Nat.reduceMul, Nat.reduceSub, Nat.reduceBEq, Nat.reduceEqDiff, Nat.reduceLeDiff, Nat.reduceLT, Int.reduceAdd, Int.reduceSub, Int.reduceMul, Int.reduceNeg, Int.reduceToNat, Int.reduceLE, Int.reduceLT, Int.reduceEq, Int.reduceNe, Int.reduceNatCast, Nat.add_zero, Nat.zero_add, reduceCtorEq, Int.reduceNatCast', wp_c, wp_g, e2_ifCond, e2_if_icmp, ↓bq_t, ↓bq_f, ab_br, ↓ab_b1_s, ↓ab_b2_s, ↓ab_l1_s, ↓ab_l2_s, ↓ab_li_s, ↓ab_o1_s, ↓ab_io_s, ↓ab_lo1_s, ↓ab_iio_s, ↓ab_lio_s, ↓ab_cp5_s, moX7_shutBetween, dX7_shutBetween_0, dX7_shutBetween_1, dis_3, dX7_shutBetween_2, dil_3, dX7_shutBetween_3, dal_0, dX7_shutBetween_4, dg1_7_38_28, dX7_shutBetween_7, dg1_7_81_3, dg1_7_81_12, dX7_shutBetween_10, dX7_shutBetween_13, dX7_shutBetween_14, dX7_shutBetween_17, dX7_shutBetween_18, dil_1, dX7_shutBetween_19, dil_2, dX7_shutBetween_20, dv1_7_86_3, dv1_7_86_12, moX9_joins, dX7_shutBetween_23, dX7_shutBetween_26, dX7_shutBetween_27, dg1_7_15_28, dX7_shutBetween_30, dX7_shutBetween_31, dX7_shutBetween_32, dX7_shutBetween_33, dinc_3, dX7_shutBetween_36, dX7_shutBetween_39, dX7_shutBetween_40, dX7_shutBetween_41, dX7_shutBetween_42, dX7_shutBetween_43, dg1_7_28_28, dX7_shutBetween_46, dX7_shutBetween_49, dX7_shutBetween_50, dg1_7_19_28, dX7_shutBetween_53, dX7_shutBetween_54, dX7_shutBetween_55, dX7_shutBetween_56, dX7_shutBetween_59, dX7_shutBetween_60, dg1_7_22_28, dX7_shutBetween_63, dX7_shutBetween_64, dX7_shutBetween_65, dX7_shutBetween_66, dX7_shutBetween_69, dX7_shutBetween_70, dX7_shutBetween_73, dX7_shutBetween_74, dis_4, dX7_shutBetween_76, dil_4, dX7_shutBetween_78, dX7_shutBetween_81, dX7_shutBetween_82, dX7_shutBetween_85, dX7_shutBetween_86, dX7_shutBetween_87, dX7_shutBetween_88, dX7_shutBetween_91, dX7_shutBetween_92, dX7_shutBetween_95, dX7_shutBetween_96, dX7_shutBetween_97, dX7_shutBetween_98, dX7_shutBetween_101, dX7_shutBetween_102, dg1_7_25_28, dX7_shutBetween_105, dX7_shutBetween_106, kx7_90, dX7_shutBetween_108, dX7_shutBetween_109, dX7_shutBetween_112, dX7_shutBetween_115, dal1_30, das1_30, dal1_31, das1_31, dal1_32, das1_32, dal1_33, das1_33]
          repeat' (with_reducible (first | apply And.intro | intro _))
          all_goals first | omega | exact ih (i + 1) _ _ (by omega) (by omega) (by omega) nx
      have no : i < σ 28 6 → ¬ zJl σ a b i → ∀ z : Option ab_V, G 41 [some (vR 28), some (vI a), some (vI b), some (vI (i + 1)), z] [] σ1 := by
        intro y1 y2 z
        refine ih (i + 1) z σ1 (by omega) (by omega) (by omega) ⟨hz.1, hz.2.1, fun j => ?_⟩
        rcases hz.2.2 j with ⟨p1, p2, p3⟩ | ⟨p1, p2⟩
        · exact Or.inl ⟨by omega, p2, p3⟩
        · by_cases e : j = i
          · exact Or.inr ⟨fun p => y2 (e ▸ p.2), p2⟩
          · exact Or.inr ⟨fun p => p1 ⟨by omega, p.2⟩, p2⟩
      unfold zJl at yes no
      apply hG [41, 101] 60
      simp only [cq_lt, cq_le, cq_gt, cq_ge, cq_eq, cq_r1, cq_r2, ab_r32, ab_r64, ab_go, ab_stp, wp_z, ab_in, ab_rok, ab_wsum, ab_prm, ab_ret, ab_sw, ab_cd, ab_tg, ab_cat_i, ab_cat_l, ab_cat_r, ab_cl_n, ab_cl_i, ab_cl_l, ab_cl_r, ab_f2_0, ab_f2_1, ab_f4_0, ab_f4_1, ab_f4_2, ab_f4_3, ab_op_s, ab_b1_s, ab_b2_s, ab_l1_s, ab_l2_s, ab_li_s, ab_o1_s, ab_io_s, ab_lo1_s, ab_iio_s, ab_lio_s, ab_cp5_s, ab_d2_l, ab_d2_i, ab_d2_o, ex_iconst, ex_bipush, ex_sipush, ex_lconst, ex_ldc, ex_ldc_w, ex_ldc2_w, ex_iadd, ex_isub, ex_imul, ex_iand, ex_ior, ex_ixor, ex_ishl, ex_ishr, ex_iushr, ex_idiv, ex_irem, ex_ladd, ex_lsub, ex_lmul, ex_lor, ex_ldiv, ex_lrem, ex_lshl, ex_lcmp, ex_ineg, ex_lneg, ex_i2l, ex_l2i, ex_i2b, ex_dup, ex_pop, ex_dup2, ex_goto, ex_tableswitch, ex_aaload, ex_ireturn, ex_lreturn, ex_return_, List.map_cons, List.map_nil, List.sum_cons, List.sum_nil, List.drop_succ_cons, List.drop_zero, List.take_succ_cons, List.take_zero, List.reverse_cons, List.reverse_nil, List.nil_append, List.cons_append, List.length_cons, List.length_nil, true_and, and_true, cond_false, cond_true, Bool.false_or, Bool.or_false, Bool.or_true, Bool.true_or, true_or, or_true, false_or, or_false, if_true, if_false, reduceIte, ite_true, ite_false, implies_true, true_implies, false_implies, forall_const, not_true_eq_false, not_false_eq_true, Nat.reduceAdd, Nat.reduceMul, Nat.reduceSub, Nat.reduceBEq, Nat.reduceEqDiff, Nat.reduceLeDiff, Nat.reduceLT, Int.reduceAdd, Int.reduceSub, Int.reduceMul, Int.reduceNeg, Int.reduceToNat, Int.reduceLE, Int.reduceLT, Int.reduceEq, Int.reduceNe, Int.reduceNatCast, Nat.add_zero, Nat.zero_add, reduceCtorEq, Int.reduceNatCast', wp_c, wp_g, e2_ifCond, e2_if_icmp, ↓bq_t, ↓bq_f, ab_br, ↓ab_b1_s, ↓ab_b2_s, ↓ab_l1_s, ↓ab_l2_s, ↓ab_li_s, ↓ab_o1_s, ↓ab_io_s, ↓ab_lo1_s, ↓ab_iio_s, ↓ab_lio_s, ↓ab_cp5_s, moX7_shutBetween, dX7_shutBetween_0, dX7_shutBetween_1, dis_3, dX7_shutBetween_2, dil_3, dX7_shutBetween_3, dal_0, dX7_shutBetween_4, dg1_7_38_28, dX7_shutBetween_7, dg1_7_81_3, dg1_7_81_12, dX7_shutBetween_10, dX7_shutBetween_13, dX7_shutBetween_14, dX7_shutBetween_17, dX7_shutBetween_18, dil_1, dX7_shutBetween_19, dil_2, dX7_shutBetween_20, dv1_7_86_3, dv1_7_86_12, moX9_joins, dX7_shutBetween_23, dX7_shutBetween_26, dX7_shutBetween_27, dg1_7_15_28, dX7_shutBetween_30, dX7_shutBetween_31, dX7_shutBetween_32, dX7_shutBetween_33, dinc_3, dX7_shutBetween_36, dX7_shutBetween_39, dX7_shutBetween_40, dX7_shutBetween_41, dX7_shutBetween_42, dX7_shutBetween_43, dg1_7_28_28, dX7_shutBetween_46, dX7_shutBetween_49, dX7_shutBetween_50, dg1_7_19_28, dX7_shutBetween_53, dX7_shutBetween_54, dX7_shutBetween_55, dX7_shutBetween_56, dX7_shutBetween_59, dX7_shutBetween_60, dg1_7_22_28, dX7_shutBetween_63, dX7_shutBetween_64, dX7_shutBetween_65, dX7_shutBetween_66, dX7_shutBetween_69, dX7_shutBetween_70, dX7_shutBetween_73, dX7_shutBetween_74, dis_4, dX7_shutBetween_76, dil_4, dX7_shutBetween_78, dX7_shutBetween_81, dX7_shutBetween_82, dX7_shutBetween_85, dX7_shutBetween_86, dX7_shutBetween_87, dX7_shutBetween_88, dX7_shutBetween_91, dX7_shutBetween_92, dX7_shutBetween_95, dX7_shutBetween_96, dX7_shutBetween_97, dX7_shutBetween_98, dX7_shutBetween_101, dX7_shutBetween_102, dg1_7_25_28, dX7_shutBetween_105, dX7_shutBetween_106, kx7_90, dX7_shutBetween_108, dX7_shutBetween_109, dX7_shutBetween_112, dX7_shutBetween_115, dal1_30, das1_30, dal1_31, das1_31, dal1_32, das1_32, dal1_33, das1_33, e28, e31, e32]
      repeat' (with_reducible (first | apply And.intro | intro _))
      all_goals first | omega | skip
      · rename_i w
        have e : i = σ 28 6 := by omega
        subst e
        exact h σ1 hz
      all_goals (have q := q (by omega))
      all_goals first | omega | exact (yes (by omega) (by omega)).1 | exact (yes (by omega) (by omega)).2 | exact no (by omega) (by omega) _
  have key1 : ∀ (k : Nat) (s : Int) (σ1 : ab_S), σ 3 9 - s < k → 0 ≤ s → s ≤ σ 3 9 → zSb σ a b s 0 σ1 → G 2 [some (vR 28), some (vI a), some (vI b), some (vI s), none] [] σ1 := by
    intro k
    induction k with
    | zero => intro s σ1 h1 h2; omega
    | succ k ih =>
      intro s σ1 h1 h2 h3 hz
      have e3 : σ1 3 = σ 3 := hz.1 3 (by decide) (by decide)
      have e8 : σ1 8 = σ 8 := hz.1 8 (by decide) (by decide)
      have e9 : σ1 9 = σ 9 := hz.1 9 (by decide) (by decide)
      apply hG [2, 39] 60
      simp only [cq_lt, cq_le, cq_gt, cq_ge, cq_eq, cq_r1, cq_r2, ab_r32, ab_r64, ab_go, ab_stp, wp_z, ab_in, ab_rok, ab_wsum, ab_prm, ab_ret, ab_sw, ab_cd, ab_tg, ab_cat_i, ab_cat_l, ab_cat_r, ab_cl_n, ab_cl_i, ab_cl_l, ab_cl_r, ab_f2_0, ab_f2_1, ab_f4_0, ab_f4_1, ab_f4_2, ab_f4_3, ab_op_s, ab_b1_s, ab_b2_s, ab_l1_s, ab_l2_s, ab_li_s, ab_o1_s, ab_io_s, ab_lo1_s, ab_iio_s, ab_lio_s, ab_cp5_s, ab_d2_l, ab_d2_i, ab_d2_o, ex_iconst, ex_bipush, ex_sipush, ex_lconst, ex_ldc, ex_ldc_w, ex_ldc2_w, ex_iadd, ex_isub, ex_imul, ex_iand, ex_ior, ex_ixor, ex_ishl, ex_ishr, ex_iushr, ex_idiv, ex_irem, ex_ladd, ex_lsub, ex_lmul, ex_lor, ex_ldiv, ex_lrem, ex_lshl, ex_lcmp, ex_ineg, ex_lneg, ex_i2l, ex_l2i, ex_i2b, ex_dup, ex_pop, ex_dup2, ex_goto, ex_tableswitch, ex_aaload, ex_ireturn, ex_lreturn, ex_return_, List.map_cons, List.map_nil, List.sum_cons, List.sum_nil, List.drop_succ_cons, List.drop_zero, List.take_succ_cons, List.take_zero, List.reverse_cons, List.reverse_nil, List.nil_append, List.cons_append, List.length_cons, List.length_nil, true_and, and_true, cond_false, cond_true, Bool.false_or, Bool.or_false, Bool.or_true, Bool.true_or, true_or, or_true, false_or, or_false, if_true, if_false, reduceIte, ite_true, ite_false, implies_true, true_implies, false_implies, forall_const, not_true_eq_false, not_false_eq_true, Nat.reduceAdd, Nat.reduceMul, Nat.reduceSub, Nat.reduceBEq, Nat.reduceEqDiff, Nat.reduceLeDiff, Nat.reduceLT, Int.reduceAdd, Int.reduceSub, Int.reduceMul, Int.reduceNeg, Int.reduceToNat, Int.reduceLE, Int.reduceLT, Int.reduceEq, Int.reduceNe, Int.reduceNatCast, Nat.add_zero, Nat.zero_add, reduceCtorEq, Int.reduceNatCast', wp_c, wp_g, e2_ifCond, e2_if_icmp, ↓bq_t, ↓bq_f, ab_br, ↓ab_b1_s, ↓ab_b2_s, ↓ab_l1_s, ↓ab_l2_s, ↓ab_li_s, ↓ab_o1_s, ↓ab_io_s, ↓ab_lo1_s, ↓ab_iio_s, ↓ab_lio_s, ↓ab_cp5_s, moX7_shutBetween, dX7_shutBetween_0, dX7_shutBetween_1, dis_3, dX7_shutBetween_2, dil_3, dX7_shutBetween_3, dal_0, dX7_shutBetween_4, dg1_7_38_28, dX7_shutBetween_7, dg1_7_81_3, dg1_7_81_12, dX7_shutBetween_10, dX7_shutBetween_13, dX7_shutBetween_14, dX7_shutBetween_17, dX7_shutBetween_18, dil_1, dX7_shutBetween_19, dil_2, dX7_shutBetween_20, dv1_7_86_3, dv1_7_86_12, moX9_joins, dX7_shutBetween_23, dX7_shutBetween_26, dX7_shutBetween_27, dg1_7_15_28, dX7_shutBetween_30, dX7_shutBetween_31, dX7_shutBetween_32, dX7_shutBetween_33, dinc_3, dX7_shutBetween_36, dX7_shutBetween_39, dX7_shutBetween_40, dX7_shutBetween_41, dX7_shutBetween_42, dX7_shutBetween_43, dg1_7_28_28, dX7_shutBetween_46, dX7_shutBetween_49, dX7_shutBetween_50, dg1_7_19_28, dX7_shutBetween_53, dX7_shutBetween_54, dX7_shutBetween_55, dX7_shutBetween_56, dX7_shutBetween_59, dX7_shutBetween_60, dg1_7_22_28, dX7_shutBetween_63, dX7_shutBetween_64, dX7_shutBetween_65, dX7_shutBetween_66, dX7_shutBetween_69, dX7_shutBetween_70, dX7_shutBetween_73, dX7_shutBetween_74, dis_4, dX7_shutBetween_76, dil_4, dX7_shutBetween_78, dX7_shutBetween_81, dX7_shutBetween_82, dX7_shutBetween_85, dX7_shutBetween_86, dX7_shutBetween_87, dX7_shutBetween_88, dX7_shutBetween_91, dX7_shutBetween_92, dX7_shutBetween_95, dX7_shutBetween_96, dX7_shutBetween_97, dX7_shutBetween_98, dX7_shutBetween_101, dX7_shutBetween_102, dg1_7_25_28, dX7_shutBetween_105, dX7_shutBetween_106, kx7_90, dX7_shutBetween_108, dX7_shutBetween_109, dX7_shutBetween_112, dX7_shutBetween_115, dal1_30, das1_30, dal1_31, das1_31, dal1_32, das1_32, dal1_33, das1_33, e3]
      repeat' (with_reducible (first | apply And.intro | intro _))
      all_goals first | omega | skip
      · rename_i w
        have e : s = σ 3 9 := by omega
        subst e
        apply hG [41] 60
        simp only [cq_lt, cq_le, cq_gt, cq_ge, cq_eq, cq_r1, cq_r2, ab_r32, ab_r64, ab_go, ab_stp, wp_z, ab_in, ab_rok, ab_wsum, ab_prm, ab_ret, ab_sw, ab_cd, ab_tg, ab_cat_i, ab_cat_l, ab_cat_r, ab_cl_n, ab_cl_i, ab_cl_l, ab_cl_r, ab_f2_0, ab_f2_1, ab_f4_0, ab_f4_1, ab_f4_2, ab_f4_3, ab_op_s, ab_b1_s, ab_b2_s, ab_l1_s, ab_l2_s, ab_li_s, ab_o1_s, ab_io_s, ab_lo1_s, ab_iio_s, ab_lio_s, ab_cp5_s, ab_d2_l, ab_d2_i, ab_d2_o, ex_iconst, ex_bipush, ex_sipush, ex_lconst, ex_ldc, ex_ldc_w, ex_ldc2_w, ex_iadd, ex_isub, ex_imul, ex_iand, ex_ior, ex_ixor, ex_ishl, ex_ishr, ex_iushr, ex_idiv, ex_irem, ex_ladd, ex_lsub, ex_lmul, ex_lor, ex_ldiv, ex_lrem, ex_lshl, ex_lcmp, ex_ineg, ex_lneg, ex_i2l, ex_l2i, ex_i2b, ex_dup, ex_pop, ex_dup2, ex_goto, ex_tableswitch, ex_aaload, ex_ireturn, ex_lreturn, ex_return_, List.map_cons, List.map_nil, List.sum_cons, List.sum_nil, List.drop_succ_cons, List.drop_zero, List.take_succ_cons, List.take_zero, List.reverse_cons, List.reverse_nil, List.nil_append, List.cons_append, List.length_cons, List.length_nil, true_and, and_true, cond_false, cond_true, Bool.false_or, Bool.or_false, Bool.or_true, Bool.true_or, true_or, or_true, false_or, or_false, if_true, if_false, reduceIte, ite_true, ite_false, implies_true, true_implies, false_implies, forall_const, not_true_eq_false, not_false_eq_true, Nat.reduceAdd, Nat.reduceMul, Nat.reduceSub, Nat.reduceBEq, Nat.reduceEqDiff, Nat.reduceLeDiff, Nat.reduceLT, Int.reduceAdd, Int.reduceSub, Int.reduceMul, Int.reduceNeg, Int.reduceToNat, Int.reduceLE, Int.reduceLT, Int.reduceEq, Int.reduceNe, Int.reduceNatCast, Nat.add_zero, Nat.zero_add, reduceCtorEq, Int.reduceNatCast', wp_c, wp_g, e2_ifCond, e2_if_icmp, ↓bq_t, ↓bq_f, ab_br, ↓ab_b1_s, ↓ab_b2_s, ↓ab_l1_s, ↓ab_l2_s, ↓ab_li_s, ↓ab_o1_s, ↓ab_io_s, ↓ab_lo1_s, ↓ab_iio_s, ↓ab_lio_s, ↓ab_cp5_s, moX7_shutBetween, dX7_shutBetween_0, dX7_shutBetween_1, dis_3, dX7_shutBetween_2, dil_3, dX7_shutBetween_3, dal_0, dX7_shutBetween_4, dg1_7_38_28, dX7_shutBetween_7, dg1_7_81_3, dg1_7_81_12, dX7_shutBetween_10, dX7_shutBetween_13, dX7_shutBetween_14, dX7_shutBetween_17, dX7_shutBetween_18, dil_1, dX7_shutBetween_19, dil_2, dX7_shutBetween_20, dv1_7_86_3, dv1_7_86_12, moX9_joins, dX7_shutBetween_23, dX7_shutBetween_26, dX7_shutBetween_27, dg1_7_15_28, dX7_shutBetween_30, dX7_shutBetween_31, dX7_shutBetween_32, dX7_shutBetween_33, dinc_3, dX7_shutBetween_36, dX7_shutBetween_39, dX7_shutBetween_40, dX7_shutBetween_41, dX7_shutBetween_42, dX7_shutBetween_43, dg1_7_28_28, dX7_shutBetween_46, dX7_shutBetween_49, dX7_shutBetween_50, dg1_7_19_28, dX7_shutBetween_53, dX7_shutBetween_54, dX7_shutBetween_55, dX7_shutBetween_56, dX7_shutBetween_59, dX7_shutBetween_60, dg1_7_22_28, dX7_shutBetween_63, dX7_shutBetween_64, dX7_shutBetween_65, dX7_shutBetween_66, dX7_shutBetween_69, dX7_shutBetween_70, dX7_shutBetween_73, dX7_shutBetween_74, dis_4, dX7_shutBetween_76, dil_4, dX7_shutBetween_78, dX7_shutBetween_81, dX7_shutBetween_82, dX7_shutBetween_85, dX7_shutBetween_86, dX7_shutBetween_87, dX7_shutBetween_88, dX7_shutBetween_91, dX7_shutBetween_92, dX7_shutBetween_95, dX7_shutBetween_96, dX7_shutBetween_97, dX7_shutBetween_98, dX7_shutBetween_101, dX7_shutBetween_102, dg1_7_25_28, dX7_shutBetween_105, dX7_shutBetween_106, kx7_90, dX7_shutBetween_108, dX7_shutBetween_109, dX7_shutBetween_112, dX7_shutBetween_115, dal1_30, das1_30, dal1_31, das1_31, dal1_32, das1_32, dal1_33, das1_33]
        exact key2 13 0 _ σ1 (by omega) (by omega) (by omega) hz
      · rename_i w
        have qs := hs s h2 (by omega)
        refine r_joins (o := 3) (σ := σ1) (Or.inl rfl) (by omega) ha hb (by show 0 ≤ σ1 8 s ∧ σ1 8 s < 12; rw [e8]; omega) (by show 0 ≤ σ1 9 s ∧ σ1 9 s < 12; rw [e9]; omega) (fun v hv => ?_)
        have hv' : (zJs σ a b s ∧ v = 1) ∨ (¬ zJs σ a b s ∧ v = 0) := by
          unfold zJs
          rw [← e8, ← e9]
          exact hv
        try simp only [cq_lt, cq_le, cq_gt, cq_ge, cq_eq, cq_r1, cq_r2, ab_r32, ab_r64, ab_go, ab_stp, wp_z, ab_in, ab_rok, ab_wsum, ab_prm, ab_ret, ab_sw, ab_cd, ab_tg, ab_cat_i, ab_cat_l, ab_cat_r, ab_cl_n, ab_cl_i, ab_cl_l, ab_cl_r, ab_f2_0, ab_f2_1, ab_f4_0, ab_f4_1, ab_f4_2, ab_f4_3, ab_op_s, ab_b1_s, ab_b2_s, ab_l1_s, ab_l2_s, ab_li_s, ab_o1_s, ab_io_s, ab_lo1_s, ab_iio_s, ab_lio_s, ab_cp5_s, ab_d2_l, ab_d2_i, ab_d2_o, ex_iconst, ex_bipush, ex_sipush, ex_lconst, ex_ldc, ex_ldc_w, ex_ldc2_w, ex_iadd, ex_isub, ex_imul, ex_iand, ex_ior, ex_ixor, ex_ishl, ex_ishr, ex_iushr, ex_idiv, ex_irem, ex_ladd, ex_lsub, ex_lmul, ex_lor, ex_ldiv, ex_lrem, ex_lshl, ex_lcmp, ex_ineg, ex_lneg, ex_i2l, ex_l2i, ex_i2b, ex_dup, ex_pop, ex_dup2, ex_goto, ex_tableswitch, ex_aaload, ex_ireturn, ex_lreturn, ex_return_, List.map_cons, List.map_nil, List.sum_cons, List.sum_nil, List.drop_succ_cons, List.drop_zero, List.take_succ_cons, List.take_zero, List.reverse_cons, List.reverse_nil, List.nil_append, List.cons_append, List.length_cons, List.length_nil, true_and, and_true, cond_false, cond_true, Bool.false_or, Bool.or_false, Bool.or_true, Bool.true_or, true_or, or_true, false_or, or_false, if_true, if_false, reduceIte, ite_true, ite_false, implies_true, true_implies, false_implies, forall_const, not_true_eq_false, not_false_eq_true, Nat.reduceAdd, Nat.reduceMul, Nat.reduceSub, Nat.reduceBEq, Nat.reduceEqDiff, Nat.reduceLeDiff, Nat.reduceLT, Int.reduceAdd, Int.reduceSub, Int.reduceMul, Int.reduceNeg, Int.reduceToNat, Int.reduceLE, Int.reduceLT, Int.reduceEq, Int.reduceNe, Int.reduceNatCast, Nat.add_zero, Nat.zero_add, reduceCtorEq, Int.reduceNatCast', wp_c, wp_g, e2_ifCond, e2_if_icmp, ↓bq_t, ↓bq_f, ab_br, ↓ab_b1_s, ↓ab_b2_s, ↓ab_l1_s, ↓ab_l2_s, ↓ab_li_s, ↓ab_o1_s, ↓ab_io_s, ↓ab_lo1_s, ↓ab_iio_s, ↓ab_lio_s, ↓ab_cp5_s, moX7_shutBetween, dX7_shutBetween_0, dX7_shutBetween_1, dis_3, dX7_shutBetween_2, dil_3, dX7_shutBetween_3, dal_0, dX7_shutBetween_4, dg1_7_38_28, dX7_shutBetween_7, dg1_7_81_3, dg1_7_81_12, dX7_shutBetween_10, dX7_shutBetween_13, dX7_shutBetween_14, dX7_shutBetween_17, dX7_shutBetween_18, dil_1, dX7_shutBetween_19, dil_2, dX7_shutBetween_20, dv1_7_86_3, dv1_7_86_12, moX9_joins, dX7_shutBetween_23, dX7_shutBetween_26, dX7_shutBetween_27, dg1_7_15_28, dX7_shutBetween_30, dX7_shutBetween_31, dX7_shutBetween_32, dX7_shutBetween_33, dinc_3, dX7_shutBetween_36, dX7_shutBetween_39, dX7_shutBetween_40, dX7_shutBetween_41, dX7_shutBetween_42, dX7_shutBetween_43, dg1_7_28_28, dX7_shutBetween_46, dX7_shutBetween_49, dX7_shutBetween_50, dg1_7_19_28, dX7_shutBetween_53, dX7_shutBetween_54, dX7_shutBetween_55, dX7_shutBetween_56, dX7_shutBetween_59, dX7_shutBetween_60, dg1_7_22_28, dX7_shutBetween_63, dX7_shutBetween_64, dX7_shutBetween_65, dX7_shutBetween_66, dX7_shutBetween_69, dX7_shutBetween_70, dX7_shutBetween_73, dX7_shutBetween_74, dis_4, dX7_shutBetween_76, dil_4, dX7_shutBetween_78, dX7_shutBetween_81, dX7_shutBetween_82, dX7_shutBetween_85, dX7_shutBetween_86, dX7_shutBetween_87, dX7_shutBetween_88, dX7_shutBetween_91, dX7_shutBetween_92, dX7_shutBetween_95, dX7_shutBetween_96, dX7_shutBetween_97, dX7_shutBetween_98, dX7_shutBetween_101, dX7_shutBetween_102, dg1_7_25_28, dX7_shutBetween_105, dX7_shutBetween_106, kx7_90, dX7_shutBetween_108, dX7_shutBetween_109, dX7_shutBetween_112, dX7_shutBetween_115, dal1_30, das1_30, dal1_31, das1_31, dal1_32, das1_32, dal1_33, das1_33]
        repeat' (with_reducible (first | apply And.intro | intro _))
        all_goals first | omega | skip
        · have hn : ¬ zJs σ a b s := by rcases hv' with ⟨-, y⟩ | ⟨y, -⟩; omega; exact y
          refine ih (s + 1) σ1 (by omega) (by omega) (by omega) ⟨hz.1, fun t => ?_, hz.2.2⟩
          rcases hz.2.1 t with ⟨p1, p2, p3⟩ | ⟨p1, p2⟩
          · exact Or.inl ⟨by omega, p2, p3⟩
          · by_cases e : t = s
            · exact Or.inr ⟨fun p => hn (e ▸ p.2), p2⟩
            · exact Or.inr ⟨fun p => p1 ⟨by omega, p.2⟩, p2⟩
        · have hy : zJs σ a b s := by rcases hv' with ⟨y, -⟩ | ⟨-, y⟩; exact y; omega
          refine ih (s + 1) _ (by omega) (by omega) (by omega) ⟨fun o o1 o2 => (ab_up_o o o1).trans (hz.1 o o1 o2), fun t => ?_, hz.2.2⟩
          by_cases e : t = s
          · left
            rw [e]
            refine ⟨by omega, hy, ?_⟩
            show (if s = s then _ else _) = _
            rw [if_pos rfl]
          · have ej : ab_up σ1 30 s 1 30 t = σ1 30 t := by
              show (if t = s then _ else _) = _
              rw [if_neg e]
            rw [ej]
            rcases hz.2.1 t with ⟨p1, p2, p3⟩ | ⟨p1, p2⟩
            · exact Or.inl ⟨by omega, p2, p3⟩
            · exact Or.inr ⟨fun p => p1 ⟨by omega, p.2⟩, p2⟩
  apply hG [2] 60
  simp only [cq_lt, cq_le, cq_gt, cq_ge, cq_eq, cq_r1, cq_r2, ab_r32, ab_r64, ab_go, ab_stp, wp_z, ab_in, ab_rok, ab_wsum, ab_prm, ab_ret, ab_sw, ab_cd, ab_tg, ab_cat_i, ab_cat_l, ab_cat_r, ab_cl_n, ab_cl_i, ab_cl_l, ab_cl_r, ab_f2_0, ab_f2_1, ab_f4_0, ab_f4_1, ab_f4_2, ab_f4_3, ab_op_s, ab_b1_s, ab_b2_s, ab_l1_s, ab_l2_s, ab_li_s, ab_o1_s, ab_io_s, ab_lo1_s, ab_iio_s, ab_lio_s, ab_cp5_s, ab_d2_l, ab_d2_i, ab_d2_o, ex_iconst, ex_bipush, ex_sipush, ex_lconst, ex_ldc, ex_ldc_w, ex_ldc2_w, ex_iadd, ex_isub, ex_imul, ex_iand, ex_ior, ex_ixor, ex_ishl, ex_ishr, ex_iushr, ex_idiv, ex_irem, ex_ladd, ex_lsub, ex_lmul, ex_lor, ex_ldiv, ex_lrem, ex_lshl, ex_lcmp, ex_ineg, ex_lneg, ex_i2l, ex_l2i, ex_i2b, ex_dup, ex_pop, ex_dup2, ex_goto, ex_tableswitch, ex_aaload, ex_ireturn, ex_lreturn, ex_return_, List.map_cons, List.map_nil, List.sum_cons, List.sum_nil, List.drop_succ_cons, List.drop_zero, List.take_succ_cons, List.take_zero, List.reverse_cons, List.reverse_nil, List.nil_append, List.cons_append, List.length_cons, List.length_nil, true_and, and_true, cond_false, cond_true, Bool.false_or, Bool.or_false, Bool.or_true, Bool.true_or, true_or, or_true, false_or, or_false, if_true, if_false, reduceIte, ite_true, ite_false, implies_true, true_implies, false_implies, forall_const, not_true_eq_false, not_false_eq_true, Nat.reduceAdd, Nat.reduceMul, Nat.reduceSub, Nat.reduceBEq, Nat.reduceEqDiff, Nat.reduceLeDiff, Nat.reduceLT, Int.reduceAdd, Int.reduceSub, Int.reduceMul, Int.reduceNeg, Int.reduceToNat, Int.reduceLE, Int.reduceLT, Int.reduceEq, Int.reduceNe, Int.reduceNatCast, Nat.add_zero, Nat.zero_add, reduceCtorEq, Int.reduceNatCast', wp_c, wp_g, e2_ifCond, e2_if_icmp, ↓bq_t, ↓bq_f, ab_br, ↓ab_b1_s, ↓ab_b2_s, ↓ab_l1_s, ↓ab_l2_s, ↓ab_li_s, ↓ab_o1_s, ↓ab_io_s, ↓ab_lo1_s, ↓ab_iio_s, ↓ab_lio_s, ↓ab_cp5_s, moX7_shutBetween, dX7_shutBetween_0, dX7_shutBetween_1, dis_3, dX7_shutBetween_2, dil_3, dX7_shutBetween_3, dal_0, dX7_shutBetween_4, dg1_7_38_28, dX7_shutBetween_7, dg1_7_81_3, dg1_7_81_12, dX7_shutBetween_10, dX7_shutBetween_13, dX7_shutBetween_14, dX7_shutBetween_17, dX7_shutBetween_18, dil_1, dX7_shutBetween_19, dil_2, dX7_shutBetween_20, dv1_7_86_3, dv1_7_86_12, moX9_joins, dX7_shutBetween_23, dX7_shutBetween_26, dX7_shutBetween_27, dg1_7_15_28, dX7_shutBetween_30, dX7_shutBetween_31, dX7_shutBetween_32, dX7_shutBetween_33, dinc_3, dX7_shutBetween_36, dX7_shutBetween_39, dX7_shutBetween_40, dX7_shutBetween_41, dX7_shutBetween_42, dX7_shutBetween_43, dg1_7_28_28, dX7_shutBetween_46, dX7_shutBetween_49, dX7_shutBetween_50, dg1_7_19_28, dX7_shutBetween_53, dX7_shutBetween_54, dX7_shutBetween_55, dX7_shutBetween_56, dX7_shutBetween_59, dX7_shutBetween_60, dg1_7_22_28, dX7_shutBetween_63, dX7_shutBetween_64, dX7_shutBetween_65, dX7_shutBetween_66, dX7_shutBetween_69, dX7_shutBetween_70, dX7_shutBetween_73, dX7_shutBetween_74, dis_4, dX7_shutBetween_76, dil_4, dX7_shutBetween_78, dX7_shutBetween_81, dX7_shutBetween_82, dX7_shutBetween_85, dX7_shutBetween_86, dX7_shutBetween_87, dX7_shutBetween_88, dX7_shutBetween_91, dX7_shutBetween_92, dX7_shutBetween_95, dX7_shutBetween_96, dX7_shutBetween_97, dX7_shutBetween_98, dX7_shutBetween_101, dX7_shutBetween_102, dg1_7_25_28, dX7_shutBetween_105, dX7_shutBetween_106, kx7_90, dX7_shutBetween_108, dX7_shutBetween_109, dX7_shutBetween_112, dX7_shutBetween_115, dal1_30, das1_30, dal1_31, das1_31, dal1_32, das1_32, dal1_33, das1_33]
  exact key1 17 0 σ (by omega) (by omega) (by omega) ⟨fun _ _ _ => rfl, fun s => Or.inr ⟨fun p => by omega, rfl⟩, fun i => Or.inr ⟨fun p => by omega, rfl⟩⟩
/-- one more way -/
def zLk (σ : ab_S) (a b s : Int) (σ' : ab_S) : Prop := (∀ o, o ≠ 28 → o ≠ 31 → o ≠ 32 → o ≠ 33 → σ' o = σ o) ∧ σ' 28 = zu (σ 28) 6 (σ 28 6 + 1) ∧ σ' 31 = zu (σ 31) (σ 28 6) a ∧ σ' 32 = zu (σ 32) (σ 28 6) b ∧ σ' 33 = zu (σ 33) (σ 28 6) s
/-- change i of a law from b on -/
def zCs (ω : ab_S) (b i : Int) (σ σ' : ab_S) : Prop := (ω 27 (b + i) = 0 ∧ zSb σ (ω 25 (b + i)) (ω 26 (b + i)) (σ 3 9) (σ 28 6) σ') ∨ (ω 27 (b + i) ≠ 0 ∧ zLk σ (ω 25 (b + i)) (ω 26 (b + i)) (ω 27 (b + i)) σ')
/-- ways as they may be -/
def zWvl (n : Int) (σ : ab_S) : Prop := (∀ s, 0 ≤ s → s < 16 → σ 30 s = 0 ∨ σ 30 s = 1) ∧ (0 ≤ σ 28 6 ∧ σ 28 6 ≤ n) ∧ ∀ i, 0 ≤ i → i < σ 28 6 → (0 ≤ σ 31 i ∧ σ 31 i < σ 3 8) ∧ (0 ≤ σ 32 i ∧ σ 32 i < σ 3 8) ∧ ((1 ≤ σ 33 i ∧ σ 33 i ≤ 12) ∨ σ 33 i = 100000)
theorem zCs_o {ω σ σ' : ab_S} {b i : Int} (h : zCs ω b i σ σ') : ∀ o, o ≠ 28 → ¬ (30 ≤ o ∧ o ≤ 33) → σ' o = σ o := by
  intro o o1 o2
  rcases h with ⟨-, h⟩ | ⟨-, h⟩
  · exact h.1 o (by omega) (by omega)
  · exact h.1 o o1 (by omega) (by omega) (by omega)
theorem zCs_28 {ω σ σ' : ab_S} {b i : Int} (h : zCs ω b i σ σ') : ∀ k, k ≠ 6 → σ' 28 k = σ 28 k := by
  intro k hk
  rcases h with ⟨-, h⟩ | ⟨-, h⟩
  · rw [h.1 28 (by decide) (by decide)]
  · rw [h.2.1, zu_ne _ _ hk]
theorem zCs_wv {ω σ σ' : ab_S} {b i n : Int} (h : zCs ω b i σ σ') (hv : zWvl n σ) (h1 : 0 ≤ ω 25 (b + i) ∧ ω 25 (b + i) < σ 3 8) (h2 : 0 ≤ ω 26 (b + i) ∧ ω 26 (b + i) < σ 3 8) (h3 : 0 ≤ ω 27 (b + i) ∧ ω 27 (b + i) ≤ 12) : zWvl (n + 1) σ' := by
  have e3 := zCs_o h 3 (by decide) (by decide)
  obtain ⟨v1, v2, v3⟩ := hv
  rcases h with ⟨-, h⟩ | ⟨h0, h⟩
  · have e28 : σ' 28 = σ 28 := h.1 28 (by decide) (by decide)
    have e31 : σ' 31 = σ 31 := h.1 31 (by decide) (by decide)
    have e32 : σ' 32 = σ 32 := h.1 32 (by decide) (by decide)
    refine ⟨fun s s1 s2 => ?_, by rw [e28]; omega, fun j j1 j2 => ?_⟩
    · rcases h.2.1 s with ⟨-, -, p⟩ | ⟨-, p⟩
      · exact Or.inr p
      · rw [p]
        exact v1 s s1 s2
    · rw [e28] at j2
      obtain ⟨w1, w2, w3⟩ := v3 j j1 j2
      rw [e31, e32, e3]
      refine ⟨w1, w2, ?_⟩
      rcases h.2.2 j with ⟨-, -, p⟩ | ⟨-, p⟩
      · exact Or.inr p
      · rw [p]
        exact w3
  · obtain ⟨g1, g2, g3, g4, g5⟩ := h
    refine ⟨fun s s1 s2 => by rw [g1 30 (by decide) (by decide) (by decide) (by decide)]; exact v1 s s1 s2, by rw [g2, zu_at]; omega, fun j j1 j2 => ?_⟩
    rw [g2, zu_at] at j2
    rw [g3, g4, g5, e3]
    by_cases e : j = σ 28 6
    · rw [e, zu_at, zu_at, zu_at]
      exact ⟨h1, h2, Or.inl (by omega)⟩
    · rw [zu_ne _ _ e, zu_ne _ _ e, zu_ne _ _ e]
      exact v3 j j1 (by omega)
/-- n changes, one behind the other -/
def zCg (ω : ab_S) (b : Int) (n : Nat) (σ σ' : ab_S) : Prop := ∃ ρ : Nat → ab_S, ρ 0 = σ ∧ ρ n = σ' ∧ ∀ i : Nat, i < n → zCs ω b i (ρ i) (ρ (i + 1))
theorem zCg_s {ω σ σ' σ'' : ab_S} {b : Int} {n : Nat} (h : zCg ω b n σ σ') (hs : zCs ω b n σ' σ'') : zCg ω b (n + 1) σ σ'' := by
  obtain ⟨ρ, r1, r2, r3⟩ := h
  refine ⟨fun j => if j ≤ n then ρ j else σ'', ?_, ?_, fun i hi => ?_⟩
  · dsimp only
    rw [if_pos (by omega)]
    exact r1
  · dsimp only
    rw [if_neg (by omega)]
  · dsimp only
    by_cases e : i = n
    · rw [e, if_pos (by omega), if_neg (by omega), r2]
      exact hs
    · rw [if_pos (by omega), if_pos (by omega)]
      exact r3 i (by omega)
theorem zCg_o {ω σ σ' : ab_S} {b : Int} {n : Nat} (h : zCg ω b n σ σ') : (∀ o, o ≠ 28 → ¬ (30 ≤ o ∧ o ≤ 33) → σ' o = σ o) ∧ ∀ k, k ≠ 6 → σ' 28 k = σ 28 k := by
  obtain ⟨ρ, r1, r2, r3⟩ := h
  have : ∀ i : Nat, i ≤ n → (∀ o, o ≠ 28 → ¬ (30 ≤ o ∧ o ≤ 33) → ρ i o = σ o) ∧ ∀ k, k ≠ 6 → ρ i 28 k = σ 28 k := by
    intro i
    induction i with
    | zero => intro _; rw [r1]; exact ⟨fun _ _ _ => rfl, fun _ _ => rfl⟩
    | succ i ih =>
      intro hi
      have q := ih (by omega)
      have s := r3 i (by omega)
      exact ⟨fun o o1 o2 => (zCs_o s o o1 o2).trans (q.1 o o1 o2), fun k hk => (zCs_28 s k hk).trans (q.2 k hk)⟩
  rw [← r2]
  exact this n (Nat.le_refl n)
set_option maxRecDepth 100000 in
set_option maxHeartbeats 4000000 in
theorem r_firstChange2 {σ : ab_S} {c : Int} {K : ab_V → ab_S → Prop} (h : K (vI (12 * c)) σ) : ab_Runs ab_G1 mdX2_firstChange [vR 21, vI c] σ K := by
  refine ab_runs mwX2_firstChange (by decide +kernel) (Nat.le_of_ble_eq_true rfl) (fun G hG => ?_)
  show G 0 [some (vR 21), some (vI c)] [] _
  apply hG [9999] 10
  simp only [cq_lt, cq_le, cq_gt, cq_ge, cq_eq, cq_r1, cq_r2, ab_r32, ab_r64, ab_go, ab_stp, wp_z, ab_in, ab_rok, ab_wsum, ab_prm, ab_ret, ab_sw, ab_cd, ab_tg, ab_cat_i, ab_cat_l, ab_cat_r, ab_cl_n, ab_cl_i, ab_cl_l, ab_cl_r, ab_f2_0, ab_f2_1, ab_f4_0, ab_f4_1, ab_f4_2, ab_f4_3, ab_op_s, ab_b1_s, ab_b2_s, ab_l1_s, ab_l2_s, ab_li_s, ab_o1_s, ab_io_s, ab_lo1_s, ab_iio_s, ab_lio_s, ab_cp5_s, ab_d2_l, ab_d2_i, ab_d2_o, ex_iconst, ex_bipush, ex_sipush, ex_lconst, ex_ldc, ex_ldc_w, ex_ldc2_w, ex_iadd, ex_isub, ex_imul, ex_iand, ex_ior, ex_ixor, ex_ishl, ex_ishr, ex_iushr, ex_idiv, ex_irem, ex_ladd, ex_lsub, ex_lmul, ex_lor, ex_ldiv, ex_lrem, ex_lshl, ex_lcmp, ex_ineg, ex_lneg, ex_i2l, ex_l2i, ex_i2b, ex_dup, ex_pop, ex_dup2, ex_goto, ex_tableswitch, ex_aaload, ex_ireturn, ex_lreturn, ex_return_, List.map_cons, List.map_nil, List.sum_cons, List.sum_nil, List.drop_succ_cons, List.drop_zero, List.take_succ_cons, List.take_zero, List.reverse_cons, List.reverse_nil, List.nil_append, List.cons_append, List.length_cons, List.length_nil, true_and, and_true, cond_false, cond_true, Bool.false_or, Bool.or_false, Bool.or_true, Bool.true_or, true_or, or_true, false_or, or_false, if_true, if_false, reduceIte, ite_true, ite_false, implies_true, true_implies, false_implies, forall_const, not_true_eq_false, not_false_eq_true, Nat.reduceAdd, Nat.reduceMul, Nat.reduceSub, Nat.reduceBEq, Nat.reduceEqDiff, Nat.reduceLeDiff, Nat.reduceLT, Int.reduceAdd, Int.reduceSub, Int.reduceMul, Int.reduceNeg, Int.reduceToNat, Int.reduceLE, Int.reduceLT, Int.reduceEq, Int.reduceNe, Int.reduceNatCast, Nat.add_zero, Nat.zero_add, reduceCtorEq, Int.reduceNatCast', wp_c, wp_g, e2_ifCond, e2_if_icmp, ↓bq_t, ↓bq_f, ab_br, ↓ab_b1_s, ↓ab_b2_s, ↓ab_l1_s, ↓ab_l2_s, ↓ab_li_s, ↓ab_o1_s, ↓ab_io_s, ↓ab_lo1_s, ↓ab_iio_s, ↓ab_lio_s, ↓ab_cp5_s, moX2_firstChange, dX2_firstChange_0, dX2_firstChange_2, dil_1, dX2_firstChange_3, dX2_firstChange_4]
  exact h
/-- the changes of law c -/
def zBc (ω : ab_S) (c : Int) : Prop := (0 ≤ ω 24 c ∧ ω 24 c ≤ 12) ∧ ∀ i, 0 ≤ i → i < ω 24 c → (0 ≤ ω 25 (12 * c + i) ∧ ω 25 (12 * c + i) < ω 3 8) ∧ (0 ≤ ω 26 (12 * c + i) ∧ ω 26 (12 * c + i) < ω 3 8) ∧ (0 ≤ ω 27 (12 * c + i) ∧ ω 27 (12 * c + i) ≤ 12)
set_option maxRecDepth 100000 in
set_option maxHeartbeats 4000000 in
theorem r_change {σ : ab_S} {c : Int} {K : ab_V → ab_S → Prop} (hT : zTn σ) (hc : 0 ≤ c ∧ c < 9) (hB : zBc σ c) (hv : zWvl 0 σ) (h : ∀ σ', zCg σ (12 * c) (σ 24 c).toNat σ σ' → zWvl 12 σ' → K (vI 0) σ') : ab_Runs ab_G1 mdX7_change [vR 28, vR 21, vI c] σ K := by
  refine ab_runs mwX7_change (by decide +kernel) (Nat.le_of_ble_eq_true rfl) (fun G hG => ?_)
  show G 0 [some (vR 28), some (vR 21), some (vI c), none, none, none] [] _
  obtain ⟨hn, hB⟩ := hB
  have hC := hT.1
  have key : ∀ (k : Nat) (i : Nat) (z : Option ab_V) (σ1 : ab_S), σ 24 c - i < k → (i : Int) ≤ σ 24 c → zCg σ (12 * c) i σ σ1 → zWvl i σ1 → G 9 [some (vR 28), some (vR 21), some (vI c), some (vI (12 * c)), some (vI (i : Int)), z] [] σ1 := by
    intro k
    induction k with
    | zero => intro i z σ1 h1 h2; omega
    | succ k ih =>
      intro i z σ1 h1 h2 hg hw
      have ho := (zCg_o hg).1
      have e3 : σ1 3 = σ 3 := ho 3 (by decide) (by decide)
      have e24 : σ1 24 = σ 24 := ho 24 (by decide) (by decide)
      have e25 : σ1 25 = σ 25 := ho 25 (by decide) (by decide)
      have e26 : σ1 26 = σ 26 := ho 26 (by decide) (by decide)
      have e27 : σ1 27 = σ 27 := ho 27 (by decide) (by decide)
      have hT1 : zTn σ1 := by
        unfold zTn
        rw [e3, ho 8 (by decide) (by decide), ho 9 (by decide) (by decide), ho 10 (by decide) (by decide)]
        exact hT
      have q : (i : Int) < σ 24 c → (0 ≤ σ 25 (12 * c + i) ∧ σ 25 (12 * c + i) < σ 3 8) ∧ (0 ≤ σ 26 (12 * c + i) ∧ σ 26 (12 * c + i) < σ 3 8) ∧ (0 ≤ σ 27 (12 * c + i) ∧ σ 27 (12 * c + i) ≤ 12) := fun z => hB i (by omega) z
      have nx : (i : Int) < σ 24 c → ∀ (σ2 : ab_S) (z : Option ab_V), zCs σ (12 * c) i σ1 σ2 → G 9 [some (vR 28), some (vR 21), some (vI c), some (vI (12 * c)), some (vI ((i : Int) + 1)), z] [] σ2 := by
        intro hi σ2 z hs
        have q := q hi
        have := ih (i + 1) z σ2 (by omega) (by omega) (zCg_s hg hs) (by
          have := zCs_wv hs hw (by rw [e3]; exact q.1) (by rw [e3]; exact q.2.1) q.2.2
          rw [show (((i + 1 : Nat)) : Int) = (i : Int) + 1 by omega]
          exact this)
        rw [show (((i + 1 : Nat)) : Int) = (i : Int) + 1 by omega] at this
        exact this
      have hl := hw.2.1
      apply hG [9, 61] 60
      simp only [cq_lt, cq_le, cq_gt, cq_ge, cq_eq, cq_r1, cq_r2, ab_r32, ab_r64, ab_go, ab_stp, wp_z, ab_in, ab_rok, ab_wsum, ab_prm, ab_ret, ab_sw, ab_cd, ab_tg, ab_cat_i, ab_cat_l, ab_cat_r, ab_cl_n, ab_cl_i, ab_cl_l, ab_cl_r, ab_f2_0, ab_f2_1, ab_f4_0, ab_f4_1, ab_f4_2, ab_f4_3, ab_op_s, ab_b1_s, ab_b2_s, ab_l1_s, ab_l2_s, ab_li_s, ab_o1_s, ab_io_s, ab_lo1_s, ab_iio_s, ab_lio_s, ab_cp5_s, ab_d2_l, ab_d2_i, ab_d2_o, ex_iconst, ex_bipush, ex_sipush, ex_lconst, ex_ldc, ex_ldc_w, ex_ldc2_w, ex_iadd, ex_isub, ex_imul, ex_iand, ex_ior, ex_ixor, ex_ishl, ex_ishr, ex_iushr, ex_idiv, ex_irem, ex_ladd, ex_lsub, ex_lmul, ex_lor, ex_ldiv, ex_lrem, ex_lshl, ex_lcmp, ex_ineg, ex_lneg, ex_i2l, ex_l2i, ex_i2b, ex_dup, ex_pop, ex_dup2, ex_goto, ex_tableswitch, ex_aaload, ex_ireturn, ex_lreturn, ex_return_, List.map_cons, List.map_nil, List.sum_cons, List.sum_nil, List.drop_succ_cons, List.drop_zero, List.take_succ_cons, List.take_zero, List.reverse_cons, List.reverse_nil, List.nil_append, List.cons_append, List.length_cons, List.length_nil, true_and, and_true, cond_false, cond_true, Bool.false_or, Bool.or_false, Bool.or_true, Bool.true_or, true_or, or_true, false_or, or_false, if_true, if_false, reduceIte, ite_true, ite_false, implies_true, true_implies, false_implies, forall_const, not_true_eq_false, not_false_eq_true, Nat.reduceAdd, Nat.reduceMul, Nat.reduceSub, Nat.reduceBEq, Nat.reduceEqDiff, Nat.reduceLeDiff, Nat.reduceLT, Int.reduceAdd, Int.reduceSub, Int.reduceMul, Int.reduceNeg, Int.reduceToNat, Int.reduceLE, Int.reduceLT, Int.reduceEq, Int.reduceNe, Int.reduceNatCast, Nat.add_zero, Nat.zero_add, reduceCtorEq, Int.reduceNatCast', wp_c, wp_g, e2_ifCond, e2_if_icmp, ↓bq_t, ↓bq_f, ab_br, ↓ab_b1_s, ↓ab_b2_s, ↓ab_l1_s, ↓ab_l2_s, ↓ab_li_s, ↓ab_o1_s, ↓ab_io_s, ↓ab_lo1_s, ↓ab_iio_s, ↓ab_lio_s, ↓ab_cp5_s, moX7_change, dX7_change_0, dal_1, dX7_change_1, dil_2, dX7_change_2, dv1_7_61_21, moX2_firstChange, dX7_change_5, dis_3, dX7_change_6, dX7_change_7, dis_4, dX7_change_9, dil_4, dX7_change_11, dX7_change_12, dg1_7_65_21, dX7_change_15, dX7_change_16, dX7_change_17, dX7_change_20, dX7_change_21, dg1_7_68_21, dX7_change_24, dil_3, dX7_change_25, dX7_change_27, dX7_change_28, dX7_change_29, dis_5, dX7_change_31, dil_5, dX7_change_33, dX7_change_36, dal_0, dX7_change_37, dX7_change_38, dg1_7_71_21, dX7_change_41, dX7_change_42, dX7_change_44, dX7_change_45, dX7_change_46, dX7_change_47, dg1_7_74_21, dX7_change_50, dX7_change_51, dX7_change_53, dX7_change_54, dX7_change_55, dv1_7_77_28, moX7_shutBetween, dX7_change_58, dX7_change_61, dX7_change_62, dg1_7_28_28, dX7_change_65, dX7_change_67, dX7_change_70, dX7_change_71, dg1_7_19_28, dX7_change_74, dX7_change_75, dX7_change_78, dX7_change_79, dX7_change_82, dX7_change_83, dX7_change_85, dX7_change_86, dX7_change_87, dX7_change_88, dX7_change_89, dg1_7_22_28, dX7_change_92, dX7_change_93, dX7_change_96, dX7_change_97, dX7_change_100, dX7_change_101, dX7_change_103, dX7_change_104, dX7_change_105, dX7_change_106, dX7_change_107, dg1_7_25_28, dX7_change_110, dX7_change_111, dX7_change_114, dX7_change_116, dX7_change_117, dX7_change_118, dX7_change_119, dX7_change_122, dX7_change_123, dX7_change_124, dp1_7_28_28, dX7_change_127, dinc_4, dX7_change_130, dX7_change_133, dal1_24, das1_24, dal1_25, das1_25, dal1_26, das1_26, dal1_27, das1_27, dal1_31, das1_31, dal1_32, das1_32, dal1_33, das1_33, e24, e25, e26, e27]
      repeat' (with_reducible (first | apply And.intro | intro _))
      all_goals first | omega | skip
      · rename_i w
        have e : (σ 24 c).toNat = i := by omega
        rw [e] at h
        refine h σ1 hg ⟨hw.1, by omega, hw.2.2⟩
      · rename_i w1 w2
        have q := q (by omega)
        have u1 : ∀ (x y : Int), ab_up σ1 31 x y 28 = σ1 28 := fun _ _ => rfl
        have u2 : ∀ (x y z w : Int), ab_up (ab_up σ1 31 x y) 32 z w 28 = σ1 28 := fun _ _ _ _ => rfl
        have u3 : ∀ (x y z w s t : Int), ab_up (ab_up (ab_up σ1 31 x y) 32 z w) 33 s t 28 = σ1 28 := fun _ _ _ _ _ _ => rfl
        have u4 : ∀ (x y : Int), ab_up σ1 31 x y 26 = σ 26 := fun _ _ => e26
        apply hG [9] 60
        simp only [cq_lt, cq_le, cq_gt, cq_ge, cq_eq, cq_r1, cq_r2, ab_r32, ab_r64, ab_go, ab_stp, wp_z, ab_in, ab_rok, ab_wsum, ab_prm, ab_ret, ab_sw, ab_cd, ab_tg, ab_cat_i, ab_cat_l, ab_cat_r, ab_cl_n, ab_cl_i, ab_cl_l, ab_cl_r, ab_f2_0, ab_f2_1, ab_f4_0, ab_f4_1, ab_f4_2, ab_f4_3, ab_op_s, ab_b1_s, ab_b2_s, ab_l1_s, ab_l2_s, ab_li_s, ab_o1_s, ab_io_s, ab_lo1_s, ab_iio_s, ab_lio_s, ab_cp5_s, ab_d2_l, ab_d2_i, ab_d2_o, ex_iconst, ex_bipush, ex_sipush, ex_lconst, ex_ldc, ex_ldc_w, ex_ldc2_w, ex_iadd, ex_isub, ex_imul, ex_iand, ex_ior, ex_ixor, ex_ishl, ex_ishr, ex_iushr, ex_idiv, ex_irem, ex_ladd, ex_lsub, ex_lmul, ex_lor, ex_ldiv, ex_lrem, ex_lshl, ex_lcmp, ex_ineg, ex_lneg, ex_i2l, ex_l2i, ex_i2b, ex_dup, ex_pop, ex_dup2, ex_goto, ex_tableswitch, ex_aaload, ex_ireturn, ex_lreturn, ex_return_, List.map_cons, List.map_nil, List.sum_cons, List.sum_nil, List.drop_succ_cons, List.drop_zero, List.take_succ_cons, List.take_zero, List.reverse_cons, List.reverse_nil, List.nil_append, List.cons_append, List.length_cons, List.length_nil, true_and, and_true, cond_false, cond_true, Bool.false_or, Bool.or_false, Bool.or_true, Bool.true_or, true_or, or_true, false_or, or_false, if_true, if_false, reduceIte, ite_true, ite_false, implies_true, true_implies, false_implies, forall_const, not_true_eq_false, not_false_eq_true, Nat.reduceAdd, Nat.reduceMul, Nat.reduceSub, Nat.reduceBEq, Nat.reduceEqDiff, Nat.reduceLeDiff, Nat.reduceLT, Int.reduceAdd, Int.reduceSub, Int.reduceMul, Int.reduceNeg, Int.reduceToNat, Int.reduceLE, Int.reduceLT, Int.reduceEq, Int.reduceNe, Int.reduceNatCast, Nat.add_zero, Nat.zero_add, reduceCtorEq, Int.reduceNatCast', wp_c, wp_g, e2_ifCond, e2_if_icmp, ↓bq_t, ↓bq_f, ab_br, ↓ab_b1_s, ↓ab_b2_s, ↓ab_l1_s, ↓ab_l2_s, ↓ab_li_s, ↓ab_o1_s, ↓ab_io_s, ↓ab_lo1_s, ↓ab_iio_s, ↓ab_lio_s, ↓ab_cp5_s, moX7_change, dX7_change_0, dal_1, dX7_change_1, dil_2, dX7_change_2, dv1_7_61_21, moX2_firstChange, dX7_change_5, dis_3, dX7_change_6, dX7_change_7, dis_4, dX7_change_9, dil_4, dX7_change_11, dX7_change_12, dg1_7_65_21, dX7_change_15, dX7_change_16, dX7_change_17, dX7_change_20, dX7_change_21, dg1_7_68_21, dX7_change_24, dil_3, dX7_change_25, dX7_change_27, dX7_change_28, dX7_change_29, dis_5, dX7_change_31, dil_5, dX7_change_33, dX7_change_36, dal_0, dX7_change_37, dX7_change_38, dg1_7_71_21, dX7_change_41, dX7_change_42, dX7_change_44, dX7_change_45, dX7_change_46, dX7_change_47, dg1_7_74_21, dX7_change_50, dX7_change_51, dX7_change_53, dX7_change_54, dX7_change_55, dv1_7_77_28, moX7_shutBetween, dX7_change_58, dX7_change_61, dX7_change_62, dg1_7_28_28, dX7_change_65, dX7_change_67, dX7_change_70, dX7_change_71, dg1_7_19_28, dX7_change_74, dX7_change_75, dX7_change_78, dX7_change_79, dX7_change_82, dX7_change_83, dX7_change_85, dX7_change_86, dX7_change_87, dX7_change_88, dX7_change_89, dg1_7_22_28, dX7_change_92, dX7_change_93, dX7_change_96, dX7_change_97, dX7_change_100, dX7_change_101, dX7_change_103, dX7_change_104, dX7_change_105, dX7_change_106, dX7_change_107, dg1_7_25_28, dX7_change_110, dX7_change_111, dX7_change_114, dX7_change_116, dX7_change_117, dX7_change_118, dX7_change_119, dX7_change_122, dX7_change_123, dX7_change_124, dp1_7_28_28, dX7_change_127, dinc_4, dX7_change_130, dX7_change_133, dal1_24, das1_24, dal1_25, das1_25, dal1_26, das1_26, dal1_27, das1_27, dal1_31, das1_31, dal1_32, das1_32, dal1_33, das1_33, e25, e26, u1, u2, u3, u4]
        repeat' (with_reducible (first | apply And.intro | intro _))
        all_goals first | omega | skip
        refine nx (by omega) _ _ (Or.inr ⟨w2, ⟨fun o o1 o2 o3 o4 => ?_, ?_, ?_, ?_, ?_⟩⟩)
        · rw [ab_up_o o o1, ab_up_o o o4, ab_up_o o o3, ab_up_o o o2]
        · rfl
        · rfl
        · rfl
        · rfl
      · rename_i w1 w2
        have q := q (by omega)
        refine r_shutBetween hT1 ⟨by omega, fun j j1 j2 => ⟨(hw.2.2 j j1 j2).1, (hw.2.2 j j1 j2).2.1⟩⟩ (by omega) (by omega) (fun σ2 h2 => ?_)
        try simp only [cq_lt, cq_le, cq_gt, cq_ge, cq_eq, cq_r1, cq_r2, ab_r32, ab_r64, ab_go, ab_stp, wp_z, ab_in, ab_rok, ab_wsum, ab_prm, ab_ret, ab_sw, ab_cd, ab_tg, ab_cat_i, ab_cat_l, ab_cat_r, ab_cl_n, ab_cl_i, ab_cl_l, ab_cl_r, ab_f2_0, ab_f2_1, ab_f4_0, ab_f4_1, ab_f4_2, ab_f4_3, ab_op_s, ab_b1_s, ab_b2_s, ab_l1_s, ab_l2_s, ab_li_s, ab_o1_s, ab_io_s, ab_lo1_s, ab_iio_s, ab_lio_s, ab_cp5_s, ab_d2_l, ab_d2_i, ab_d2_o, ex_iconst, ex_bipush, ex_sipush, ex_lconst, ex_ldc, ex_ldc_w, ex_ldc2_w, ex_iadd, ex_isub, ex_imul, ex_iand, ex_ior, ex_ixor, ex_ishl, ex_ishr, ex_iushr, ex_idiv, ex_irem, ex_ladd, ex_lsub, ex_lmul, ex_lor, ex_ldiv, ex_lrem, ex_lshl, ex_lcmp, ex_ineg, ex_lneg, ex_i2l, ex_l2i, ex_i2b, ex_dup, ex_pop, ex_dup2, ex_goto, ex_tableswitch, ex_aaload, ex_ireturn, ex_lreturn, ex_return_, List.map_cons, List.map_nil, List.sum_cons, List.sum_nil, List.drop_succ_cons, List.drop_zero, List.take_succ_cons, List.take_zero, List.reverse_cons, List.reverse_nil, List.nil_append, List.cons_append, List.length_cons, List.length_nil, true_and, and_true, cond_false, cond_true, Bool.false_or, Bool.or_false, Bool.or_true, Bool.true_or, true_or, or_true, false_or, or_false, if_true, if_false, reduceIte, ite_true, ite_false, implies_true, true_implies, false_implies, forall_const, not_true_eq_false, not_false_eq_true, Nat.reduceAdd, Nat.reduceMul, Nat.reduceSub, Nat.reduceBEq, Nat.reduceEqDiff, Nat.reduceLeDiff, Nat.reduceLT, Int.reduceAdd, Int.reduceSub, Int.reduceMul, Int.reduceNeg, Int.reduceToNat, Int.reduceLE, Int.reduceLT, Int.reduceEq, Int.reduceNe, Int.reduceNatCast, Nat.add_zero, Nat.zero_add, reduceCtorEq, Int.reduceNatCast', wp_c, wp_g, e2_ifCond, e2_if_icmp, ↓bq_t, ↓bq_f, ab_br, ↓ab_b1_s, ↓ab_b2_s, ↓ab_l1_s, ↓ab_l2_s, ↓ab_li_s, ↓ab_o1_s, ↓ab_io_s, ↓ab_lo1_s, ↓ab_iio_s, ↓ab_lio_s, ↓ab_cp5_s, moX7_change, dX7_change_0, dal_1, dX7_change_1, dil_2, dX7_change_2, dv1_7_61_21, moX2_firstChange, dX7_change_5, dis_3, dX7_change_6, dX7_change_7, dis_4, dX7_change_9, dil_4, dX7_change_11, dX7_change_12, dg1_7_65_21, dX7_change_15, dX7_change_16, dX7_change_17, dX7_change_20, dX7_change_21, dg1_7_68_21, dX7_change_24, dil_3, dX7_change_25, dX7_change_27, dX7_change_28, dX7_change_29, dis_5, dX7_change_31, dil_5, dX7_change_33, dX7_change_36, dal_0, dX7_change_37, dX7_change_38, dg1_7_71_21, dX7_change_41, dX7_change_42, dX7_change_44, dX7_change_45, dX7_change_46, dX7_change_47, dg1_7_74_21, dX7_change_50, dX7_change_51, dX7_change_53, dX7_change_54, dX7_change_55, dv1_7_77_28, moX7_shutBetween, dX7_change_58, dX7_change_61, dX7_change_62, dg1_7_28_28, dX7_change_65, dX7_change_67, dX7_change_70, dX7_change_71, dg1_7_19_28, dX7_change_74, dX7_change_75, dX7_change_78, dX7_change_79, dX7_change_82, dX7_change_83, dX7_change_85, dX7_change_86, dX7_change_87, dX7_change_88, dX7_change_89, dg1_7_22_28, dX7_change_92, dX7_change_93, dX7_change_96, dX7_change_97, dX7_change_100, dX7_change_101, dX7_change_103, dX7_change_104, dX7_change_105, dX7_change_106, dX7_change_107, dg1_7_25_28, dX7_change_110, dX7_change_111, dX7_change_114, dX7_change_116, dX7_change_117, dX7_change_118, dX7_change_119, dX7_change_122, dX7_change_123, dX7_change_124, dp1_7_28_28, dX7_change_127, dinc_4, dX7_change_130, dX7_change_133, dal1_24, das1_24, dal1_25, das1_25, dal1_26, das1_26, dal1_27, das1_27, dal1_31, das1_31, dal1_32, das1_32, dal1_33, das1_33]
        exact nx (by omega) _ _ (Or.inl ⟨by omega, h2⟩)
  apply hG [9] 60
  simp only [cq_lt, cq_le, cq_gt, cq_ge, cq_eq, cq_r1, cq_r2, ab_r32, ab_r64, ab_go, ab_stp, wp_z, ab_in, ab_rok, ab_wsum, ab_prm, ab_ret, ab_sw, ab_cd, ab_tg, ab_cat_i, ab_cat_l, ab_cat_r, ab_cl_n, ab_cl_i, ab_cl_l, ab_cl_r, ab_f2_0, ab_f2_1, ab_f4_0, ab_f4_1, ab_f4_2, ab_f4_3, ab_op_s, ab_b1_s, ab_b2_s, ab_l1_s, ab_l2_s, ab_li_s, ab_o1_s, ab_io_s, ab_lo1_s, ab_iio_s, ab_lio_s, ab_cp5_s, ab_d2_l, ab_d2_i, ab_d2_o, ex_iconst, ex_bipush, ex_sipush, ex_lconst, ex_ldc, ex_ldc_w, ex_ldc2_w, ex_iadd, ex_isub, ex_imul, ex_iand, ex_ior, ex_ixor, ex_ishl, ex_ishr, ex_iushr, ex_idiv, ex_irem, ex_ladd, ex_lsub, ex_lmul, ex_lor, ex_ldiv, ex_lrem, ex_lshl, ex_lcmp, ex_ineg, ex_lneg, ex_i2l, ex_l2i, ex_i2b, ex_dup, ex_pop, ex_dup2, ex_goto, ex_tableswitch, ex_aaload, ex_ireturn, ex_lreturn, ex_return_, List.map_cons, List.map_nil, List.sum_cons, List.sum_nil, List.drop_succ_cons, List.drop_zero, List.take_succ_cons, List.take_zero, List.reverse_cons, List.reverse_nil, List.nil_append, List.cons_append, List.length_cons, List.length_nil, true_and, and_true, cond_false, cond_true, Bool.false_or, Bool.or_false, Bool.or_true, Bool.true_or, true_or, or_true, false_or, or_false, if_true, if_false, reduceIte, ite_true, ite_false, implies_true, true_implies, false_implies, forall_const, not_true_eq_false, not_false_eq_true, Nat.reduceAdd, Nat.reduceMul, Nat.reduceSub, Nat.reduceBEq, Nat.reduceEqDiff, Nat.reduceLeDiff, Nat.reduceLT, Int.reduceAdd, Int.reduceSub, Int.reduceMul, Int.reduceNeg, Int.reduceToNat, Int.reduceLE, Int.reduceLT, Int.reduceEq, Int.reduceNe, Int.reduceNatCast, Nat.add_zero, Nat.zero_add, reduceCtorEq, Int.reduceNatCast', wp_c, wp_g, e2_ifCond, e2_if_icmp, ↓bq_t, ↓bq_f, ab_br, ↓ab_b1_s, ↓ab_b2_s, ↓ab_l1_s, ↓ab_l2_s, ↓ab_li_s, ↓ab_o1_s, ↓ab_io_s, ↓ab_lo1_s, ↓ab_iio_s, ↓ab_lio_s, ↓ab_cp5_s, moX7_change, dX7_change_0, dal_1, dX7_change_1, dil_2, dX7_change_2, dv1_7_61_21, moX2_firstChange, dX7_change_5, dis_3, dX7_change_6, dX7_change_7, dis_4, dX7_change_9, dil_4, dX7_change_11, dX7_change_12, dg1_7_65_21, dX7_change_15, dX7_change_16, dX7_change_17, dX7_change_20, dX7_change_21, dg1_7_68_21, dX7_change_24, dil_3, dX7_change_25, dX7_change_27, dX7_change_28, dX7_change_29, dis_5, dX7_change_31, dil_5, dX7_change_33, dX7_change_36, dal_0, dX7_change_37, dX7_change_38, dg1_7_71_21, dX7_change_41, dX7_change_42, dX7_change_44, dX7_change_45, dX7_change_46, dX7_change_47, dg1_7_74_21, dX7_change_50, dX7_change_51, dX7_change_53, dX7_change_54, dX7_change_55, dv1_7_77_28, moX7_shutBetween, dX7_change_58, dX7_change_61, dX7_change_62, dg1_7_28_28, dX7_change_65, dX7_change_67, dX7_change_70, dX7_change_71, dg1_7_19_28, dX7_change_74, dX7_change_75, dX7_change_78, dX7_change_79, dX7_change_82, dX7_change_83, dX7_change_85, dX7_change_86, dX7_change_87, dX7_change_88, dX7_change_89, dg1_7_22_28, dX7_change_92, dX7_change_93, dX7_change_96, dX7_change_97, dX7_change_100, dX7_change_101, dX7_change_103, dX7_change_104, dX7_change_105, dX7_change_106, dX7_change_107, dg1_7_25_28, dX7_change_110, dX7_change_111, dX7_change_114, dX7_change_116, dX7_change_117, dX7_change_118, dX7_change_119, dX7_change_122, dX7_change_123, dX7_change_124, dp1_7_28_28, dX7_change_127, dinc_4, dX7_change_130, dX7_change_133, dal1_24, das1_24, dal1_25, das1_25, dal1_26, das1_26, dal1_27, das1_27, dal1_31, das1_31, dal1_32, das1_32, dal1_33, das1_33]
  repeat' (with_reducible (first | apply And.intro | intro _))
  all_goals first | omega | skip
  refine r_firstChange2 ?_
  try simp only [cq_lt, cq_le, cq_gt, cq_ge, cq_eq, cq_r1, cq_r2, ab_r32, ab_r64, ab_go, ab_stp, wp_z, ab_in, ab_rok, ab_wsum, ab_prm, ab_ret, ab_sw, ab_cd, ab_tg, ab_cat_i, ab_cat_l, ab_cat_r, ab_cl_n, ab_cl_i, ab_cl_l, ab_cl_r, ab_f2_0, ab_f2_1, ab_f4_0, ab_f4_1, ab_f4_2, ab_f4_3, ab_op_s, ab_b1_s, ab_b2_s, ab_l1_s, ab_l2_s, ab_li_s, ab_o1_s, ab_io_s, ab_lo1_s, ab_iio_s, ab_lio_s, ab_cp5_s, ab_d2_l, ab_d2_i, ab_d2_o, ex_iconst, ex_bipush, ex_sipush, ex_lconst, ex_ldc, ex_ldc_w, ex_ldc2_w, ex_iadd, ex_isub, ex_imul, ex_iand, ex_ior, ex_ixor, ex_ishl, ex_ishr, ex_iushr, ex_idiv, ex_irem, ex_ladd, ex_lsub, ex_lmul, ex_lor, ex_ldiv, ex_lrem, ex_lshl, ex_lcmp, ex_ineg, ex_lneg, ex_i2l, ex_l2i, ex_i2b, ex_dup, ex_pop, ex_dup2, ex_goto, ex_tableswitch, ex_aaload, ex_ireturn, ex_lreturn, ex_return_, List.map_cons, List.map_nil, List.sum_cons, List.sum_nil, List.drop_succ_cons, List.drop_zero, List.take_succ_cons, List.take_zero, List.reverse_cons, List.reverse_nil, List.nil_append, List.cons_append, List.length_cons, List.length_nil, true_and, and_true, cond_false, cond_true, Bool.false_or, Bool.or_false, Bool.or_true, Bool.true_or, true_or, or_true, false_or, or_false, if_true, if_false, reduceIte, ite_true, ite_false, implies_true, true_implies, false_implies, forall_const, not_true_eq_false, not_false_eq_true, Nat.reduceAdd, Nat.reduceMul, Nat.reduceSub, Nat.reduceBEq, Nat.reduceEqDiff, Nat.reduceLeDiff, Nat.reduceLT, Int.reduceAdd, Int.reduceSub, Int.reduceMul, Int.reduceNeg, Int.reduceToNat, Int.reduceLE, Int.reduceLT, Int.reduceEq, Int.reduceNe, Int.reduceNatCast, Nat.add_zero, Nat.zero_add, reduceCtorEq, Int.reduceNatCast', wp_c, wp_g, e2_ifCond, e2_if_icmp, ↓bq_t, ↓bq_f, ab_br, ↓ab_b1_s, ↓ab_b2_s, ↓ab_l1_s, ↓ab_l2_s, ↓ab_li_s, ↓ab_o1_s, ↓ab_io_s, ↓ab_lo1_s, ↓ab_iio_s, ↓ab_lio_s, ↓ab_cp5_s, moX7_change, dX7_change_0, dal_1, dX7_change_1, dil_2, dX7_change_2, dv1_7_61_21, moX2_firstChange, dX7_change_5, dis_3, dX7_change_6, dX7_change_7, dis_4, dX7_change_9, dil_4, dX7_change_11, dX7_change_12, dg1_7_65_21, dX7_change_15, dX7_change_16, dX7_change_17, dX7_change_20, dX7_change_21, dg1_7_68_21, dX7_change_24, dil_3, dX7_change_25, dX7_change_27, dX7_change_28, dX7_change_29, dis_5, dX7_change_31, dil_5, dX7_change_33, dX7_change_36, dal_0, dX7_change_37, dX7_change_38, dg1_7_71_21, dX7_change_41, dX7_change_42, dX7_change_44, dX7_change_45, dX7_change_46, dX7_change_47, dg1_7_74_21, dX7_change_50, dX7_change_51, dX7_change_53, dX7_change_54, dX7_change_55, dv1_7_77_28, moX7_shutBetween, dX7_change_58, dX7_change_61, dX7_change_62, dg1_7_28_28, dX7_change_65, dX7_change_67, dX7_change_70, dX7_change_71, dg1_7_19_28, dX7_change_74, dX7_change_75, dX7_change_78, dX7_change_79, dX7_change_82, dX7_change_83, dX7_change_85, dX7_change_86, dX7_change_87, dX7_change_88, dX7_change_89, dg1_7_22_28, dX7_change_92, dX7_change_93, dX7_change_96, dX7_change_97, dX7_change_100, dX7_change_101, dX7_change_103, dX7_change_104, dX7_change_105, dX7_change_106, dX7_change_107, dg1_7_25_28, dX7_change_110, dX7_change_111, dX7_change_114, dX7_change_116, dX7_change_117, dX7_change_118, dX7_change_119, dX7_change_122, dX7_change_123, dX7_change_124, dp1_7_28_28, dX7_change_127, dinc_4, dX7_change_130, dX7_change_133, dal1_24, das1_24, dal1_25, das1_25, dal1_26, das1_26, dal1_27, das1_27, dal1_31, das1_31, dal1_32, das1_32, dal1_33, das1_33]
  exact key 13 0 _ σ (by omega) (by omega) ⟨fun _ => σ, rfl, rfl, fun i hi => by omega⟩ hv
/-- the ways of the plain town -/
def zB0 (σ : ab_S) (a p : Int) (σ' : ab_S) : Prop := (∀ o, o ≠ 28 → o ≠ 30 → σ' o = σ o) ∧ (∀ s, 0 ≤ s → s < 16 → σ' 30 s = 0) ∧ σ' 28 6 = 0 ∧ σ' 28 7 = a ∧ σ' 28 8 = p
/-- the ways by law c, or by none -/
def zLy (σ : ab_S) (c : Int) (σ' : ab_S) : Prop := ∃ σ1 σ2, ((c = -1 ∧ zB0 σ 0 (-1) σ1 ∧ σ2 = σ1) ∨ (0 ≤ c ∧ zB0 σ (σ 22 c) (σ 23 c) σ1 ∧ zCg σ1 (12 * c) (σ 24 c).toNat σ1 σ2)) ∧ zWvl 12 σ2 ∧ σ' = ab_set σ2 29 (zfw (σ 3 8) (znb σ2) (σ 3 8).toNat)
theorem znb_in {σ : ab_S} (hT : zTn σ) (hL : zLn σ) : zin 100000 (znb σ) := by
  have w0 : ∀ k, 0 ≤ k → k < 144 → 0 ≤ zfill (σ 29) 144 100000 k ∧ zfill (σ 29) 144 100000 k ≤ 100000 := by
    intro k h1 h2
    unfold zfill
    rw [if_pos ⟨h1, h2⟩]
    omega
  unfold znb
  refine zst_ok _ (fun i h1 h2 => ?_) (zst_ok _ (fun i h1 h2 => ?_) (zdg_ok w0 _))
  · have := hL.1
    have := hL.2 i (by omega) (by omega)
    omega
  · have := hT.2.1
    have := hT.2.2 i (by omega) (by omega)
    omega
