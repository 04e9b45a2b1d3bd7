-- MODEL: asks, arePrices
theorem zpr_pq {ω : ab_S} {rp : Int → Int} {x y i j : Int} (hJ : zJ ω) (hi : 0 ≤ i ∧ i < zwd ω) (hj : 0 ≤ j ∧ j < zwd ω) : zpr ω (zu (zu rp x (zlo ω + i)) y (zlo ω + j)) = zPq ω (zpr ω rp) x y i j := by
  by_cases hp : ω 28 8 = -1
  · rw [zpr_id hp, zpr_id hp]
    rfl
  · have hw : zwd ω = 1 := by
      unfold zwd
      rw [if_neg hp]
    have hl : zlo ω = ω 28 8 := by
      unfold zlo
      rw [if_neg hp]
    have ei : i = 0 := by omega
    have ej : j = 0 := by omega
    funext k
    unfold zpr zPq zu
    rw [if_neg hp, ei, ej, hl]
    repeat' split
    all_goals first | rfl | omega
def yFa (τ υ : ab_S) : Prop := (∀ o, o ≠ 0 → o ≠ 27 → o ≠ 31 → o ≠ 32 → o ≠ 39 → o ≠ 40 → υ o = τ o) ∧ ∀ k, k ≠ 60 → k ≠ 79 → k ≠ 80 → υ 0 k = τ 0 k
theorem yFa_trans {τ υ φ : ab_S} (h1 : yFa τ υ) (h2 : yFa υ φ) : yFa τ φ := ⟨fun o a b c d e f => (h2.1 o a b c d e f).trans (h1.1 o a b c d e f), fun k a b c => (h2.2 k a b c).trans (h1.2 k a b c)⟩
theorem yFm_a {τ υ : ab_S} (h : yFm τ υ) : yFa τ υ := ⟨fun o a _ c d _ _ => h.1 o a c d, fun k a _ _ => h.2 k a⟩
theorem yLd_a {ω τ υ : ab_S} {sp rp rp2 : Int → Int} (h : yFa τ υ) (hL : yLd ω sp rp τ) (h1 : ∀ j, 0 ≤ j → j < ω 34 5 → υ 27 j = rp2 j) : yLd ω sp rp2 υ := by
  obtain ⟨hR, hse, hst⟩ := hL
  refine ⟨?_, ?_, fun j j1 j2 => ?_⟩
  · unfold yR
    rw [h.2 1 (by decide) (by decide) (by decide), h.2 2 (by decide) (by decide) (by decide), h.2 4 (by decide) (by decide) (by decide), h.2 5 (by decide) (by decide) (by decide), h.2 6 (by decide) (by decide) (by decide), h.2 7 (by decide) (by decide) (by decide), h.2 46 (by decide) (by decide) (by decide), h.2 47 (by decide) (by decide) (by decide)]
    rw [h.1 3 (by decide) (by decide) (by decide) (by decide) (by decide) (by decide), h.1 5 (by decide) (by decide) (by decide) (by decide) (by decide) (by decide), h.1 7 (by decide) (by decide) (by decide) (by decide) (by decide) (by decide), h.1 8 (by decide) (by decide) (by decide) (by decide) (by decide) (by decide), h.1 9 (by decide) (by decide) (by decide) (by decide) (by decide) (by decide), h.1 10 (by decide) (by decide) (by decide) (by decide) (by decide) (by decide), h.1 21 (by decide) (by decide) (by decide) (by decide) (by decide) (by decide), h.1 22 (by decide) (by decide) (by decide) (by decide) (by decide) (by decide), h.1 23 (by decide) (by decide) (by decide) (by decide) (by decide) (by decide), h.1 24 (by decide) (by decide) (by decide) (by decide) (by decide) (by decide), h.1 25 (by decide) (by decide) (by decide) (by decide) (by decide) (by decide)]
    exact hR
  · rw [h.2 53 (by decide) (by decide) (by decide)]
    exact hse
  · obtain ⟨q1, q2, q3, q4, q5⟩ := hst j j1 j2
    rw [h.1 26 (by decide) (by decide) (by decide) (by decide) (by decide) (by decide), h.1 28 (by decide) (by decide) (by decide) (by decide) (by decide) (by decide), h.1 29 (by decide) (by decide) (by decide) (by decide) (by decide) (by decide), h.1 30 (by decide) (by decide) (by decide) (by decide) (by decide) (by decide)]
    exact ⟨q1, h1 j j1 j2, q3, q4, q5⟩
set_option maxRecDepth 100000 in
set_option maxHeartbeats 4000000 in
theorem y_arePrices {ω τ : ab_S} {sp pr : Int → Int} {x y i j : Int} {K : ab_V → ab_S → Prop} (hJ : zJ ω) (ho : zOk ω sp pr) (hx : 0 ≤ x ∧ x < ω 34 5) (hy : 0 ≤ y ∧ y < ω 34 5) (hwd : τ 0 80 = zwd ω) (hv : ∀ i j, (0 ≤ i ∧ i < zwd ω) → (0 ≤ j ∧ j < zwd ω) → τ 39 (21 * i + j) = zPy ω sp pr x y 0 i j ∧ τ 40 (21 * i + j) = zPy ω sp pr x y 1 i j) (hi : 0 ≤ i ∧ i < zwd ω) (hj : 0 ≤ j ∧ j < zwd ω) (h : ∀ v, (zPr ω sp pr x y i j ∧ v = 1 ∨ ¬ zPr ω sp pr x y i j ∧ v = 0) → K (vI v) τ) : ab_Runs ab_G2 mdX12_arePrices [vR 0, vI i, vI j] τ K := by
  refine ab_runs mwX12_arePrices (by decide +kernel) (Nat.le_of_ble_eq_true rfl) (fun G hG => ?_)
  show G 0 [some (vR 0), some (vI i), some (vI j), none, none] [] _
  have hw := zwd_in hJ
  have v0 := hv i j hi hj
  have b0 := zPy_in (p := 0) hJ ho hx hy hi hj
  have b1 := zPy_in (p := 1) hJ ho hx hy hi hj
  have key : ∀ (k : Nat) (m b : Int), zwd ω - m < k → 0 ≤ m → m ≤ zwd ω → ((∀ l, 0 ≤ l → l < m → zPy ω sp pr x y 0 l j ≤ zPy ω sp pr x y 0 i j ∧ zPy ω sp pr x y 1 i l ≤ zPy ω sp pr x y 1 i j) ∧ b = 1 ∨ ¬ (∀ l, 0 ≤ l → l < m → zPy ω sp pr x y 0 l j ≤ zPy ω sp pr x y 0 i j ∧ zPy ω sp pr x y 1 i l ≤ zPy ω sp pr x y 1 i j) ∧ b = 0) → G 5 [some (vR 0), some (vI i), some (vI j), some (vI b), some (vI m)] [] τ := by
    intro k
    induction k with
    | zero => intro m b h1 h2; omega
    | succ k ih =>
      intro m b h1 h2 h3 hb
      have no : m < zwd ω → ¬ (zPy ω sp pr x y 0 m j ≤ zPy ω sp pr x y 0 i j ∧ zPy ω sp pr x y 1 i m ≤ zPy ω sp pr x y 1 i j) → G 5 [some (vR 0), some (vI i), some (vI j), some (vI 0), some (vI (m + 1))] [] τ := fun q z => ih (m + 1) 0 (by omega) (by omega) (by omega) (Or.inr ⟨fun y => z (y m h2 (by omega)), rfl⟩)
      apply hG [5] 60
      simp only [cq_lt, cq_le, cq_gt, cq_ge, cq_eq, cq_r1, cq_r2, ab_r32, ab_r64, ab_go, ab_stp, wp_z, ab_in, ab_rok, ab_wsum, ab_prm, ab_ret, ab_sw, ab_cd, ab_tg, ab_cat_i, ab_cat_l, ab_cat_r, ab_cl_n, ab_cl_i, ab_cl_l, ab_cl_r, ab_f2_0, ab_f2_1, ab_f4_0, ab_f4_1, ab_f4_2, ab_f4_3, ab_op_s, ab_b1_s, ab_b2_s, ab_l1_s, ab_l2_s, ab_li_s, ab_o1_s, ab_io_s, ab_lo1_s, ab_iio_s, ab_lio_s, ab_cp5_s, ab_d2_l, ab_d2_i, ab_d2_o, ex_iconst, ex_bipush, ex_sipush, ex_lconst, ex_ldc, ex_ldc_w, ex_ldc2_w, ex_iadd, ex_isub, ex_imul, ex_iand, ex_ior, ex_ixor, ex_ishl, ex_ishr, ex_iushr, ex_idiv, ex_irem, ex_ladd, ex_lsub, ex_lmul, ex_lor, ex_ldiv, ex_lrem, ex_lshl, ex_lcmp, ex_ineg, ex_lneg, ex_i2l, ex_l2i, ex_i2b, ex_dup, ex_pop, ex_dup2, ex_goto, ex_tableswitch, ex_aaload, ex_ireturn, ex_lreturn, ex_return_, List.map_cons, List.map_nil, List.sum_cons, List.sum_nil, List.drop_succ_cons, List.drop_zero, List.take_succ_cons, List.take_zero, List.reverse_cons, List.reverse_nil, List.nil_append, List.cons_append, List.length_cons, List.length_nil, true_and, and_true, cond_false, cond_true, Bool.false_or, Bool.or_false, Bool.or_true, Bool.true_or, true_or, or_true, false_or, or_false, if_true, if_false, reduceIte, ite_true, ite_false, implies_true, true_implies, false_implies, forall_const, not_true_eq_false, not_false_eq_true, Nat.reduceAdd, Nat.reduceMul, Nat.reduceSub, Nat.reduceBEq, Nat.reduceEqDiff, Nat.reduceLeDiff, Nat.reduceLT, Int.reduceAdd, Int.reduceSub, Int.reduceMul, Int.reduceNeg, Int.reduceToNat, Int.reduceLE, Int.reduceLT, Int.reduceEq, Int.reduceNe, Int.reduceNatCast, Nat.add_zero, Nat.zero_add, reduceCtorEq, Int.reduceNatCast', wp_c, wp_g, e2_ifCond, e2_if_icmp, ↓bq_t, ↓bq_f, ab_br, ↓ab_b1_s, ↓ab_b2_s, ↓ab_l1_s, ↓ab_l2_s, ↓ab_li_s, ↓ab_o1_s, ↓ab_io_s, ↓ab_lo1_s, ↓ab_iio_s, ↓ab_lio_s, ↓ab_cp5_s, moX12_arePrices, dX12_arePrices_0, dX12_arePrices_1, dis_3, dX12_arePrices_2, dX12_arePrices_3, dis_4, dX12_arePrices_5, dil_4, dX12_arePrices_7, dal_0, dX12_arePrices_8, dg2_12_501_0, dX12_arePrices_11, dX12_arePrices_14, dil_3, dX12_arePrices_15, dX12_arePrices_18, dX12_arePrices_19, dg2_12_146_0, dX12_arePrices_22, dX12_arePrices_24, dX12_arePrices_26, dX12_arePrices_27, dil_2, dX12_arePrices_28, dX12_arePrices_29, dX12_arePrices_30, dX12_arePrices_31, dX12_arePrices_34, dX12_arePrices_36, dil_1, dX12_arePrices_37, dX12_arePrices_38, dX12_arePrices_39, dX12_arePrices_40, dX12_arePrices_41, dX12_arePrices_42, dX12_arePrices_45, dX12_arePrices_46, dg2_12_149_0, dX12_arePrices_49, dX12_arePrices_51, dX12_arePrices_52, dX12_arePrices_53, dX12_arePrices_55, dX12_arePrices_56, dX12_arePrices_57, dX12_arePrices_58, dX12_arePrices_61, dX12_arePrices_63, dX12_arePrices_64, dX12_arePrices_65, dX12_arePrices_66, dX12_arePrices_67, dX12_arePrices_68, dX12_arePrices_69, dX12_arePrices_72, dX12_arePrices_73, dX12_arePrices_76, dX12_arePrices_77, dX12_arePrices_78, dinc_4, dX12_arePrices_81, dX12_arePrices_84, dX12_arePrices_85, dal2_39, dal2_40, hwd]
      repeat' (with_reducible (first | apply And.intro | intro _))
      all_goals first | omega | skip
      · have e : m = zwd ω := by omega
        rw [e] at hb
        exact h b hb
      · rename_i q1 q2
        refine ih (m + 1) 0 (by omega) (by omega) (by omega) (Or.inr ⟨fun y => ?_, rfl⟩)
        rcases hb with ⟨-, z⟩ | ⟨z, -⟩
        · omega
        · exact z (fun l l1 l2 => y l l1 (by omega))
      all_goals (have v1 := (hv m j ⟨h2, by omega⟩ hj).1; have v2 := (hv i m hi ⟨h2, by omega⟩).2; have c0 := zPy_in (p := 0) (i := m) hJ ho hx hy ⟨h2, by omega⟩ hj; have c1 := zPy_in (p := 1) (j := m) hJ ho hx hy hi ⟨h2, by omega⟩)
      all_goals first | omega | exact no (by omega) (by omega) | skip
      refine ih (m + 1) 1 (by omega) (by omega) (by omega) (Or.inl ⟨fun l l1 l2 => ?_, rfl⟩)
      by_cases c : l = m
      · rw [c]
        exact ⟨by omega, by omega⟩
      · rcases hb with ⟨z, -⟩ | ⟨-, z⟩
        · exact z l l1 (by omega)
        · omega
  apply hG [5] 60
  simp only [cq_lt, cq_le, cq_gt, cq_ge, cq_eq, cq_r1, cq_r2, ab_r32, ab_r64, ab_go, ab_stp, wp_z, ab_in, ab_rok, ab_wsum, ab_prm, ab_ret, ab_sw, ab_cd, ab_tg, ab_cat_i, ab_cat_l, ab_cat_r, ab_cl_n, ab_cl_i, ab_cl_l, ab_cl_r, ab_f2_0, ab_f2_1, ab_f4_0, ab_f4_1, ab_f4_2, ab_f4_3, ab_op_s, ab_b1_s, ab_b2_s, ab_l1_s, ab_l2_s, ab_li_s, ab_o1_s, ab_io_s, ab_lo1_s, ab_iio_s, ab_lio_s, ab_cp5_s, ab_d2_l, ab_d2_i, ab_d2_o, ex_iconst, ex_bipush, ex_sipush, ex_lconst, ex_ldc, ex_ldc_w, ex_ldc2_w, ex_iadd, ex_isub, ex_imul, ex_iand, ex_ior, ex_ixor, ex_ishl, ex_ishr, ex_iushr, ex_idiv, ex_irem, ex_ladd, ex_lsub, ex_lmul, ex_lor, ex_ldiv, ex_lrem, ex_lshl, ex_lcmp, ex_ineg, ex_lneg, ex_i2l, ex_l2i, ex_i2b, ex_dup, ex_pop, ex_dup2, ex_goto, ex_tableswitch, ex_aaload, ex_ireturn, ex_lreturn, ex_return_, List.map_cons, List.map_nil, List.sum_cons, List.sum_nil, List.drop_succ_cons, List.drop_zero, List.take_succ_cons, List.take_zero, List.reverse_cons, List.reverse_nil, List.nil_append, List.cons_append, List.length_cons, List.length_nil, true_and, and_true, cond_false, cond_true, Bool.false_or, Bool.or_false, Bool.or_true, Bool.true_or, true_or, or_true, false_or, or_false, if_true, if_false, reduceIte, ite_true, ite_false, implies_true, true_implies, false_implies, forall_const, not_true_eq_false, not_false_eq_true, Nat.reduceAdd, Nat.reduceMul, Nat.reduceSub, Nat.reduceBEq, Nat.reduceEqDiff, Nat.reduceLeDiff, Nat.reduceLT, Int.reduceAdd, Int.reduceSub, Int.reduceMul, Int.reduceNeg, Int.reduceToNat, Int.reduceLE, Int.reduceLT, Int.reduceEq, Int.reduceNe, Int.reduceNatCast, Nat.add_zero, Nat.zero_add, reduceCtorEq, Int.reduceNatCast', wp_c, wp_g, e2_ifCond, e2_if_icmp, ↓bq_t, ↓bq_f, ab_br, ↓ab_b1_s, ↓ab_b2_s, ↓ab_l1_s, ↓ab_l2_s, ↓ab_li_s, ↓ab_o1_s, ↓ab_io_s, ↓ab_lo1_s, ↓ab_iio_s, ↓ab_lio_s, ↓ab_cp5_s, moX12_arePrices, dX12_arePrices_0, dX12_arePrices_1, dis_3, dX12_arePrices_2, dX12_arePrices_3, dis_4, dX12_arePrices_5, dil_4, dX12_arePrices_7, dal_0, dX12_arePrices_8, dg2_12_501_0, dX12_arePrices_11, dX12_arePrices_14, dil_3, dX12_arePrices_15, dX12_arePrices_18, dX12_arePrices_19, dg2_12_146_0, dX12_arePrices_22, dX12_arePrices_24, dX12_arePrices_26, dX12_arePrices_27, dil_2, dX12_arePrices_28, dX12_arePrices_29, dX12_arePrices_30, dX12_arePrices_31, dX12_arePrices_34, dX12_arePrices_36, dil_1, dX12_arePrices_37, dX12_arePrices_38, dX12_arePrices_39, dX12_arePrices_40, dX12_arePrices_41, dX12_arePrices_42, dX12_arePrices_45, dX12_arePrices_46, dg2_12_149_0, dX12_arePrices_49, dX12_arePrices_51, dX12_arePrices_52, dX12_arePrices_53, dX12_arePrices_55, dX12_arePrices_56, dX12_arePrices_57, dX12_arePrices_58, dX12_arePrices_61, dX12_arePrices_63, dX12_arePrices_64, dX12_arePrices_65, dX12_arePrices_66, dX12_arePrices_67, dX12_arePrices_68, dX12_arePrices_69, dX12_arePrices_72, dX12_arePrices_73, dX12_arePrices_76, dX12_arePrices_77, dX12_arePrices_78, dinc_4, dX12_arePrices_81, dX12_arePrices_84, dX12_arePrices_85, dal2_39, dal2_40]
  exact key 22 0 1 (by omega) (by omega) (by omega) (Or.inl ⟨fun l l1 l2 => by omega, rfl⟩)
