-- MODEL: turn, chase
set_option maxRecDepth 100000 in
set_option maxHeartbeats 4000000 in
theorem y_isSeller {τ : ab_S} {x : Int} {K : ab_V → ab_S → Prop} (hx : -2147483648 ≤ x ∧ x ≤ 2147483647) (hn : 0 ≤ τ 0 53 ∧ τ 0 53 ≤ 4) (h : ∀ v, ((0 ≤ x ∧ x < τ 0 53) ∧ v = 1 ∨ ¬ (0 ≤ x ∧ x < τ 0 53) ∧ v = 0) → K (vI v) τ) : ab_Runs ab_G2 mdX12_isSeller [vR 0, vI x] τ K := by
  refine ab_runs mwX12_isSeller (by decide +kernel) (Nat.le_of_ble_eq_true rfl) (fun G hG => ?_)
  show G 0 [some (vR 0), some (vI x)] [] _
  apply hG [9999] 40
  simp only [cq_lt, cq_le, cq_gt, cq_ge, cq_eq, cq_r1, cq_r2, ab_r32, ab_r64, ab_go, ab_stp, wp_z, ab_in, ab_rok, ab_wsum, ab_prm, ab_ret, ab_sw, ab_cd, ab_tg, ab_cat_i, ab_cat_l, ab_cat_r, ab_cl_n, ab_cl_i, ab_cl_l, ab_cl_r, ab_f2_0, ab_f2_1, ab_f4_0, ab_f4_1, ab_f4_2, ab_f4_3, ab_op_s, ab_b1_s, ab_b2_s, ab_l1_s, ab_l2_s, ab_li_s, ab_o1_s, ab_io_s, ab_lo1_s, ab_iio_s, ab_lio_s, ab_cp5_s, ab_d2_l, ab_d2_i, ab_d2_o, ex_iconst, ex_bipush, ex_sipush, ex_lconst, ex_ldc, ex_ldc_w, ex_ldc2_w, ex_iadd, ex_isub, ex_imul, ex_iand, ex_ior, ex_ixor, ex_ishl, ex_ishr, ex_iushr, ex_idiv, ex_irem, ex_ladd, ex_lsub, ex_lmul, ex_lor, ex_ldiv, ex_lrem, ex_lshl, ex_lcmp, ex_ineg, ex_lneg, ex_i2l, ex_l2i, ex_i2b, ex_dup, ex_pop, ex_dup2, ex_goto, ex_tableswitch, ex_aaload, ex_ireturn, ex_lreturn, ex_return_, List.map_cons, List.map_nil, List.sum_cons, List.sum_nil, List.drop_succ_cons, List.drop_zero, List.take_succ_cons, List.take_zero, List.reverse_cons, List.reverse_nil, List.nil_append, List.cons_append, List.length_cons, List.length_nil, true_and, and_true, cond_false, cond_true, Bool.false_or, Bool.or_false, Bool.or_true, Bool.true_or, true_or, or_true, false_or, or_false, if_true, if_false, reduceIte, ite_true, ite_false, implies_true, true_implies, false_implies, forall_const, not_true_eq_false, not_false_eq_true, Nat.reduceAdd, Nat.reduceMul, Nat.reduceSub, Nat.reduceBEq, Nat.reduceEqDiff, Nat.reduceLeDiff, Nat.reduceLT, Int.reduceAdd, Int.reduceSub, Int.reduceMul, Int.reduceNeg, Int.reduceToNat, Int.reduceLE, Int.reduceLT, Int.reduceEq, Int.reduceNe, Int.reduceNatCast, Nat.add_zero, Nat.zero_add, reduceCtorEq, Int.reduceNatCast', wp_c, wp_g, e2_ifCond, e2_if_icmp, ↓bq_t, ↓bq_f, ab_br, ↓ab_b1_s, ↓ab_b2_s, ↓ab_l1_s, ↓ab_l2_s, ↓ab_li_s, ↓ab_o1_s, ↓ab_io_s, ↓ab_lo1_s, ↓ab_iio_s, ↓ab_lio_s, ↓ab_cp5_s, moX12_isSeller, dX12_isSeller_0, dil_1, dX12_isSeller_1, dX12_isSeller_4, dX12_isSeller_5, dal_0, dX12_isSeller_6, dg2_12_329_0, dX12_isSeller_9, dX12_isSeller_12, dX12_isSeller_13, dX12_isSeller_16, dX12_isSeller_17]
  repeat' (with_reducible (first | apply And.intro | intro _))
  all_goals first | omega | exact h _ (by omega)
/-- the raw price behind a move -/
def zTr (ω : ab_S) (rp : Int → Int) (s m : Int) : Int → Int := if ω 39 s = 1 ∧ ω 28 8 = -1 then zu rp s m else rp
theorem zTr_pr {ω : ab_S} {sp rp : Int → Int} {s : Int} : zpr ω (zTr ω rp s (zBm ω sp (zpr ω rp) s)) = zTp ω (zpr ω rp) s (zBm ω sp (zpr ω rp) s) := by
  unfold zTr zTp
  by_cases hp : ω 28 8 = -1
  · by_cases hk : ω 39 s = 1
    · rw [if_pos ⟨hk, hp⟩, if_pos hk, zpr_id hp, zpr_id hp]
    · rw [if_neg (fun z => hk z.1), if_neg hk]
  · rw [if_neg (fun z => hp z.2)]
    by_cases hk : ω 39 s = 1
    · rw [if_pos hk]
      have : zBm ω sp (zpr ω rp) s = zpr ω rp s := by
        rcases (zbf_in (zCd ω sp (zpr ω rp) s) (zG ω sp (zpr ω rp) s) (zNow ω sp (zpr ω rp) s) 420).2 with h | h
        · show (zbf _ _ _ 420).1 = _
          rw [h]
          unfold zNow
          rw [if_pos hk]
        · rcases h with ⟨z, -⟩ | ⟨-, z, -⟩
          · omega
          · exact absurd z hp
      rw [this, zu_self]
    · rw [if_neg hk]
theorem zBm_2 {ω : ab_S} {sp pr : Int → Int} {s : Int} (h : zBm ω sp pr s ≠ zNow ω sp pr s) : ω 39 s = 0 ∨ (ω 39 s = 1 ∧ ω 28 8 = -1) := by
  rcases (zbf_in (zCd ω sp pr s) (zG ω sp pr s) (zNow ω sp pr s) 420).2 with z | z
  · exact absurd z h
  · rcases z with ⟨y, -⟩ | ⟨y, y2, -⟩
    · exact Or.inl y
    · exact Or.inr ⟨y, y2⟩
set_option maxRecDepth 100000 in
set_option maxHeartbeats 4000000 in
theorem y_turn {ω τ : ab_S} {sp rp : Int → Int} {s : Int} {K : ab_V → ab_S → Prop} (hJ : zJ ω) (hK : zK ω) (hL : yLd ω sp rp τ) (ho : zOk ω sp (zpr ω rp)) (hs : 0 ≤ s ∧ s < ω 34 5)
    (h : ∀ υ v, yFq τ υ → yLd ω (zTs ω sp s (zBm ω sp (zpr ω rp) s)) (zTr ω rp s (zBm ω sp (zpr ω rp) s)) υ → (∀ j, j ≠ s → υ 26 j = τ 26 j ∧ υ 27 j = τ 27 j) → ((zBm ω sp (zpr ω rp) s ≠ zNow ω sp (zpr ω rp) s ∧ v = 1) ∨ (zBm ω sp (zpr ω rp) s = zNow ω sp (zpr ω rp) s ∧ v = 0 ∧ υ 26 = τ 26 ∧ υ 27 = τ 27)) → K (vI v) υ) : ab_Runs ab_G2 mdX12_turn [vR 0, vI s] τ K := by
  refine ab_runs mwX12_turn (by decide +kernel) (Nat.le_of_ble_eq_true rfl) (fun G hG => ?_)
  show G 0 [some (vR 0), some (vI s)] [] _
  have hn := hK.1
  obtain ⟨-, hse, hst⟩ := id hL
  obtain ⟨-, -, -, -, hk⟩ := hK.2 s hs.1 hs.2
  have hnow := zTs_now ω sp (zpr ω rp) s
  apply hG [9999] 60
  simp only [cq_lt, cq_le, cq_gt, cq_ge, cq_eq, cq_r1, cq_r2, ab_r32, ab_r64, ab_go, ab_stp, wp_z, ab_in, ab_rok, ab_wsum, ab_prm, ab_ret, ab_sw, ab_cd, ab_tg, ab_cat_i, ab_cat_l, ab_cat_r, ab_cl_n, ab_cl_i, ab_cl_l, ab_cl_r, ab_f2_0, ab_f2_1, ab_f4_0, ab_f4_1, ab_f4_2, ab_f4_3, ab_op_s, ab_b1_s, ab_b2_s, ab_l1_s, ab_l2_s, ab_li_s, ab_o1_s, ab_io_s, ab_lo1_s, ab_iio_s, ab_lio_s, ab_cp5_s, ab_d2_l, ab_d2_i, ab_d2_o, ex_iconst, ex_bipush, ex_sipush, ex_lconst, ex_ldc, ex_ldc_w, ex_ldc2_w, ex_iadd, ex_isub, ex_imul, ex_iand, ex_ior, ex_ixor, ex_ishl, ex_ishr, ex_iushr, ex_idiv, ex_irem, ex_ladd, ex_lsub, ex_lmul, ex_lor, ex_ldiv, ex_lrem, ex_lshl, ex_lcmp, ex_ineg, ex_lneg, ex_i2l, ex_l2i, ex_i2b, ex_dup, ex_pop, ex_dup2, ex_goto, ex_tableswitch, ex_aaload, ex_ireturn, ex_lreturn, ex_return_, List.map_cons, List.map_nil, List.sum_cons, List.sum_nil, List.drop_succ_cons, List.drop_zero, List.take_succ_cons, List.take_zero, List.reverse_cons, List.reverse_nil, List.nil_append, List.cons_append, List.length_cons, List.length_nil, true_and, and_true, cond_false, cond_true, Bool.false_or, Bool.or_false, Bool.or_true, Bool.true_or, true_or, or_true, false_or, or_false, if_true, if_false, reduceIte, ite_true, ite_false, implies_true, true_implies, false_implies, forall_const, not_true_eq_false, not_false_eq_true, Nat.reduceAdd, Nat.reduceMul, Nat.reduceSub, Nat.reduceBEq, Nat.reduceEqDiff, Nat.reduceLeDiff, Nat.reduceLT, Int.reduceAdd, Int.reduceSub, Int.reduceMul, Int.reduceNeg, Int.reduceToNat, Int.reduceLE, Int.reduceLT, Int.reduceEq, Int.reduceNe, Int.reduceNatCast, Nat.add_zero, Nat.zero_add, reduceCtorEq, Int.reduceNatCast', wp_c, wp_g, e2_ifCond, e2_if_icmp, ↓bq_t, ↓bq_f, ab_br, ↓ab_b1_s, ↓ab_b2_s, ↓ab_l1_s, ↓ab_l2_s, ↓ab_li_s, ↓ab_o1_s, ↓ab_io_s, ↓ab_lo1_s, ↓ab_iio_s, ↓ab_lio_s, ↓ab_cp5_s, moX12_turn, dX12_turn_0, dal_0, dX12_turn_1, dil_1, dX12_turn_2, dv2_12_404_0, moX12_isSeller, dX12_turn_5, dX12_turn_8, dX12_turn_9, dX12_turn_10, dX12_turn_11, dX12_turn_12, dv2_12_430_0, moX12_findBest, dX12_turn_15, dX12_turn_16, dg2_12_419_0, dX12_turn_19, dX12_turn_22, dX12_turn_23, dX12_turn_24, dX12_turn_25, dg2_12_119_0, dX12_turn_28, dX12_turn_29, dX12_turn_30, dX12_turn_33, dX12_turn_34, dg2_12_107_0, dX12_turn_37, dX12_turn_38, dX12_turn_39, dg2_12_416_0, dX12_turn_42, dX12_turn_43, dX12_turn_46, dX12_turn_47, dg2_12_110_0, dX12_turn_50, dX12_turn_51, dX12_turn_52, dX12_turn_55, dX12_turn_56, dX12_turn_57, dal2_26, das2_26, dal2_27, das2_27, dal2_30, das2_30]
  repeat' (with_reducible (first | apply And.intro | intro _))
  all_goals first | omega | skip
  refine y_isSeller (by omega) (by omega) (fun v hv => ?_)
  try simp only [cq_lt, cq_le, cq_gt, cq_ge, cq_eq, cq_r1, cq_r2, ab_r32, ab_r64, ab_go, ab_stp, wp_z, ab_in, ab_rok, ab_wsum, ab_prm, ab_ret, ab_sw, ab_cd, ab_tg, ab_cat_i, ab_cat_l, ab_cat_r, ab_cl_n, ab_cl_i, ab_cl_l, ab_cl_r, ab_f2_0, ab_f2_1, ab_f4_0, ab_f4_1, ab_f4_2, ab_f4_3, ab_op_s, ab_b1_s, ab_b2_s, ab_l1_s, ab_l2_s, ab_li_s, ab_o1_s, ab_io_s, ab_lo1_s, ab_iio_s, ab_lio_s, ab_cp5_s, ab_d2_l, ab_d2_i, ab_d2_o, ex_iconst, ex_bipush, ex_sipush, ex_lconst, ex_ldc, ex_ldc_w, ex_ldc2_w, ex_iadd, ex_isub, ex_imul, ex_iand, ex_ior, ex_ixor, ex_ishl, ex_ishr, ex_iushr, ex_idiv, ex_irem, ex_ladd, ex_lsub, ex_lmul, ex_lor, ex_ldiv, ex_lrem, ex_lshl, ex_lcmp, ex_ineg, ex_lneg, ex_i2l, ex_l2i, ex_i2b, ex_dup, ex_pop, ex_dup2, ex_goto, ex_tableswitch, ex_aaload, ex_ireturn, ex_lreturn, ex_return_, List.map_cons, List.map_nil, List.sum_cons, List.sum_nil, List.drop_succ_cons, List.drop_zero, List.take_succ_cons, List.take_zero, List.reverse_cons, List.reverse_nil, List.nil_append, List.cons_append, List.length_cons, List.length_nil, true_and, and_true, cond_false, cond_true, Bool.false_or, Bool.or_false, Bool.or_true, Bool.true_or, true_or, or_true, false_or, or_false, if_true, if_false, reduceIte, ite_true, ite_false, implies_true, true_implies, false_implies, forall_const, not_true_eq_false, not_false_eq_true, Nat.reduceAdd, Nat.reduceMul, Nat.reduceSub, Nat.reduceBEq, Nat.reduceEqDiff, Nat.reduceLeDiff, Nat.reduceLT, Int.reduceAdd, Int.reduceSub, Int.reduceMul, Int.reduceNeg, Int.reduceToNat, Int.reduceLE, Int.reduceLT, Int.reduceEq, Int.reduceNe, Int.reduceNatCast, Nat.add_zero, Nat.zero_add, reduceCtorEq, Int.reduceNatCast', wp_c, wp_g, e2_ifCond, e2_if_icmp, ↓bq_t, ↓bq_f, ab_br, ↓ab_b1_s, ↓ab_b2_s, ↓ab_l1_s, ↓ab_l2_s, ↓ab_li_s, ↓ab_o1_s, ↓ab_io_s, ↓ab_lo1_s, ↓ab_iio_s, ↓ab_lio_s, ↓ab_cp5_s, moX12_turn, dX12_turn_0, dal_0, dX12_turn_1, dil_1, dX12_turn_2, dv2_12_404_0, moX12_isSeller, dX12_turn_5, dX12_turn_8, dX12_turn_9, dX12_turn_10, dX12_turn_11, dX12_turn_12, dv2_12_430_0, moX12_findBest, dX12_turn_15, dX12_turn_16, dg2_12_419_0, dX12_turn_19, dX12_turn_22, dX12_turn_23, dX12_turn_24, dX12_turn_25, dg2_12_119_0, dX12_turn_28, dX12_turn_29, dX12_turn_30, dX12_turn_33, dX12_turn_34, dg2_12_107_0, dX12_turn_37, dX12_turn_38, dX12_turn_39, dg2_12_416_0, dX12_turn_42, dX12_turn_43, dX12_turn_46, dX12_turn_47, dg2_12_110_0, dX12_turn_50, dX12_turn_51, dX12_turn_52, dX12_turn_55, dX12_turn_56, dX12_turn_57, dal2_26, das2_26, dal2_27, das2_27, dal2_30, das2_30]
  repeat' (with_reducible (first | apply And.intro | intro _))
  all_goals first | omega | skip
  rename_i hv1
  refine y_findBest hJ hK hL ho hs (fun υ a b c d e f => ?_)
  have e30 : υ 30 s = ω 39 s := by
    rw [a.1 30 (by decide) (by decide) (by decide) (by decide) (by decide)]
    exact (hst s hs.1 hs.2).2.2.2.2
  try simp only [cq_lt, cq_le, cq_gt, cq_ge, cq_eq, cq_r1, cq_r2, ab_r32, ab_r64, ab_go, ab_stp, wp_z, ab_in, ab_rok, ab_wsum, ab_prm, ab_ret, ab_sw, ab_cd, ab_tg, ab_cat_i, ab_cat_l, ab_cat_r, ab_cl_n, ab_cl_i, ab_cl_l, ab_cl_r, ab_f2_0, ab_f2_1, ab_f4_0, ab_f4_1, ab_f4_2, ab_f4_3, ab_op_s, ab_b1_s, ab_b2_s, ab_l1_s, ab_l2_s, ab_li_s, ab_o1_s, ab_io_s, ab_lo1_s, ab_iio_s, ab_lio_s, ab_cp5_s, ab_d2_l, ab_d2_i, ab_d2_o, ex_iconst, ex_bipush, ex_sipush, ex_lconst, ex_ldc, ex_ldc_w, ex_ldc2_w, ex_iadd, ex_isub, ex_imul, ex_iand, ex_ior, ex_ixor, ex_ishl, ex_ishr, ex_iushr, ex_idiv, ex_irem, ex_ladd, ex_lsub, ex_lmul, ex_lor, ex_ldiv, ex_lrem, ex_lshl, ex_lcmp, ex_ineg, ex_lneg, ex_i2l, ex_l2i, ex_i2b, ex_dup, ex_pop, ex_dup2, ex_goto, ex_tableswitch, ex_aaload, ex_ireturn, ex_lreturn, ex_return_, List.map_cons, List.map_nil, List.sum_cons, List.sum_nil, List.drop_succ_cons, List.drop_zero, List.take_succ_cons, List.take_zero, List.reverse_cons, List.reverse_nil, List.nil_append, List.cons_append, List.length_cons, List.length_nil, true_and, and_true, cond_false, cond_true, Bool.false_or, Bool.or_false, Bool.or_true, Bool.true_or, true_or, or_true, false_or, or_false, if_true, if_false, reduceIte, ite_true, ite_false, implies_true, true_implies, false_implies, forall_const, not_true_eq_false, not_false_eq_true, Nat.reduceAdd, Nat.reduceMul, Nat.reduceSub, Nat.reduceBEq, Nat.reduceEqDiff, Nat.reduceLeDiff, Nat.reduceLT, Int.reduceAdd, Int.reduceSub, Int.reduceMul, Int.reduceNeg, Int.reduceToNat, Int.reduceLE, Int.reduceLT, Int.reduceEq, Int.reduceNe, Int.reduceNatCast, Nat.add_zero, Nat.zero_add, reduceCtorEq, Int.reduceNatCast', wp_c, wp_g, e2_ifCond, e2_if_icmp, ↓bq_t, ↓bq_f, ab_br, ↓ab_b1_s, ↓ab_b2_s, ↓ab_l1_s, ↓ab_l2_s, ↓ab_li_s, ↓ab_o1_s, ↓ab_io_s, ↓ab_lo1_s, ↓ab_iio_s, ↓ab_lio_s, ↓ab_cp5_s, moX12_turn, dX12_turn_0, dal_0, dX12_turn_1, dil_1, dX12_turn_2, dv2_12_404_0, moX12_isSeller, dX12_turn_5, dX12_turn_8, dX12_turn_9, dX12_turn_10, dX12_turn_11, dX12_turn_12, dv2_12_430_0, moX12_findBest, dX12_turn_15, dX12_turn_16, dg2_12_419_0, dX12_turn_19, dX12_turn_22, dX12_turn_23, dX12_turn_24, dX12_turn_25, dg2_12_119_0, dX12_turn_28, dX12_turn_29, dX12_turn_30, dX12_turn_33, dX12_turn_34, dg2_12_107_0, dX12_turn_37, dX12_turn_38, dX12_turn_39, dg2_12_416_0, dX12_turn_42, dX12_turn_43, dX12_turn_46, dX12_turn_47, dg2_12_110_0, dX12_turn_50, dX12_turn_51, dX12_turn_52, dX12_turn_55, dX12_turn_56, dX12_turn_57, dal2_26, das2_26, dal2_27, das2_27, dal2_30, das2_30, e30, d]
  repeat' (with_reducible (first | apply And.intro | intro _))
  all_goals first | omega | skip
  · rename_i q1 q2
    -- kind 1
    have hr : zBm ω sp (zpr ω rp) s ≠ zNow ω sp (zpr ω rp) s := by
      rcases f with ⟨y, -⟩ | ⟨-, y⟩
      · exact y
      · exact absurd y q1
    have hk1 : ω 39 s = 1 ∧ ω 28 8 = -1 := by
      rcases zBm_2 hr with z | z
      · exact absurd z q2
      · exact z
    refine h _ 1 (yFq_trans a ⟨fun o _ _ o3 _ _ => ab_up_o o o3, fun _ _ _ _ _ => rfl⟩) ?_ (fun j j1 => ⟨by show υ 26 j = _; rw [b], ?_⟩) (Or.inl ⟨hr, rfl⟩)
    · refine yLd_q (yFq_trans a ⟨fun o _ _ o3 _ _ => ab_up_o o o3, fun _ _ _ _ _ => rfl⟩) hL (fun j j1 j2 => ?_) (fun j j1 j2 => ?_)
      · show υ 26 j = _
        unfold zTs
        rw [if_pos hk1.1, b]
        exact (hst j j1 j2).1
      · show (if j = s then _ else υ 27 j) = _
        unfold zTr zu
        rw [if_pos hk1, c]
        split
        · rfl
        · exact (hst j j1 j2).2.1
    · show (if j = s then _ else υ 27 j) = _
      rw [if_neg j1, c]
  · rename_i q1 q2
    have hr : zBm ω sp (zpr ω rp) s ≠ zNow ω sp (zpr ω rp) s := by
      rcases f with ⟨y, -⟩ | ⟨-, y⟩
      · exact y
      · exact absurd y q1
    refine h _ 1 (yFq_trans a ⟨fun o _ o2 _ _ _ => ab_up_o o o2, fun _ _ _ _ _ => rfl⟩) ?_ (fun j j1 => ⟨?_, by show υ 27 j = _; rw [c]⟩) (Or.inl ⟨hr, rfl⟩)
    · refine yLd_q (yFq_trans a ⟨fun o _ o2 _ _ _ => ab_up_o o o2, fun _ _ _ _ _ => rfl⟩) hL (fun j j1 j2 => ?_) (fun j j1 j2 => ?_)
      · show (if j = s then _ else υ 26 j) = _
        unfold zTs
        rw [if_neg (show ¬ ω 39 s = 1 by omega), b]
        unfold zu
        split
        · rfl
        · exact (hst j j1 j2).1
      · show υ 27 j = _
        unfold zTr
        rw [if_neg (by omega), c]
        exact (hst j j1 j2).2.1
    · show (if j = s then _ else υ 26 j) = _
      rw [if_neg j1, b]
  · rename_i q1
    have hr : zBm ω sp (zpr ω rp) s = zNow ω sp (zpr ω rp) s := by
      rcases f with ⟨-, y⟩ | ⟨y, -⟩
      · omega
      · exact y
    refine h υ 0 a ?_ (fun j j1 => by rw [b, c]; exact ⟨rfl, rfl⟩) (Or.inr ⟨hr, rfl, b, c⟩)
    refine yLd_q a hL (fun j j1 j2 => ?_) (fun j j1 j2 => ?_)
    · rw [hr, hnow.1, b]
      exact (hst j j1 j2).1
    · rw [c, hr]
      unfold zTr
      split
      · rename_i hz
        unfold zNow
        rw [if_pos hz.1, zpr_id hz.2, zu_self]
        exact (hst j j1 j2).2.1
      · exact (hst j j1 j2).2.1
set_option maxRecDepth 100000 in
set_option maxHeartbeats 4000000 in
theorem y_notes {τ : ab_S} {r : Int} {K : ab_V → ab_S → Prop} (hr : 0 ≤ r ∧ r ≤ 60) (h : ∀ f g, (∀ j, 0 ≤ j → j < 4 → f (4 * r + j) = τ 26 j ∧ g (4 * r + j) = τ 27 j) → (∀ i, ¬ (4 * r ≤ i ∧ i < 4 * r + 4) → f i = τ 33 i ∧ g i = τ 34 i) → K (vI 0) (ab_set (ab_set τ 33 f) 34 g)) : ab_Runs ab_G2 mdX12_notes [vR 0, vI r] τ K := by
  refine ab_runs mwX12_notes (by decide +kernel) (Nat.le_of_ble_eq_true rfl) (fun G hG => ?_)
  show G 0 [some (vR 0), some (vI r), none] [] _
  have key : ∀ (k : Nat) (i : Int) (f g : Int → Int), 4 - i < k → 0 ≤ i → i ≤ 4 → (∀ j, 0 ≤ j → j < i → f (4 * r + j) = τ 26 j ∧ g (4 * r + j) = τ 27 j) → (∀ i, ¬ (4 * r ≤ i ∧ i < 4 * r + 4) → f i = τ 33 i ∧ g i = τ 34 i) → G 2 [some (vR 0), some (vI r), some (vI i)] [] (ab_set (ab_set τ 33 f) 34 g) := by
    intro k
    induction k with
    | zero => intro i f g h1 h2; omega
    | succ k ih =>
      intro i f g h1 h2 h3 a b
      have e1 : ab_set (ab_set τ 33 f) 34 g 26 = τ 26 := rfl
      have e2 : ab_up (ab_set (ab_set τ 33 f) 34 g) 33 (4 * r + i) (τ 26 i) 27 = τ 27 := rfl
      apply hG [2] 60
      simp only [cq_lt, cq_le, cq_gt, cq_ge, cq_eq, cq_r1, cq_r2, ab_r32, ab_r64, ab_go, ab_stp, wp_z, ab_in, ab_rok, ab_wsum, ab_prm, ab_ret, ab_sw, ab_cd, ab_tg, ab_cat_i, ab_cat_l, ab_cat_r, ab_cl_n, ab_cl_i, ab_cl_l, ab_cl_r, ab_f2_0, ab_f2_1, ab_f4_0, ab_f4_1, ab_f4_2, ab_f4_3, ab_op_s, ab_b1_s, ab_b2_s, ab_l1_s, ab_l2_s, ab_li_s, ab_o1_s, ab_io_s, ab_lo1_s, ab_iio_s, ab_lio_s, ab_cp5_s, ab_d2_l, ab_d2_i, ab_d2_o, ex_iconst, ex_bipush, ex_sipush, ex_lconst, ex_ldc, ex_ldc_w, ex_ldc2_w, ex_iadd, ex_isub, ex_imul, ex_iand, ex_ior, ex_ixor, ex_ishl, ex_ishr, ex_iushr, ex_idiv, ex_irem, ex_ladd, ex_lsub, ex_lmul, ex_lor, ex_ldiv, ex_lrem, ex_lshl, ex_lcmp, ex_ineg, ex_lneg, ex_i2l, ex_l2i, ex_i2b, ex_dup, ex_pop, ex_dup2, ex_goto, ex_tableswitch, ex_aaload, ex_ireturn, ex_lreturn, ex_return_, List.map_cons, List.map_nil, List.sum_cons, List.sum_nil, List.drop_succ_cons, List.drop_zero, List.take_succ_cons, List.take_zero, List.reverse_cons, List.reverse_nil, List.nil_append, List.cons_append, List.length_cons, List.length_nil, true_and, and_true, cond_false, cond_true, Bool.false_or, Bool.or_false, Bool.or_true, Bool.true_or, true_or, or_true, false_or, or_false, if_true, if_false, reduceIte, ite_true, ite_false, implies_true, true_implies, false_implies, forall_const, not_true_eq_false, not_false_eq_true, Nat.reduceAdd, Nat.reduceMul, Nat.reduceSub, Nat.reduceBEq, Nat.reduceEqDiff, Nat.reduceLeDiff, Nat.reduceLT, Int.reduceAdd, Int.reduceSub, Int.reduceMul, Int.reduceNeg, Int.reduceToNat, Int.reduceLE, Int.reduceLT, Int.reduceEq, Int.reduceNe, Int.reduceNatCast, Nat.add_zero, Nat.zero_add, reduceCtorEq, Int.reduceNatCast', wp_c, wp_g, e2_ifCond, e2_if_icmp, ↓bq_t, ↓bq_f, ab_br, ↓ab_b1_s, ↓ab_b2_s, ↓ab_l1_s, ↓ab_l2_s, ↓ab_li_s, ↓ab_o1_s, ↓ab_io_s, ↓ab_lo1_s, ↓ab_iio_s, ↓ab_lio_s, ↓ab_cp5_s, moX12_notes, dX12_notes_0, dX12_notes_1, dis_2, dX12_notes_2, dil_2, dX12_notes_3, dX12_notes_4, dX12_notes_7, dal_0, dX12_notes_8, dg2_12_128_0, dX12_notes_11, dX12_notes_12, dil_1, dX12_notes_13, dX12_notes_14, dX12_notes_15, dX12_notes_16, dX12_notes_17, dg2_12_107_0, dX12_notes_20, dX12_notes_21, dX12_notes_22, dX12_notes_23, dX12_notes_24, dg2_12_131_0, dX12_notes_27, dX12_notes_28, dX12_notes_29, dX12_notes_30, dX12_notes_31, dX12_notes_32, dX12_notes_33, dg2_12_110_0, dX12_notes_36, dX12_notes_37, dX12_notes_38, dX12_notes_39, dinc_2, dX12_notes_42, dX12_notes_45, dal2_26, das2_26, dal2_27, das2_27, dal2_33, das2_33, dal2_34, das2_34, e1, e2]
      repeat' (with_reducible (first | apply And.intro | intro _))
      all_goals first | omega | skip
      · exact h f g (fun j j1 j2 => a j j1 (by omega)) b
      · have e3 : ab_up (ab_up (ab_set (ab_set τ 33 f) 34 g) 33 (4 * r + i) (τ 26 i)) 34 (4 * r + i) (τ 27 i) = ab_set (ab_set τ 33 (zu f (4 * r + i) (τ 26 i))) 34 (zu g (4 * r + i) (τ 27 i)) := by
          funext o
          funext k
          unfold ab_up ab_set zu
          by_cases c1 : o = 34 <;> by_cases c2 : o = 33 <;> simp [c1, c2] <;> omega
        rw [e3]
        refine ih (i + 1) _ _ (by omega) (by omega) (by omega) (fun j j1 j2 => ?_) (fun l l1 => ?_)
        · by_cases c : j = i
          · rw [c, zu_at, zu_at]
            exact ⟨rfl, rfl⟩
          · rw [zu_ne _ _ (by omega), zu_ne _ _ (by omega)]
            exact a j j1 (by omega)
        · rw [zu_ne _ _ (by omega), zu_ne _ _ (by omega)]
          exact b l l1
  apply hG [2] 60
  simp only [cq_lt, cq_le, cq_gt, cq_ge, cq_eq, cq_r1, cq_r2, ab_r32, ab_r64, ab_go, ab_stp, wp_z, ab_in, ab_rok, ab_wsum, ab_prm, ab_ret, ab_sw, ab_cd, ab_tg, ab_cat_i, ab_cat_l, ab_cat_r, ab_cl_n, ab_cl_i, ab_cl_l, ab_cl_r, ab_f2_0, ab_f2_1, ab_f4_0, ab_f4_1, ab_f4_2, ab_f4_3, ab_op_s, ab_b1_s, ab_b2_s, ab_l1_s, ab_l2_s, ab_li_s, ab_o1_s, ab_io_s, ab_lo1_s, ab_iio_s, ab_lio_s, ab_cp5_s, ab_d2_l, ab_d2_i, ab_d2_o, ex_iconst, ex_bipush, ex_sipush, ex_lconst, ex_ldc, ex_ldc_w, ex_ldc2_w, ex_iadd, ex_isub, ex_imul, ex_iand, ex_ior, ex_ixor, ex_ishl, ex_ishr, ex_iushr, ex_idiv, ex_irem, ex_ladd, ex_lsub, ex_lmul, ex_lor, ex_ldiv, ex_lrem, ex_lshl, ex_lcmp, ex_ineg, ex_lneg, ex_i2l, ex_l2i, ex_i2b, ex_dup, ex_pop, ex_dup2, ex_goto, ex_tableswitch, ex_aaload, ex_ireturn, ex_lreturn, ex_return_, List.map_cons, List.map_nil, List.sum_cons, List.sum_nil, List.drop_succ_cons, List.drop_zero, List.take_succ_cons, List.take_zero, List.reverse_cons, List.reverse_nil, List.nil_append, List.cons_append, List.length_cons, List.length_nil, true_and, and_true, cond_false, cond_true, Bool.false_or, Bool.or_false, Bool.or_true, Bool.true_or, true_or, or_true, false_or, or_false, if_true, if_false, reduceIte, ite_true, ite_false, implies_true, true_implies, false_implies, forall_const, not_true_eq_false, not_false_eq_true, Nat.reduceAdd, Nat.reduceMul, Nat.reduceSub, Nat.reduceBEq, Nat.reduceEqDiff, Nat.reduceLeDiff, Nat.reduceLT, Int.reduceAdd, Int.reduceSub, Int.reduceMul, Int.reduceNeg, Int.reduceToNat, Int.reduceLE, Int.reduceLT, Int.reduceEq, Int.reduceNe, Int.reduceNatCast, Nat.add_zero, Nat.zero_add, reduceCtorEq, Int.reduceNatCast', wp_c, wp_g, e2_ifCond, e2_if_icmp, ↓bq_t, ↓bq_f, ab_br, ↓ab_b1_s, ↓ab_b2_s, ↓ab_l1_s, ↓ab_l2_s, ↓ab_li_s, ↓ab_o1_s, ↓ab_io_s, ↓ab_lo1_s, ↓ab_iio_s, ↓ab_lio_s, ↓ab_cp5_s, moX12_notes, dX12_notes_0, dX12_notes_1, dis_2, dX12_notes_2, dil_2, dX12_notes_3, dX12_notes_4, dX12_notes_7, dal_0, dX12_notes_8, dg2_12_128_0, dX12_notes_11, dX12_notes_12, dil_1, dX12_notes_13, dX12_notes_14, dX12_notes_15, dX12_notes_16, dX12_notes_17, dg2_12_107_0, dX12_notes_20, dX12_notes_21, dX12_notes_22, dX12_notes_23, dX12_notes_24, dg2_12_131_0, dX12_notes_27, dX12_notes_28, dX12_notes_29, dX12_notes_30, dX12_notes_31, dX12_notes_32, dX12_notes_33, dg2_12_110_0, dX12_notes_36, dX12_notes_37, dX12_notes_38, dX12_notes_39, dinc_2, dX12_notes_42, dX12_notes_45, dal2_26, das2_26, dal2_27, das2_27, dal2_33, das2_33, dal2_34, das2_34]
  have := key 5 0 (τ 33) (τ 34) (by omega) (by omega) (by omega) (fun j j1 j2 => by omega) (fun _ _ => ⟨rfl, rfl⟩)
  have e : ab_set (ab_set τ 33 (τ 33)) 34 (τ 34) = τ := by
    funext o
    unfold ab_set
    by_cases c1 : o = 34 <;> by_cases c2 : o = 33 <;> simp [c1, c2]
  rw [e] at this
  exact this
set_option maxRecDepth 100000 in
set_option maxHeartbeats 4000000 in
theorem y_isAs {τ : ab_S} {r : Int} {K : ab_V → ab_S → Prop} (hr : 0 ≤ r ∧ r ≤ 60) (hn : 0 ≤ τ 0 53 ∧ τ 0 53 ≤ 4) (hv : ∀ j, 0 ≤ j → j < τ 0 53 → (-1000 ≤ τ 33 (4 * r + j) ∧ τ 33 (4 * r + j) ≤ 1000) ∧ (-1000 ≤ τ 34 (4 * r + j) ∧ τ 34 (4 * r + j) ≤ 1000) ∧ (-1000 ≤ τ 26 j ∧ τ 26 j ≤ 1000) ∧ (-1000 ≤ τ 27 j ∧ τ 27 j ≤ 1000)) (h : ∀ v, ((∀ j, 0 ≤ j → j < τ 0 53 → τ 33 (4 * r + j) = τ 26 j ∧ τ 34 (4 * r + j) = τ 27 j) ∧ v = 1 ∨ ¬ (∀ j, 0 ≤ j → j < τ 0 53 → τ 33 (4 * r + j) = τ 26 j ∧ τ 34 (4 * r + j) = τ 27 j) ∧ v = 0) → K (vI v) τ) : ab_Runs ab_G2 mdX12_isAs [vR 0, vI r] τ K := by
  refine ab_runs mwX12_isAs (by decide +kernel) (Nat.le_of_ble_eq_true rfl) (fun G hG => ?_)
  show G 0 [some (vR 0), some (vI r), none, none] [] _
  have key : ∀ (k : Nat) (i b : Int), τ 0 53 - i < k → 0 ≤ i → i ≤ τ 0 53 → ((∀ j, 0 ≤ j → j < i → τ 33 (4 * r + j) = τ 26 j ∧ τ 34 (4 * r + j) = τ 27 j) ∧ b = 1 ∨ ¬ (∀ j, 0 ≤ j → j < i → τ 33 (4 * r + j) = τ 26 j ∧ τ 34 (4 * r + j) = τ 27 j) ∧ b = 0) → G 4 [some (vR 0), some (vI r), some (vI b), some (vI i)] [] τ := by
    intro k
    induction k with
    | zero => intro i b h1 h2; omega
    | succ k ih =>
      intro i b h1 h2 h3 hb
      have no : i < τ 0 53 → ¬ (τ 33 (4 * r + i) = τ 26 i ∧ τ 34 (4 * r + i) = τ 27 i) → G 4 [some (vR 0), some (vI r), some (vI 0), some (vI (i + 1))] [] τ := fun q z => ih (i + 1) 0 (by omega) (by omega) (by omega) (Or.inr ⟨fun y => z (y i h2 (by omega)), rfl⟩)
      apply hG [4] 60
      simp only [cq_lt, cq_le, cq_gt, cq_ge, cq_eq, cq_r1, cq_r2, ab_r32, ab_r64, ab_go, ab_stp, wp_z, ab_in, ab_rok, ab_wsum, ab_prm, ab_ret, ab_sw, ab_cd, ab_tg, ab_cat_i, ab_cat_l, ab_cat_r, ab_cl_n, ab_cl_i, ab_cl_l, ab_cl_r, ab_f2_0, ab_f2_1, ab_f4_0, ab_f4_1, ab_f4_2, ab_f4_3, ab_op_s, ab_b1_s, ab_b2_s, ab_l1_s, ab_l2_s, ab_li_s, ab_o1_s, ab_io_s, ab_lo1_s, ab_iio_s, ab_lio_s, ab_cp5_s, ab_d2_l, ab_d2_i, ab_d2_o, ex_iconst, ex_bipush, ex_sipush, ex_lconst, ex_ldc, ex_ldc_w, ex_ldc2_w, ex_iadd, ex_isub, ex_imul, ex_iand, ex_ior, ex_ixor, ex_ishl, ex_ishr, ex_iushr, ex_idiv, ex_irem, ex_ladd, ex_lsub, ex_lmul, ex_lor, ex_ldiv, ex_lrem, ex_lshl, ex_lcmp, ex_ineg, ex_lneg, ex_i2l, ex_l2i, ex_i2b, ex_dup, ex_pop, ex_dup2, ex_goto, ex_tableswitch, ex_aaload, ex_ireturn, ex_lreturn, ex_return_, List.map_cons, List.map_nil, List.sum_cons, List.sum_nil, List.drop_succ_cons, List.drop_zero, List.take_succ_cons, List.take_zero, List.reverse_cons, List.reverse_nil, List.nil_append, List.cons_append, List.length_cons, List.length_nil, true_and, and_true, cond_false, cond_true, Bool.false_or, Bool.or_false, Bool.or_true, Bool.true_or, true_or, or_true, false_or, or_false, if_true, if_false, reduceIte, ite_true, ite_false, implies_true, true_implies, false_implies, forall_const, not_true_eq_false, not_false_eq_true, Nat.reduceAdd, Nat.reduceMul, Nat.reduceSub, Nat.reduceBEq, Nat.reduceEqDiff, Nat.reduceLeDiff, Nat.reduceLT, Int.reduceAdd, Int.reduceSub, Int.reduceMul, Int.reduceNeg, Int.reduceToNat, Int.reduceLE, Int.reduceLT, Int.reduceEq, Int.reduceNe, Int.reduceNatCast, Nat.add_zero, Nat.zero_add, reduceCtorEq, Int.reduceNatCast', wp_c, wp_g, e2_ifCond, e2_if_icmp, ↓bq_t, ↓bq_f, ab_br, ↓ab_b1_s, ↓ab_b2_s, ↓ab_l1_s, ↓ab_l2_s, ↓ab_li_s, ↓ab_o1_s, ↓ab_io_s, ↓ab_lo1_s, ↓ab_iio_s, ↓ab_lio_s, ↓ab_cp5_s, moX12_isAs, dX12_isAs_0, dX12_isAs_1, dis_2, dX12_isAs_2, dX12_isAs_3, dis_3, dX12_isAs_4, dil_3, dX12_isAs_5, dal_0, dX12_isAs_6, dg2_12_329_0, dX12_isAs_9, dX12_isAs_12, dil_2, dX12_isAs_13, dX12_isAs_16, dX12_isAs_17, dg2_12_128_0, dX12_isAs_20, dX12_isAs_21, dil_1, dX12_isAs_22, dX12_isAs_23, dX12_isAs_24, dX12_isAs_25, dX12_isAs_26, dX12_isAs_27, dg2_12_107_0, dX12_isAs_30, dX12_isAs_31, dX12_isAs_32, dX12_isAs_35, dX12_isAs_36, dg2_12_131_0, dX12_isAs_39, dX12_isAs_40, dX12_isAs_41, dX12_isAs_42, dX12_isAs_43, dX12_isAs_44, dX12_isAs_45, dX12_isAs_46, dg2_12_110_0, dX12_isAs_49, dX12_isAs_50, dX12_isAs_51, dX12_isAs_54, dX12_isAs_55, dX12_isAs_58, dX12_isAs_59, dX12_isAs_60, dinc_3, dX12_isAs_63, dX12_isAs_66, dX12_isAs_67, dal2_26, dal2_27, dal2_33, dal2_34]
      repeat' (with_reducible (first | apply And.intro | intro _))
      all_goals first | omega | skip
      · have e : i = τ 0 53 := by omega
        rw [e] at hb
        exact h b hb
      all_goals (have q := hv i h2 (by omega))
      all_goals first | omega | skip
      · rename_i q1 q2
        refine ih (i + 1) 0 (by omega) (by omega) (by omega) (Or.inr ⟨fun y => ?_, rfl⟩)
        rcases hb with ⟨-, z⟩ | ⟨z, -⟩
        · omega
        · exact z (fun j j1 j2 => y j j1 (by omega))
      · rename_i q1 q2 q3
        exact no (by omega) (fun z => q3 z.1)
      · rename_i q1 q2 q3 q4
        exact no (by omega) (fun z => q4 z.2)
      · rename_i q1 q2 q3 q4
        refine ih (i + 1) 1 (by omega) (by omega) (by omega) (Or.inl ⟨fun j j1 j2 => ?_, rfl⟩)
        by_cases c : j = i
        · rw [c]
          exact ⟨by omega, by omega⟩
        · rcases hb with ⟨z, -⟩ | ⟨-, z⟩
          · exact z j j1 (by omega)
          · omega
  apply hG [4] 60
  simp only [cq_lt, cq_le, cq_gt, cq_ge, cq_eq, cq_r1, cq_r2, ab_r32, ab_r64, ab_go, ab_stp, wp_z, ab_in, ab_rok, ab_wsum, ab_prm, ab_ret, ab_sw, ab_cd, ab_tg, ab_cat_i, ab_cat_l, ab_cat_r, ab_cl_n, ab_cl_i, ab_cl_l, ab_cl_r, ab_f2_0, ab_f2_1, ab_f4_0, ab_f4_1, ab_f4_2, ab_f4_3, ab_op_s, ab_b1_s, ab_b2_s, ab_l1_s, ab_l2_s, ab_li_s, ab_o1_s, ab_io_s, ab_lo1_s, ab_iio_s, ab_lio_s, ab_cp5_s, ab_d2_l, ab_d2_i, ab_d2_o, ex_iconst, ex_bipush, ex_sipush, ex_lconst, ex_ldc, ex_ldc_w, ex_ldc2_w, ex_iadd, ex_isub, ex_imul, ex_iand, ex_ior, ex_ixor, ex_ishl, ex_ishr, ex_iushr, ex_idiv, ex_irem, ex_ladd, ex_lsub, ex_lmul, ex_lor, ex_ldiv, ex_lrem, ex_lshl, ex_lcmp, ex_ineg, ex_lneg, ex_i2l, ex_l2i, ex_i2b, ex_dup, ex_pop, ex_dup2, ex_goto, ex_tableswitch, ex_aaload, ex_ireturn, ex_lreturn, ex_return_, List.map_cons, List.map_nil, List.sum_cons, List.sum_nil, List.drop_succ_cons, List.drop_zero, List.take_succ_cons, List.take_zero, List.reverse_cons, List.reverse_nil, List.nil_append, List.cons_append, List.length_cons, List.length_nil, true_and, and_true, cond_false, cond_true, Bool.false_or, Bool.or_false, Bool.or_true, Bool.true_or, true_or, or_true, false_or, or_false, if_true, if_false, reduceIte, ite_true, ite_false, implies_true, true_implies, false_implies, forall_const, not_true_eq_false, not_false_eq_true, Nat.reduceAdd, Nat.reduceMul, Nat.reduceSub, Nat.reduceBEq, Nat.reduceEqDiff, Nat.reduceLeDiff, Nat.reduceLT, Int.reduceAdd, Int.reduceSub, Int.reduceMul, Int.reduceNeg, Int.reduceToNat, Int.reduceLE, Int.reduceLT, Int.reduceEq, Int.reduceNe, Int.reduceNatCast, Nat.add_zero, Nat.zero_add, reduceCtorEq, Int.reduceNatCast', wp_c, wp_g, e2_ifCond, e2_if_icmp, ↓bq_t, ↓bq_f, ab_br, ↓ab_b1_s, ↓ab_b2_s, ↓ab_l1_s, ↓ab_l2_s, ↓ab_li_s, ↓ab_o1_s, ↓ab_io_s, ↓ab_lo1_s, ↓ab_iio_s, ↓ab_lio_s, ↓ab_cp5_s, moX12_isAs, dX12_isAs_0, dX12_isAs_1, dis_2, dX12_isAs_2, dX12_isAs_3, dis_3, dX12_isAs_4, dil_3, dX12_isAs_5, dal_0, dX12_isAs_6, dg2_12_329_0, dX12_isAs_9, dX12_isAs_12, dil_2, dX12_isAs_13, dX12_isAs_16, dX12_isAs_17, dg2_12_128_0, dX12_isAs_20, dX12_isAs_21, dil_1, dX12_isAs_22, dX12_isAs_23, dX12_isAs_24, dX12_isAs_25, dX12_isAs_26, dX12_isAs_27, dg2_12_107_0, dX12_isAs_30, dX12_isAs_31, dX12_isAs_32, dX12_isAs_35, dX12_isAs_36, dg2_12_131_0, dX12_isAs_39, dX12_isAs_40, dX12_isAs_41, dX12_isAs_42, dX12_isAs_43, dX12_isAs_44, dX12_isAs_45, dX12_isAs_46, dg2_12_110_0, dX12_isAs_49, dX12_isAs_50, dX12_isAs_51, dX12_isAs_54, dX12_isAs_55, dX12_isAs_58, dX12_isAs_59, dX12_isAs_60, dinc_3, dX12_isAs_63, dX12_isAs_66, dX12_isAs_67, dal2_26, dal2_27, dal2_33, dal2_34]
  exact key 5 0 1 (by omega) (by omega) (by omega) (Or.inl ⟨fun j j1 j2 => by omega, rfl⟩)
