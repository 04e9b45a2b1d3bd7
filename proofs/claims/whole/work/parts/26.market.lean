-- CLASS: Market at corners, and its sums
set_option maxRecDepth 100000 in
set_option maxHeartbeats 4000000 in
theorem r_mOpen {σ : ab_S} {K : ab_V → ab_S → Prop} (h : K (vI 0) (ab_set (ab_set σ 73 (zfill (σ 73) 16 0)) 75 (zfill (σ 75) 4 0))) : ab_Runs ab_G1 mdX3_open [vR 65] σ K := by
  refine ab_runs mwX3_open (by decide +kernel) (Nat.le_of_ble_eq_true rfl) (fun G hG => ?_)
  show G 0 [some (vR 65)] [] _
  apply hG [] 20
  simp only [cq_lt, cq_le, cq_gt, cq_ge, cq_eq, cq_r1, cq_r2, ab_r32, ab_r64, ab_go, ab_stp, wp_z, wp_s, ab_in, ab_gv, ab_psh, ab_rok, ab_wsum, ab_prm, ab_ret, ab_sw, ab_cd, ab_tg, ab_cat_i, ab_cat_l, ab_cat_r, ab_cl_n, ab_cl_i, ab_cl_l, ab_cl_r, ab_f2_0, ab_f2_1, ab_f4_0, ab_f4_1, ab_f4_2, ab_f4_3, ab_op_s, ab_gI_s, ab_gL_s, ab_gR_s, ab_b1_s, ab_b2_s, ab_l1_s, ab_l2_s, ab_li_s, ab_o1_s, ab_io_s, ab_lo1_s, ab_iio_s, ab_lio_s, ab_cp5_s, ab_d2_l, ab_d2_i, ab_d2_o, ex_iconst, ex_bipush, ex_sipush, ex_lconst, ex_ldc, ex_ldc_w, ex_ldc2_w, ex_iload_n, ex_iload, ex_lload_n, ex_lload, ex_aload_n, ex_aload, ex_istore_n, ex_istore, ex_lstore_n, ex_lstore, ex_iinc, ex_iadd, ex_isub, ex_imul, ex_iand, ex_ior, ex_ixor, ex_ishl, ex_ishr, ex_iushr, ex_idiv, ex_irem, ex_ladd, ex_lsub, ex_lmul, ex_lor, ex_ldiv, ex_lrem, ex_lshl, ex_lcmp, ex_ineg, ex_lneg, ex_i2l, ex_l2i, ex_i2b, ex_dup, ex_pop, ex_dup2, ex_goto, ex_ifCond, ex_if_icmp, ex_tableswitch, ex_getfield, ex_putfield, ex_iaload, ex_laload, ex_baload, ex_iastore, ex_lastore, ex_bastore, ex_aaload, ex_arraylength, ex_invokevirtual, ex_invokestatic, ex_ireturn, ex_lreturn, ex_return_, List.map_cons, List.map_nil, List.sum_cons, List.sum_nil, List.drop_succ_cons, List.drop_zero, List.take_succ_cons, List.take_zero, List.reverse_cons, List.reverse_nil, List.nil_append, List.cons_append, List.length_cons, List.length_nil, true_and, and_true, cond_false, cond_true, Bool.false_or, Bool.or_false, Bool.or_true, Bool.true_or, true_or, or_true, false_or, or_false, if_true, if_false, reduceIte, ite_true, ite_false, implies_true, true_implies, false_implies, forall_const, not_true_eq_false, not_false_eq_true, Nat.reduceAdd, Nat.reduceMul, Nat.reduceSub, Nat.reduceBEq, Nat.reduceEqDiff, Nat.reduceLeDiff, Nat.reduceLT, Int.reduceAdd, Int.reduceSub, Int.reduceMul, Int.reduceNeg, Int.reduceToNat, Int.reduceLE, Int.reduceLT, Int.reduceEq, Int.reduceNe, Int.reduceNatCast, Nat.add_zero, Nat.zero_add, reduceCtorEq, Int.reduceNatCast', moX3_open, dX3_open_0, dX3_open_1, gt1_3_18_65, dX3_open_4, dX3_open_5, is3_67, moJ7_fill_53178, dX3_open_8, dX3_open_9, gt1_3_24_65, dX3_open_12, dX3_open_13, dX3_open_16, ar1_0, ar1_1, ar1_10, ar1_100, ar1_101, ar1_102, ar1_11, ar1_12, ar1_13, ar1_14, ar1_15, ar1_16, ar1_17, ar1_18, ar1_19, ar1_2, ar1_20, ar1_21, ar1_22, ar1_23, ar1_24, ar1_25, ar1_26, ar1_27, ar1_28, ar1_29, ar1_3, ar1_30, ar1_31, ar1_32, ar1_33, ar1_34, ar1_35, ar1_36, ar1_37, ar1_38, ar1_39, ar1_4, ar1_40, ar1_41, ar1_42, ar1_43, ar1_44, ar1_45, ar1_46, ar1_47, ar1_48, ar1_49, ar1_5, ar1_50, ar1_51, ar1_52, ar1_53, ar1_54, ar1_55, ar1_56, ar1_57, ar1_58, ar1_59, ar1_6, ar1_60, ar1_61, ar1_62, ar1_63, ar1_64, ar1_65, ar1_66, ar1_67, ar1_68, ar1_69, ar1_7, ar1_70, ar1_71, ar1_72, ar1_73, ar1_74, ar1_75, ar1_76, ar1_77, ar1_78, ar1_79, ar1_8, ar1_80, ar1_81, ar1_82, ar1_83, ar1_84, ar1_85, ar1_86, ar1_87, ar1_88, ar1_89, ar1_9, ar1_90, ar1_91, ar1_92, ar1_93, ar1_94, ar1_95, ar1_96, ar1_97, ar1_98, ar1_99, lk_0]
  repeat' (with_reducible (first | apply And.intro | intro _))
  all_goals first | omega | skip
  refine r_fillI (n := 16) rfl (by omega) ?_
  try simp only [cq_lt, cq_le, cq_gt, cq_ge, cq_eq, cq_r1, cq_r2, ab_r32, ab_r64, ab_go, ab_stp, wp_z, wp_s, ab_in, ab_gv, ab_psh, ab_rok, ab_wsum, ab_prm, ab_ret, ab_sw, ab_cd, ab_tg, ab_cat_i, ab_cat_l, ab_cat_r, ab_cl_n, ab_cl_i, ab_cl_l, ab_cl_r, ab_f2_0, ab_f2_1, ab_f4_0, ab_f4_1, ab_f4_2, ab_f4_3, ab_op_s, ab_gI_s, ab_gL_s, ab_gR_s, ab_b1_s, ab_b2_s, ab_l1_s, ab_l2_s, ab_li_s, ab_o1_s, ab_io_s, ab_lo1_s, ab_iio_s, ab_lio_s, ab_cp5_s, ab_d2_l, ab_d2_i, ab_d2_o, ex_iconst, ex_bipush, ex_sipush, ex_lconst, ex_ldc, ex_ldc_w, ex_ldc2_w, ex_iload_n, ex_iload, ex_lload_n, ex_lload, ex_aload_n, ex_aload, ex_istore_n, ex_istore, ex_lstore_n, ex_lstore, ex_iinc, ex_iadd, ex_isub, ex_imul, ex_iand, ex_ior, ex_ixor, ex_ishl, ex_ishr, ex_iushr, ex_idiv, ex_irem, ex_ladd, ex_lsub, ex_lmul, ex_lor, ex_ldiv, ex_lrem, ex_lshl, ex_lcmp, ex_ineg, ex_lneg, ex_i2l, ex_l2i, ex_i2b, ex_dup, ex_pop, ex_dup2, ex_goto, ex_ifCond, ex_if_icmp, ex_tableswitch, ex_getfield, ex_putfield, ex_iaload, ex_laload, ex_baload, ex_iastore, ex_lastore, ex_bastore, ex_aaload, ex_arraylength, ex_invokevirtual, ex_invokestatic, ex_ireturn, ex_lreturn, ex_return_, List.map_cons, List.map_nil, List.sum_cons, List.sum_nil, List.drop_succ_cons, List.drop_zero, List.take_succ_cons, List.take_zero, List.reverse_cons, List.reverse_nil, List.nil_append, List.cons_append, List.length_cons, List.length_nil, true_and, and_true, cond_false, cond_true, Bool.false_or, Bool.or_false, Bool.or_true, Bool.true_or, true_or, or_true, false_or, or_false, if_true, if_false, reduceIte, ite_true, ite_false, implies_true, true_implies, false_implies, forall_const, not_true_eq_false, not_false_eq_true, Nat.reduceAdd, Nat.reduceMul, Nat.reduceSub, Nat.reduceBEq, Nat.reduceEqDiff, Nat.reduceLeDiff, Nat.reduceLT, Int.reduceAdd, Int.reduceSub, Int.reduceMul, Int.reduceNeg, Int.reduceToNat, Int.reduceLE, Int.reduceLT, Int.reduceEq, Int.reduceNe, Int.reduceNatCast, Nat.add_zero, Nat.zero_add, reduceCtorEq, Int.reduceNatCast', moX3_open, dX3_open_0, dX3_open_1, gt1_3_18_65, dX3_open_4, dX3_open_5, is3_67, moJ7_fill_53178, dX3_open_8, dX3_open_9, gt1_3_24_65, dX3_open_12, dX3_open_13, dX3_open_16, ar1_0, ar1_1, ar1_10, ar1_100, ar1_101, ar1_102, ar1_11, ar1_12, ar1_13, ar1_14, ar1_15, ar1_16, ar1_17, ar1_18, ar1_19, ar1_2, ar1_20, ar1_21, ar1_22, ar1_23, ar1_24, ar1_25, ar1_26, ar1_27, ar1_28, ar1_29, ar1_3, ar1_30, ar1_31, ar1_32, ar1_33, ar1_34, ar1_35, ar1_36, ar1_37, ar1_38, ar1_39, ar1_4, ar1_40, ar1_41, ar1_42, ar1_43, ar1_44, ar1_45, ar1_46, ar1_47, ar1_48, ar1_49, ar1_5, ar1_50, ar1_51, ar1_52, ar1_53, ar1_54, ar1_55, ar1_56, ar1_57, ar1_58, ar1_59, ar1_6, ar1_60, ar1_61, ar1_62, ar1_63, ar1_64, ar1_65, ar1_66, ar1_67, ar1_68, ar1_69, ar1_7, ar1_70, ar1_71, ar1_72, ar1_73, ar1_74, ar1_75, ar1_76, ar1_77, ar1_78, ar1_79, ar1_8, ar1_80, ar1_81, ar1_82, ar1_83, ar1_84, ar1_85, ar1_86, ar1_87, ar1_88, ar1_89, ar1_9, ar1_90, ar1_91, ar1_92, ar1_93, ar1_94, ar1_95, ar1_96, ar1_97, ar1_98, ar1_99, lk_0]
  repeat' (with_reducible (first | apply And.intro | intro _))
  all_goals first | omega | skip
  refine r_fillI (n := 4) rfl (by omega) ?_
  try simp only [cq_lt, cq_le, cq_gt, cq_ge, cq_eq, cq_r1, cq_r2, ab_r32, ab_r64, ab_go, ab_stp, wp_z, wp_s, ab_in, ab_gv, ab_psh, ab_rok, ab_wsum, ab_prm, ab_ret, ab_sw, ab_cd, ab_tg, ab_cat_i, ab_cat_l, ab_cat_r, ab_cl_n, ab_cl_i, ab_cl_l, ab_cl_r, ab_f2_0, ab_f2_1, ab_f4_0, ab_f4_1, ab_f4_2, ab_f4_3, ab_op_s, ab_gI_s, ab_gL_s, ab_gR_s, ab_b1_s, ab_b2_s, ab_l1_s, ab_l2_s, ab_li_s, ab_o1_s, ab_io_s, ab_lo1_s, ab_iio_s, ab_lio_s, ab_cp5_s, ab_d2_l, ab_d2_i, ab_d2_o, ex_iconst, ex_bipush, ex_sipush, ex_lconst, ex_ldc, ex_ldc_w, ex_ldc2_w, ex_iload_n, ex_iload, ex_lload_n, ex_lload, ex_aload_n, ex_aload, ex_istore_n, ex_istore, ex_lstore_n, ex_lstore, ex_iinc, ex_iadd, ex_isub, ex_imul, ex_iand, ex_ior, ex_ixor, ex_ishl, ex_ishr, ex_iushr, ex_idiv, ex_irem, ex_ladd, ex_lsub, ex_lmul, ex_lor, ex_ldiv, ex_lrem, ex_lshl, ex_lcmp, ex_ineg, ex_lneg, ex_i2l, ex_l2i, ex_i2b, ex_dup, ex_pop, ex_dup2, ex_goto, ex_ifCond, ex_if_icmp, ex_tableswitch, ex_getfield, ex_putfield, ex_iaload, ex_laload, ex_baload, ex_iastore, ex_lastore, ex_bastore, ex_aaload, ex_arraylength, ex_invokevirtual, ex_invokestatic, ex_ireturn, ex_lreturn, ex_return_, List.map_cons, List.map_nil, List.sum_cons, List.sum_nil, List.drop_succ_cons, List.drop_zero, List.take_succ_cons, List.take_zero, List.reverse_cons, List.reverse_nil, List.nil_append, List.cons_append, List.length_cons, List.length_nil, true_and, and_true, cond_false, cond_true, Bool.false_or, Bool.or_false, Bool.or_true, Bool.true_or, true_or, or_true, false_or, or_false, if_true, if_false, reduceIte, ite_true, ite_false, implies_true, true_implies, false_implies, forall_const, not_true_eq_false, not_false_eq_true, Nat.reduceAdd, Nat.reduceMul, Nat.reduceSub, Nat.reduceBEq, Nat.reduceEqDiff, Nat.reduceLeDiff, Nat.reduceLT, Int.reduceAdd, Int.reduceSub, Int.reduceMul, Int.reduceNeg, Int.reduceToNat, Int.reduceLE, Int.reduceLT, Int.reduceEq, Int.reduceNe, Int.reduceNatCast, Nat.add_zero, Nat.zero_add, reduceCtorEq, Int.reduceNatCast', moX3_open, dX3_open_0, dX3_open_1, gt1_3_18_65, dX3_open_4, dX3_open_5, is3_67, moJ7_fill_53178, dX3_open_8, dX3_open_9, gt1_3_24_65, dX3_open_12, dX3_open_13, dX3_open_16, ar1_0, ar1_1, ar1_10, ar1_100, ar1_101, ar1_102, ar1_11, ar1_12, ar1_13, ar1_14, ar1_15, ar1_16, ar1_17, ar1_18, ar1_19, ar1_2, ar1_20, ar1_21, ar1_22, ar1_23, ar1_24, ar1_25, ar1_26, ar1_27, ar1_28, ar1_29, ar1_3, ar1_30, ar1_31, ar1_32, ar1_33, ar1_34, ar1_35, ar1_36, ar1_37, ar1_38, ar1_39, ar1_4, ar1_40, ar1_41, ar1_42, ar1_43, ar1_44, ar1_45, ar1_46, ar1_47, ar1_48, ar1_49, ar1_5, ar1_50, ar1_51, ar1_52, ar1_53, ar1_54, ar1_55, ar1_56, ar1_57, ar1_58, ar1_59, ar1_6, ar1_60, ar1_61, ar1_62, ar1_63, ar1_64, ar1_65, ar1_66, ar1_67, ar1_68, ar1_69, ar1_7, ar1_70, ar1_71, ar1_72, ar1_73, ar1_74, ar1_75, ar1_76, ar1_77, ar1_78, ar1_79, ar1_8, ar1_80, ar1_81, ar1_82, ar1_83, ar1_84, ar1_85, ar1_86, ar1_87, ar1_88, ar1_89, ar1_9, ar1_90, ar1_91, ar1_92, ar1_93, ar1_94, ar1_95, ar1_96, ar1_97, ar1_98, ar1_99, lk_0]
  exact h
theorem zbits_low {n low hm : Int} {f : Int → Int} (hn : n ≤ 4) (h1 : low ≤ hm) (h2 : ∀ i, 0 ≤ i → i < n → low ≤ f i) (h3 : low = hm ∨ ∃ i, 0 ≤ i ∧ i < n ∧ f i = low) : zbits n f hm = zmsk n f low := by
  unfold zbits zmsk
  refine zb4_congr (fun j p1 p2 => ?_)
  rw [Bool.eq_iff_iff, zB_iff hn]
  simp only [Bool.and_eq_true, decide_eq_true_eq]
  constructor
  · rintro ⟨q1, q2, q3⟩
    refine ⟨q1, ?_⟩
    have := h2 j p1 q1
    rcases h3 with z | ⟨i, z1, z2, z3⟩
    · omega
    · have := q3 i z1 z2
      omega
  · rintro ⟨q1, q2⟩
    exact ⟨q1, by omega, fun i z1 z2 => by have := h2 i z1 z2; omega⟩
/-- costs at a corner -/
def zCk (σ : ab_S) (k j : Int) : Int := σ 67 j + σ 65 8 * σ 68 (12 * j + k) - σ 7 (3 * k + σ 71 j)
def zCm (σ : ab_S) (k : Int) : Int := zbits (σ 65 7) (zCk σ k) (σ 3 11)
theorem zCm_in (σ : ab_S) (k : Int) : 0 ≤ zCm σ k ∧ zCm σ k < 16 := zb4_in _
def zMb (σ : ab_S) : Prop := (∀ j, 0 ≤ j → j < σ 65 7 → 0 ≤ σ 71 j ∧ σ 71 j < 3) ∧ (∀ k, 0 ≤ k → k < 36 → 0 ≤ σ 7 k ∧ σ 7 k ≤ 20)
set_option maxRecDepth 100000 in
set_option maxHeartbeats 4000000 in
theorem r_mCorner {σ : ab_S} {k : Int} {K : ab_V → ab_S → Prop} (hc : σ 3 8 ≤ 12) (hS : zSv σ 65) (hb : zMb σ) (hk : 0 ≤ k ∧ k < σ 3 8) (hh : 0 ≤ σ 3 11 ∧ σ 3 11 ≤ 9999)
    (h : K (vI 0) (ab_set (ab_set σ 74 (zu (σ 74) k (zCm σ k))) 73 (fun x => σ 73 x + (if zCm σ k = x then 24 * σ 65 8 * σ 6 k else 0)))) : ab_Runs ab_G1 mdX3_meetCorner [vR 65, vI k] σ K := by
  refine ab_runs mwX3_meetCorner (by decide +kernel) (Nat.le_of_ble_eq_true rfl) (fun G hG => ?_)
  show G 0 [some (vR 65), some (vI k), none, none, none, none] [] _
  obtain ⟨⟨n1, n2⟩, hp, hj⟩ := hS
  obtain ⟨hb1, hb2⟩ := hb
  have key : ∀ (i : Nat) (j low : Int) (z5 : Option ab_V), σ 65 7 - j < i → 0 ≤ j → j ≤ σ 65 7 → (-20 ≤ low ∧ low ≤ σ 3 11) → (∀ i, 0 ≤ i → i < j → low ≤ zCk σ k i) → (low = σ 3 11 ∨ ∃ i, 0 ≤ i ∧ i < j ∧ zCk σ k i = low) → G 13 [some (vR 65), some (vI k), some (vI low), some (vI (zmsk j (zCk σ k) low)), some (vI j), z5] [] σ := by
    intro i
    induction i with
    | zero => intro j low z5 h1 h2 h3 _ _ _; omega
    | succ i ih =>
      intro j low z5 h1 h2 h3 hl hl2 hl3
      have b1 := zmsk_in j (zCk σ k) low
      have b2 := zp2_in (j := j)
      have hrng : j < σ 65 7 → (0 ≤ σ 71 j ∧ σ 71 j < 3) ∧ (-20 ≤ zCk σ k j ∧ zCk σ k j ≤ 600000) := by
        intro q
        have q1 := hb1 j h2 q
        have q2 := hb2 (3 * k + σ 71 j) (by omega) (by omega)
        obtain ⟨-, q3, q4⟩ := hj j h2 q
        have q5 := q4 k hk.1 hk.2
        simp only [Nat.reduceAdd] at q3 q5
        have q6 := zmul5 hp (x := σ 68 (12 * j + k)) (by omega)
        unfold zCk
        omega
      have hexit : j = σ 65 7 → zmsk j (zCk σ k) low = zCm σ k := by
        intro e
        rw [e]
        rw [e] at hl2 hl3
        exact (zbits_low n2 hl.2 hl2 hl3).symm
      have hlt : j < σ 65 7 → zCk σ k j < low → ∀ v, v = zp2 j → G 13 [some (vR 65), some (vI k), some (vI (zCk σ k j)), some (vI v), some (vI (j + 1)), some (vI (zCk σ k j))] [] σ := by
        intro q1 q2 v hv
        have := hrng q1
        have hz : zmsk (j + 1) (zCk σ k) (zCk σ k j) = zp2 j := by
          rw [zp2_b4 (by omega)]
          unfold zmsk
          refine zb4_congr (fun i p1 p2 => ?_)
          rw [Bool.eq_iff_iff]
          simp only [Bool.and_eq_true, decide_eq_true_eq]
          constructor
          · rintro ⟨y1, y2⟩
            by_cases e : i = j
            · exact e
            · have := hl2 i p1 (by omega)
              omega
          · rintro rfl
            exact ⟨by omega, rfl⟩
        rw [hv, ← hz]
        refine ih (j + 1) _ _ (by omega) (by omega) (by omega) (by omega) (fun i p1 p2 => ?_) (Or.inr ⟨j, h2, by omega, rfl⟩)
        by_cases e : i = j
        · rw [e]; omega
        · have := hl2 i p1 (by omega)
          omega
      have heq : j < σ 65 7 → zCk σ k j = low → ∀ v w, v = ab_or (zmsk j (zCk σ k) low) (zp2 j) → w = zCk σ k j → G 13 [some (vR 65), some (vI k), some (vI low), some (vI v), some (vI (j + 1)), some (vI w)] [] σ := by
        intro q1 q2 v w hv hw
        rw [hv, z_or (by omega) (by omega), ← zmsk_eq (by omega) q2]
        refine ih (j + 1) low _ (by omega) (by omega) (by omega) hl (fun i p1 p2 => ?_) (Or.inr ⟨j, h2, by omega, q2⟩)
        by_cases e : i = j
        · rw [e]; omega
        · exact hl2 i p1 (by omega)
      have hgt : j < σ 65 7 → low < zCk σ k j → ∀ w, w = zCk σ k j → G 13 [some (vR 65), some (vI k), some (vI low), some (vI (zmsk j (zCk σ k) low)), some (vI (j + 1)), some (vI w)] [] σ := by
        intro q1 q2 w hw
        rw [← zmsk_gt (f := zCk σ k) (by omega)]
        refine ih (j + 1) low _ (by omega) (by omega) (by omega) hl (fun i p1 p2 => ?_) ?_
        · by_cases e : i = j
          · rw [e]; omega
          · exact hl2 i p1 (by omega)
        · rcases hl3 with z | ⟨i, z1, z2, z3⟩
          · exact Or.inl z
          · exact Or.inr ⟨i, z1, by omega, z3⟩
      have hz : zCk σ k j = σ 67 j + σ 65 8 * σ 68 (12 * j + k) - σ 7 (3 * k + σ 71 j) := rfl
      apply hG [13] 70
      simp only [cq_lt, cq_le, cq_gt, cq_ge, cq_eq, cq_r1, cq_r2, ab_r32, ab_r64, ab_go, ab_stp, wp_z, wp_s, ab_in, ab_gv, ab_psh, ab_rok, ab_wsum, ab_prm, ab_ret, ab_sw, ab_cd, ab_tg, ab_cat_i, ab_cat_l, ab_cat_r, ab_cl_n, ab_cl_i, ab_cl_l, ab_cl_r, ab_f2_0, ab_f2_1, ab_f4_0, ab_f4_1, ab_f4_2, ab_f4_3, ab_op_s, ab_gI_s, ab_gL_s, ab_gR_s, ab_b1_s, ab_b2_s, ab_l1_s, ab_l2_s, ab_li_s, ab_o1_s, ab_io_s, ab_lo1_s, ab_iio_s, ab_lio_s, ab_cp5_s, ab_d2_l, ab_d2_i, ab_d2_o, ex_iconst, ex_bipush, ex_sipush, ex_lconst, ex_ldc, ex_ldc_w, ex_ldc2_w, ex_iload_n, ex_iload, ex_lload_n, ex_lload, ex_aload_n, ex_aload, ex_istore_n, ex_istore, ex_lstore_n, ex_lstore, ex_iinc, ex_iadd, ex_isub, ex_imul, ex_iand, ex_ior, ex_ixor, ex_ishl, ex_ishr, ex_iushr, ex_idiv, ex_irem, ex_ladd, ex_lsub, ex_lmul, ex_lor, ex_ldiv, ex_lrem, ex_lshl, ex_lcmp, ex_ineg, ex_lneg, ex_i2l, ex_l2i, ex_i2b, ex_dup, ex_pop, ex_dup2, ex_goto, ex_ifCond, ex_if_icmp, ex_tableswitch, ex_getfield, ex_putfield, ex_iaload, ex_laload, ex_baload, ex_iastore, ex_lastore, ex_bastore, ex_aaload, ex_arraylength, ex_invokevirtual, ex_invokestatic, ex_ireturn, ex_lreturn, ex_return_, List.map_cons, List.map_nil, List.sum_cons, List.sum_nil, List.drop_succ_cons, List.drop_zero, List.take_succ_cons, List.take_zero, List.reverse_cons, List.reverse_nil, List.nil_append, List.cons_append, List.length_cons, List.length_nil, true_and, and_true, cond_false, cond_true, Bool.false_or, Bool.or_false, Bool.or_true, Bool.true_or, true_or, or_true, false_or, or_false, if_true, if_false, reduceIte, ite_true, ite_false, implies_true, true_implies, false_implies, forall_const, not_true_eq_false, not_false_eq_true, Nat.reduceAdd, Nat.reduceMul, Nat.reduceSub, Nat.reduceBEq, Nat.reduceEqDiff, Nat.reduceLeDiff, Nat.reduceLT, Int.reduceAdd, Int.reduceSub, Int.reduceMul, Int.reduceNeg, Int.reduceToNat, Int.reduceLE, Int.reduceLT, Int.reduceEq, Int.reduceNe, Int.reduceNatCast, Nat.add_zero, Nat.zero_add, reduceCtorEq, Int.reduceNatCast', moX3_meetCorner, dX3_meetCorner_0, dX3_meetCorner_1, gt1_3_34_65, dX3_meetCorner_4, gt1_3_73_3, gt1_3_73_12, dX3_meetCorner_7, dX3_meetCorner_8, dX3_meetCorner_9, dX3_meetCorner_10, dX3_meetCorner_11, dX3_meetCorner_13, dX3_meetCorner_15, dX3_meetCorner_16, gt1_3_33_65, dX3_meetCorner_19, dX3_meetCorner_22, dX3_meetCorner_23, gt1_3_53_65, dX3_meetCorner_26, dX3_meetCorner_28, dX3_meetCorner_29, dX3_meetCorner_30, gt1_3_43_65, dX3_meetCorner_33, dX3_meetCorner_34, gt1_3_76_65, dX3_meetCorner_37, dX3_meetCorner_39, dX3_meetCorner_41, dX3_meetCorner_42, dX3_meetCorner_43, dX3_meetCorner_44, dX3_meetCorner_45, dX3_meetCorner_46, dX3_meetCorner_47, dX3_meetCorner_48, dX3_meetCorner_51, gt1_3_79_3, gt1_3_79_12, dX3_meetCorner_54, dX3_meetCorner_55, dX3_meetCorner_56, dX3_meetCorner_57, dX3_meetCorner_58, gt1_3_9_65, dX3_meetCorner_61, dX3_meetCorner_63, dX3_meetCorner_64, dX3_meetCorner_65, dX3_meetCorner_66, dX3_meetCorner_67, dX3_meetCorner_69, dX3_meetCorner_71, dX3_meetCorner_72, dX3_meetCorner_75, dX3_meetCorner_77, dX3_meetCorner_78, dX3_meetCorner_79, dX3_meetCorner_81, dX3_meetCorner_82, dX3_meetCorner_83, dX3_meetCorner_86, dX3_meetCorner_88, dX3_meetCorner_89, dX3_meetCorner_92, dX3_meetCorner_93, dX3_meetCorner_94, dX3_meetCorner_96, dX3_meetCorner_97, dX3_meetCorner_98, dX3_meetCorner_99, dX3_meetCorner_102, dX3_meetCorner_105, dX3_meetCorner_106, gt1_3_21_65, dX3_meetCorner_109, dX3_meetCorner_110, dX3_meetCorner_111, dX3_meetCorner_112, dX3_meetCorner_113, gt1_3_18_65, dX3_meetCorner_116, dX3_meetCorner_117, dX3_meetCorner_118, dX3_meetCorner_119, dX3_meetCorner_121, dX3_meetCorner_122, dX3_meetCorner_125, dX3_meetCorner_126, dX3_meetCorner_127, dX3_meetCorner_130, gt1_3_82_3, gt1_3_82_12, dX3_meetCorner_133, dX3_meetCorner_134, dX3_meetCorner_135, dX3_meetCorner_136, dX3_meetCorner_137, dX3_meetCorner_138, ar1_0, ar1_1, ar1_10, ar1_100, ar1_101, ar1_102, ar1_11, ar1_12, ar1_13, ar1_14, ar1_15, ar1_16, ar1_17, ar1_18, ar1_19, ar1_2, ar1_20, ar1_21, ar1_22, ar1_23, ar1_24, ar1_25, ar1_26, ar1_27, ar1_28, ar1_29, ar1_3, ar1_30, ar1_31, ar1_32, ar1_33, ar1_34, ar1_35, ar1_36, ar1_37, ar1_38, ar1_39, ar1_4, ar1_40, ar1_41, ar1_42, ar1_43, ar1_44, ar1_45, ar1_46, ar1_47, ar1_48, ar1_49, ar1_5, ar1_50, ar1_51, ar1_52, ar1_53, ar1_54, ar1_55, ar1_56, ar1_57, ar1_58, ar1_59, ar1_6, ar1_60, ar1_61, ar1_62, ar1_63, ar1_64, ar1_65, ar1_66, ar1_67, ar1_68, ar1_69, ar1_7, ar1_70, ar1_71, ar1_72, ar1_73, ar1_74, ar1_75, ar1_76, ar1_77, ar1_78, ar1_79, ar1_8, ar1_80, ar1_81, ar1_82, ar1_83, ar1_84, ar1_85, ar1_86, ar1_87, ar1_88, ar1_89, ar1_9, ar1_90, ar1_91, ar1_92, ar1_93, ar1_94, ar1_95, ar1_96, ar1_97, ar1_98, ar1_99, lk_0, lk_1, lk_2, lk_3, lk_4, lk_5, st1_2, st1_3, st1_4, st1_5]
      repeat' (with_reducible (first | apply And.intro | intro _))
      all_goals first | omega | skip
      · rename_i hq
        rw [hexit (Int.le_antisymm h3 hq)]
        have e : ab_up (ab_up σ 74 k (zCm σ k)) 73 (zCm σ k) (ab_up σ 74 k (zCm σ k) 73 (zCm σ k) + 24 * ab_up σ 74 k (zCm σ k) 65 8 * ab_up σ 74 k (zCm σ k) 6 k) = ab_set (ab_set σ 74 (zu (σ 74) k (zCm σ k))) 73 (fun x => σ 73 x + if zCm σ k = x then 24 * σ 65 8 * σ 6 k else 0) := by
          rw [ab_up_eq _ 73, ab_up_eq σ 74]
          simp only [ab_set_ne _ _ (show (73 : Nat) ≠ 74 by decide), ab_set_ne _ _ (show (65 : Nat) ≠ 74 by decide), ab_set_ne _ _ (show (6 : Nat) ≠ 74 by decide)]
          rw [zu_add]
        rw [e]
        exact h
      all_goals (have r1 := hrng (by omega))
      all_goals first | omega | skip
      · exact hgt (by omega) (by omega) _ rfl
      · rw [z_shl1 (by omega)]
        exact heq (by omega) (by omega) _ _ rfl rfl
      · rw [z_shl1 (by omega)]
        exact hlt (by omega) (by omega) _ rfl
  apply hG [13] 70
  simp only [cq_lt, cq_le, cq_gt, cq_ge, cq_eq, cq_r1, cq_r2, ab_r32, ab_r64, ab_go, ab_stp, wp_z, wp_s, ab_in, ab_gv, ab_psh, ab_rok, ab_wsum, ab_prm, ab_ret, ab_sw, ab_cd, ab_tg, ab_cat_i, ab_cat_l, ab_cat_r, ab_cl_n, ab_cl_i, ab_cl_l, ab_cl_r, ab_f2_0, ab_f2_1, ab_f4_0, ab_f4_1, ab_f4_2, ab_f4_3, ab_op_s, ab_gI_s, ab_gL_s, ab_gR_s, ab_b1_s, ab_b2_s, ab_l1_s, ab_l2_s, ab_li_s, ab_o1_s, ab_io_s, ab_lo1_s, ab_iio_s, ab_lio_s, ab_cp5_s, ab_d2_l, ab_d2_i, ab_d2_o, ex_iconst, ex_bipush, ex_sipush, ex_lconst, ex_ldc, ex_ldc_w, ex_ldc2_w, ex_iload_n, ex_iload, ex_lload_n, ex_lload, ex_aload_n, ex_aload, ex_istore_n, ex_istore, ex_lstore_n, ex_lstore, ex_iinc, ex_iadd, ex_isub, ex_imul, ex_iand, ex_ior, ex_ixor, ex_ishl, ex_ishr, ex_iushr, ex_idiv, ex_irem, ex_ladd, ex_lsub, ex_lmul, ex_lor, ex_ldiv, ex_lrem, ex_lshl, ex_lcmp, ex_ineg, ex_lneg, ex_i2l, ex_l2i, ex_i2b, ex_dup, ex_pop, ex_dup2, ex_goto, ex_ifCond, ex_if_icmp, ex_tableswitch, ex_getfield, ex_putfield, ex_iaload, ex_laload, ex_baload, ex_iastore, ex_lastore, ex_bastore, ex_aaload, ex_arraylength, ex_invokevirtual, ex_invokestatic, ex_ireturn, ex_lreturn, ex_return_, List.map_cons, List.map_nil, List.sum_cons, List.sum_nil, List.drop_succ_cons, List.drop_zero, List.take_succ_cons, List.take_zero, List.reverse_cons, List.reverse_nil, List.nil_append, List.cons_append, List.length_cons, List.length_nil, true_and, and_true, cond_false, cond_true, Bool.false_or, Bool.or_false, Bool.or_true, Bool.true_or, true_or, or_true, false_or, or_false, if_true, if_false, reduceIte, ite_true, ite_false, implies_true, true_implies, false_implies, forall_const, not_true_eq_false, not_false_eq_true, Nat.reduceAdd, Nat.reduceMul, Nat.reduceSub, Nat.reduceBEq, Nat.reduceEqDiff, Nat.reduceLeDiff, Nat.reduceLT, Int.reduceAdd, Int.reduceSub, Int.reduceMul, Int.reduceNeg, Int.reduceToNat, Int.reduceLE, Int.reduceLT, Int.reduceEq, Int.reduceNe, Int.reduceNatCast, Nat.add_zero, Nat.zero_add, reduceCtorEq, Int.reduceNatCast', moX3_meetCorner, dX3_meetCorner_0, dX3_meetCorner_1, gt1_3_34_65, dX3_meetCorner_4, gt1_3_73_3, gt1_3_73_12, dX3_meetCorner_7, dX3_meetCorner_8, dX3_meetCorner_9, dX3_meetCorner_10, dX3_meetCorner_11, dX3_meetCorner_13, dX3_meetCorner_15, dX3_meetCorner_16, gt1_3_33_65, dX3_meetCorner_19, dX3_meetCorner_22, dX3_meetCorner_23, gt1_3_53_65, dX3_meetCorner_26, dX3_meetCorner_28, dX3_meetCorner_29, dX3_meetCorner_30, gt1_3_43_65, dX3_meetCorner_33, dX3_meetCorner_34, gt1_3_76_65, dX3_meetCorner_37, dX3_meetCorner_39, dX3_meetCorner_41, dX3_meetCorner_42, dX3_meetCorner_43, dX3_meetCorner_44, dX3_meetCorner_45, dX3_meetCorner_46, dX3_meetCorner_47, dX3_meetCorner_48, dX3_meetCorner_51, gt1_3_79_3, gt1_3_79_12, dX3_meetCorner_54, dX3_meetCorner_55, dX3_meetCorner_56, dX3_meetCorner_57, dX3_meetCorner_58, gt1_3_9_65, dX3_meetCorner_61, dX3_meetCorner_63, dX3_meetCorner_64, dX3_meetCorner_65, dX3_meetCorner_66, dX3_meetCorner_67, dX3_meetCorner_69, dX3_meetCorner_71, dX3_meetCorner_72, dX3_meetCorner_75, dX3_meetCorner_77, dX3_meetCorner_78, dX3_meetCorner_79, dX3_meetCorner_81, dX3_meetCorner_82, dX3_meetCorner_83, dX3_meetCorner_86, dX3_meetCorner_88, dX3_meetCorner_89, dX3_meetCorner_92, dX3_meetCorner_93, dX3_meetCorner_94, dX3_meetCorner_96, dX3_meetCorner_97, dX3_meetCorner_98, dX3_meetCorner_99, dX3_meetCorner_102, dX3_meetCorner_105, dX3_meetCorner_106, gt1_3_21_65, dX3_meetCorner_109, dX3_meetCorner_110, dX3_meetCorner_111, dX3_meetCorner_112, dX3_meetCorner_113, gt1_3_18_65, dX3_meetCorner_116, dX3_meetCorner_117, dX3_meetCorner_118, dX3_meetCorner_119, dX3_meetCorner_121, dX3_meetCorner_122, dX3_meetCorner_125, dX3_meetCorner_126, dX3_meetCorner_127, dX3_meetCorner_130, gt1_3_82_3, gt1_3_82_12, dX3_meetCorner_133, dX3_meetCorner_134, dX3_meetCorner_135, dX3_meetCorner_136, dX3_meetCorner_137, dX3_meetCorner_138, ar1_0, ar1_1, ar1_10, ar1_100, ar1_101, ar1_102, ar1_11, ar1_12, ar1_13, ar1_14, ar1_15, ar1_16, ar1_17, ar1_18, ar1_19, ar1_2, ar1_20, ar1_21, ar1_22, ar1_23, ar1_24, ar1_25, ar1_26, ar1_27, ar1_28, ar1_29, ar1_3, ar1_30, ar1_31, ar1_32, ar1_33, ar1_34, ar1_35, ar1_36, ar1_37, ar1_38, ar1_39, ar1_4, ar1_40, ar1_41, ar1_42, ar1_43, ar1_44, ar1_45, ar1_46, ar1_47, ar1_48, ar1_49, ar1_5, ar1_50, ar1_51, ar1_52, ar1_53, ar1_54, ar1_55, ar1_56, ar1_57, ar1_58, ar1_59, ar1_6, ar1_60, ar1_61, ar1_62, ar1_63, ar1_64, ar1_65, ar1_66, ar1_67, ar1_68, ar1_69, ar1_7, ar1_70, ar1_71, ar1_72, ar1_73, ar1_74, ar1_75, ar1_76, ar1_77, ar1_78, ar1_79, ar1_8, ar1_80, ar1_81, ar1_82, ar1_83, ar1_84, ar1_85, ar1_86, ar1_87, ar1_88, ar1_89, ar1_9, ar1_90, ar1_91, ar1_92, ar1_93, ar1_94, ar1_95, ar1_96, ar1_97, ar1_98, ar1_99, lk_0, lk_1, lk_2, lk_3, lk_4, lk_5, st1_2, st1_3, st1_4, st1_5]
  repeat' (with_reducible (first | apply And.intro | intro _))
  all_goals first | omega | skip
  have e0 : zmsk 0 (zCk σ k) (σ 3 11) = 0 := by
    have : zmsk 0 (zCk σ k) (σ 3 11) = zb4 (fun _ => false) := zb4_congr (fun i p1 p2 => by simp; omega)
    rw [this]
    rfl
  have := key 5 0 (σ 3 11) none (by omega) (by omega) (by omega) (by omega) (fun i p1 p2 => by omega) (Or.inl rfl)
  rw [e0] at this
  exact this
/-- bit j of m -/
def zbj (m j : Int) : Int := if j = 0 then m % 2 else if j = 1 then m / 2 % 2 else if j = 2 then m / 4 % 2 else m / 8 % 2
theorem z_bj {m j : Int} (hm : 0 ≤ m ∧ m < 16) (hj : 0 ≤ j ∧ j < 4) : ab_and (ab_shr m j) 1 = zbj m j := by
  have key : ∀ a b c d : Bool, ab_and (ab_shr (zbm a b c d) 0) 1 = zbj (zbm a b c d) 0 ∧ ab_and (ab_shr (zbm a b c d) 1) 1 = zbj (zbm a b c d) 1 ∧ ab_and (ab_shr (zbm a b c d) 2) 1 = zbj (zbm a b c d) 2 ∧ ab_and (ab_shr (zbm a b c d) 3) 1 = zbj (zbm a b c d) 3 := by decide +kernel
  obtain ⟨a, b, c, d, e⟩ : ∃ a b c d : Bool, m = zbm a b c d := by
    refine ⟨decide (m % 2 = 1), decide (m / 2 % 2 = 1), decide (m / 4 % 2 = 1), decide (m / 8 % 2 = 1), ?_⟩
    unfold zbm
    simp only [decide_eq_true_eq]
    omega
  have k := key a b c d
  rw [e]
  rcases (show j = 0 ∨ j = 1 ∨ j = 2 ∨ j = 3 by omega) with rfl | rfl | rfl | rfl
  · exact k.1
  · exact k.2.1
  · exact k.2.2.1
  · exact k.2.2.2
theorem zbj_in (m j : Int) : zbj m j = 0 ∨ zbj m j = 1 := by
  unfold zbj
  repeat' split
  all_goals omega
/-- what seller j gets of the first m kinds of buyers -/
def zsl (T : Int → Int) (j : Int) (m : Nat) : Int := zS (fun i => zbj (i + 1) j * (T (i + 1) / zpop (i + 1))) m
