-- MODEL: gives, paces, sells
theorem zbj_bm : ∀ a b c d : Bool, zbj (zbm a b c d) 0 = (if a then 1 else 0) ∧ zbj (zbm a b c d) 1 = (if b then 1 else 0) ∧ zbj (zbm a b c d) 2 = (if c then 1 else 0) ∧ zbj (zbm a b c d) 3 = (if d then 1 else 0) := by decide +kernel
theorem zbj_b4 {p : Int → Bool} {j : Int} (hj : 0 ≤ j ∧ j < 4) : zbj (zb4 p) j = if p j then 1 else 0 := by
  have k := zbj_bm (p 0) (p 1) (p 2) (p 3)
  rw [zb4_bm]
  rcases (show j = 0 ∨ j = 1 ∨ j = 2 ∨ j = 3 by omega) with rfl | rfl | rfl | rfl
  · exact k.1
  · exact k.2.1
  · exact k.2.2.1
  · exact k.2.2.2
theorem zbits_hi {n h j : Int} {f : Int → Int} (hj : n ≤ j) (h0 : 0 ≤ j) (h4 : j < 4) : zbj (zbits n f h) j = 0 := by
  unfold zbits
  rw [zbj_b4 ⟨h0, h4⟩]
  have : zB n f h j = false := by
    unfold zB
    rw [show decide (j < n) = false by simp; omega]
    rfl
  rw [this]
  rfl
theorem zpop_bj (b : Int) : zpop b = zbj b 0 + zbj b 1 + zbj b 2 + zbj b 3 := by
  unfold zpop zbj
  simp
theorem zpop_n {b n : Int} (hn : 0 ≤ n ∧ n ≤ 4) (hz : ∀ j, n ≤ j → 0 ≤ j → j < 4 → zbj b j = 0) : zS (fun l : Nat => zbj b l) n.toNat = zpop b := by
  rw [zpop_bj]
  rcases (show n = 0 ∨ n = 1 ∨ n = 2 ∨ n = 3 ∨ n = 4 by omega) with rfl | rfl | rfl | rfl | rfl
  · have a := hz 0 (by omega) (by omega) (by omega)
    have b := hz 1 (by omega) (by omega) (by omega)
    have c := hz 2 (by omega) (by omega) (by omega)
    have d := hz 3 (by omega) (by omega) (by omega)
    rw [a, b, c, d]
    rfl
  · have b := hz 1 (by omega) (by omega) (by omega)
    have c := hz 2 (by omega) (by omega) (by omega)
    have d := hz 3 (by omega) (by omega) (by omega)
    rw [b, c, d]
    show (0 : Int) + zbj _ 0 = _
    omega
  · have c := hz 2 (by omega) (by omega) (by omega)
    have d := hz 3 (by omega) (by omega) (by omega)
    rw [c, d]
    show (0 : Int) + zbj _ 0 + zbj _ 1 = _
    omega
  · have d := hz 3 (by omega) (by omega) (by omega)
    rw [d]
    show (0 : Int) + zbj _ 0 + zbj _ 1 + zbj _ 2 = _
    omega
  · show (0 : Int) + zbj _ 0 + zbj _ 1 + zbj _ 2 + zbj _ 3 = _
    omega
set_option maxRecDepth 100000 in
set_option maxHeartbeats 4000000 in
theorem y_gives {τ : ab_S} {P b : Int} {K : ab_V → ab_S → Prop} (hP : 0 ≤ P ∧ P ≤ 1000000) (hb : 0 ≤ b ∧ b < 16) (hn : 0 ≤ τ 0 53 ∧ τ 0 53 ≤ 4) (hz : ∀ j, τ 0 53 ≤ j → 0 ≤ j → j < 4 → zbj b j = 0)
    (h : ∀ υ, (∀ o, o ≠ 0 → o ≠ 31 → υ o = τ o) → (∀ k, k ≠ 60 → υ 0 k = τ 0 k) → υ 0 60 = τ 0 60 + (if b = 0 then P else 0) → (∀ j, 0 ≤ j → j < τ 0 53 → υ 31 j = τ 31 j + zbj b j * (P / zpop b)) → K (vI 0) υ) : ab_Runs ab_G2 mdX12_gives [vR 0, vJ P, vI b] τ K := by
  refine ab_runs mwX12_gives (by decide +kernel) (Nat.le_of_ble_eq_true rfl) (fun G hG => ?_)
  show G 0 [some (vR 0), some (vJ P), none, some (vI b), none, none] [] _
  have hpn := zpop_n hn hz
  have hb0 : ∀ i, zbj b i = 1 → b ≠ 0 := by
    rintro i q rfl
    have : zbj 0 i = 0 := by
      unfold zbj
      repeat' split
      all_goals omega
    omega
  have hp0 : b ≠ 0 → 1 ≤ zpop b ∧ zpop b ≤ 4 := fun q => zpop_in (by omega)
  have key2 : ∀ (m : Nat) (i : Int) (υ : ab_S), τ 0 53 - i < m → 0 ≤ i → i ≤ τ 0 53 → (∀ o, o ≠ 0 → o ≠ 31 → υ o = τ o) → (∀ k, k ≠ 60 → υ 0 k = τ 0 k) → υ 0 60 = τ 0 60 + (if b = 0 then P else 0) → (∀ j, 0 ≤ j → j < i → υ 31 j = τ 31 j + zbj b j * (P / zpop b)) → (∀ j, i ≤ j → υ 31 j = τ 31 j) → G 50 [some (vR 0), some (vJ P), none, some (vI b), some (vI (zpop b)), some (vI i)] [] υ := by
    intro m
    induction m with
    | zero => intro i υ h1 h2 h3; omega
    | succ m ih =>
      intro i υ h1 h2 h3 q1 q2 q3 q4 q5
      have e53 : υ 0 53 = τ 0 53 := q2 53 (by decide)
      apply hG [50] 60
      simp only [cq_lt, cq_le, cq_gt, cq_ge, cq_eq, cq_r1, cq_r2, ab_r32, ab_r64, ab_go, ab_stp, wp_z, wp_s, ab_in, ab_gv, ab_psh, ab_rok, ab_wsum, ab_prm, ab_ret, ab_sw, ab_cd, ab_tg, ab_cat_i, ab_cat_l, ab_cat_r, ab_cl_n, ab_cl_i, ab_cl_l, ab_cl_r, ab_f2_0, ab_f2_1, ab_f4_0, ab_f4_1, ab_f4_2, ab_f4_3, ab_op_s, ab_gI_s, ab_gL_s, ab_gR_s, ab_b1_s, ab_b2_s, ab_l1_s, ab_l2_s, ab_li_s, ab_o1_s, ab_io_s, ab_lo1_s, ab_iio_s, ab_lio_s, ab_cp5_s, ab_d2_l, ab_d2_i, ab_d2_o, ex_iconst, ex_bipush, ex_sipush, ex_lconst, ex_ldc, ex_ldc_w, ex_ldc2_w, ex_iload_n, ex_iload, ex_lload_n, ex_lload, ex_aload_n, ex_aload, ex_istore_n, ex_istore, ex_lstore_n, ex_lstore, ex_iinc, ex_iadd, ex_isub, ex_imul, ex_iand, ex_ior, ex_ixor, ex_ishl, ex_ishr, ex_iushr, ex_idiv, ex_irem, ex_ladd, ex_lsub, ex_lmul, ex_lor, ex_ldiv, ex_lrem, ex_lshl, ex_lcmp, ex_ineg, ex_lneg, ex_i2l, ex_l2i, ex_i2b, ex_dup, ex_pop, ex_dup2, ex_goto, ex_ifCond, ex_if_icmp, ex_tableswitch, ex_getfield, ex_putfield, ex_iaload, ex_laload, ex_baload, ex_iastore, ex_lastore, ex_bastore, ex_aaload, ex_arraylength, ex_invokevirtual, ex_invokestatic, ex_ireturn, ex_lreturn, ex_return_, List.map_cons, List.map_nil, List.sum_cons, List.sum_nil, List.drop_succ_cons, List.drop_zero, List.take_succ_cons, List.take_zero, List.reverse_cons, List.reverse_nil, List.nil_append, List.cons_append, List.length_cons, List.length_nil, true_and, and_true, cond_false, cond_true, Bool.false_or, Bool.or_false, Bool.or_true, Bool.true_or, true_or, or_true, false_or, or_false, if_true, if_false, reduceIte, ite_true, ite_false, implies_true, true_implies, false_implies, forall_const, not_true_eq_false, not_false_eq_true, Nat.reduceAdd, Nat.reduceMul, Nat.reduceSub, Nat.reduceBEq, Nat.reduceEqDiff, Nat.reduceLeDiff, Nat.reduceLT, Int.reduceAdd, Int.reduceSub, Int.reduceMul, Int.reduceNeg, Int.reduceToNat, Int.reduceLE, Int.reduceLT, Int.reduceEq, Int.reduceNe, Int.reduceNatCast, Nat.add_zero, Nat.zero_add, reduceCtorEq, Int.reduceNatCast', moX12_gives, dX12_gives_0, dX12_gives_1, dX12_gives_3, dX12_gives_4, dX12_gives_6, dX12_gives_8, dX12_gives_9, gt2_12_329_0, dX12_gives_12, dX12_gives_15, dX12_gives_17, dX12_gives_18, dX12_gives_20, dX12_gives_21, dX12_gives_22, dX12_gives_23, dX12_gives_24, dX12_gives_26, dX12_gives_29, dX12_gives_32, dX12_gives_34, dX12_gives_37, dX12_gives_38, dX12_gives_39, gt2_12_377_0, dX12_gives_42, dX12_gives_43, dX12_gives_44, pt2_12_377_0, dX12_gives_47, dX12_gives_48, dX12_gives_50, dX12_gives_52, dX12_gives_53, dX12_gives_56, dX12_gives_59, dX12_gives_60, dX12_gives_62, dX12_gives_63, dX12_gives_64, dX12_gives_65, dX12_gives_66, dX12_gives_69, dX12_gives_70, gt2_12_122_0, dX12_gives_73, dX12_gives_75, dX12_gives_76, dX12_gives_77, dX12_gives_78, dX12_gives_80, dX12_gives_81, dX12_gives_82, dX12_gives_83, dX12_gives_84, dX12_gives_87, dX12_gives_90, ar2_0, ar2_1, ar2_10, ar2_11, ar2_12, ar2_13, ar2_14, ar2_15, ar2_16, ar2_17, ar2_18, ar2_19, ar2_2, ar2_20, ar2_21, ar2_22, ar2_23, ar2_24, ar2_25, ar2_26, ar2_27, ar2_28, ar2_29, ar2_3, ar2_30, ar2_31, ar2_32, ar2_33, ar2_34, ar2_35, ar2_36, ar2_37, ar2_38, ar2_39, ar2_4, ar2_40, ar2_41, ar2_42, ar2_43, ar2_44, ar2_45, ar2_46, ar2_47, ar2_48, ar2_49, ar2_5, ar2_50, ar2_51, ar2_52, ar2_6, ar2_7, ar2_8, ar2_9, lk_0, lk_1, lk_3, lk_4, lk_5, st1_4, st1_5, e53]
      repeat' (with_reducible (first | apply And.intro | intro _))
      all_goals first | omega | skip
      · rename_i hq
        exact h υ q1 q2 q3 (fun j j1 j2 => q4 j j1 (by omega))
      all_goals (have hbi := zbj_in b i; have hbe := z_bj hb (j := i) (by omega))
      all_goals first | omega | skip
      · rename_i hq hq2
        refine ih (i + 1) υ (by omega) (by omega) (by omega) q1 q2 q3 (fun j j1 j2 => ?_) (fun j j1 => q5 j (by omega))
        by_cases e : j = i
        · rw [e, show zbj b i = 0 by omega, q5 i (by omega)]
          omega
        · exact q4 j j1 (by omega)
      all_goals (have hb0' := hb0 i (by omega); have hpp := hp0 hb0')
      all_goals first | omega | skip
      · rename_i hq hq2
        rw [Int.tdiv_eq_ediv_of_nonneg hP.1]
        refine ih (i + 1) _ (by omega) (by omega) (by omega) (fun o o1 o2 => ?_) (fun k k1 => ?_) ?_ (fun j j1 j2 => ?_) (fun j j1 => ?_)
        · rw [ab_up_o o (by omega)]
          exact q1 o o1 o2
        · exact q2 k k1
        · exact q3
        · show (if j = i then υ 31 i + P / zpop b else υ 31 j) = _
          by_cases e : j = i
          · rw [if_pos e, e, q5 i (by omega), show zbj b i = 1 by omega]
            omega
          · rw [if_neg e]
            exact q4 j j1 (by omega)
        · show (if j = i then υ 31 i + P / zpop b else υ 31 j) = _
          rw [if_neg (by omega)]
          exact q5 j (by omega)
  have key1 : ∀ (m : Nat) (i : Nat), τ 0 53 - i < m → (i : Int) ≤ τ 0 53 → G 6 [some (vR 0), some (vJ P), none, some (vI b), some (vI (zS (fun l : Nat => zbj b l) i)), some (vI i)] [] τ := by
    intro m
    induction m with
    | zero => intro i h1 h2; omega
    | succ m ih =>
      intro i h1 h2
      have ih' := ih (i + 1)
      simp only [zS] at ih'
      have hzs := zS_in (f := fun l : Nat => zbj b l) (B := 1) (by omega) (n := i) (fun l _ => by have := zbj_in b l; omega)
      have hze : τ 0 53 ≤ i → zS (fun l : Nat => zbj b l) i = zpop b := fun q => by
        rw [← hpn, show (τ 0 53).toNat = i by omega]
      apply hG [6, 50] 60
      simp only [cq_lt, cq_le, cq_gt, cq_ge, cq_eq, cq_r1, cq_r2, ab_r32, ab_r64, ab_go, ab_stp, wp_z, wp_s, ab_in, ab_gv, ab_psh, ab_rok, ab_wsum, ab_prm, ab_ret, ab_sw, ab_cd, ab_tg, ab_cat_i, ab_cat_l, ab_cat_r, ab_cl_n, ab_cl_i, ab_cl_l, ab_cl_r, ab_f2_0, ab_f2_1, ab_f4_0, ab_f4_1, ab_f4_2, ab_f4_3, ab_op_s, ab_gI_s, ab_gL_s, ab_gR_s, ab_b1_s, ab_b2_s, ab_l1_s, ab_l2_s, ab_li_s, ab_o1_s, ab_io_s, ab_lo1_s, ab_iio_s, ab_lio_s, ab_cp5_s, ab_d2_l, ab_d2_i, ab_d2_o, ex_iconst, ex_bipush, ex_sipush, ex_lconst, ex_ldc, ex_ldc_w, ex_ldc2_w, ex_iload_n, ex_iload, ex_lload_n, ex_lload, ex_aload_n, ex_aload, ex_istore_n, ex_istore, ex_lstore_n, ex_lstore, ex_iinc, ex_iadd, ex_isub, ex_imul, ex_iand, ex_ior, ex_ixor, ex_ishl, ex_ishr, ex_iushr, ex_idiv, ex_irem, ex_ladd, ex_lsub, ex_lmul, ex_lor, ex_ldiv, ex_lrem, ex_lshl, ex_lcmp, ex_ineg, ex_lneg, ex_i2l, ex_l2i, ex_i2b, ex_dup, ex_pop, ex_dup2, ex_goto, ex_ifCond, ex_if_icmp, ex_tableswitch, ex_getfield, ex_putfield, ex_iaload, ex_laload, ex_baload, ex_iastore, ex_lastore, ex_bastore, ex_aaload, ex_arraylength, ex_invokevirtual, ex_invokestatic, ex_ireturn, ex_lreturn, ex_return_, List.map_cons, List.map_nil, List.sum_cons, List.sum_nil, List.drop_succ_cons, List.drop_zero, List.take_succ_cons, List.take_zero, List.reverse_cons, List.reverse_nil, List.nil_append, List.cons_append, List.length_cons, List.length_nil, true_and, and_true, cond_false, cond_true, Bool.false_or, Bool.or_false, Bool.or_true, Bool.true_or, true_or, or_true, false_or, or_false, if_true, if_false, reduceIte, ite_true, ite_false, implies_true, true_implies, false_implies, forall_const, not_true_eq_false, not_false_eq_true, Nat.reduceAdd, Nat.reduceMul, Nat.reduceSub, Nat.reduceBEq, Nat.reduceEqDiff, Nat.reduceLeDiff, Nat.reduceLT, Int.reduceAdd, Int.reduceSub, Int.reduceMul, Int.reduceNeg, Int.reduceToNat, Int.reduceLE, Int.reduceLT, Int.reduceEq, Int.reduceNe, Int.reduceNatCast, Nat.add_zero, Nat.zero_add, reduceCtorEq, Int.reduceNatCast', moX12_gives, dX12_gives_0, dX12_gives_1, dX12_gives_3, dX12_gives_4, dX12_gives_6, dX12_gives_8, dX12_gives_9, gt2_12_329_0, dX12_gives_12, dX12_gives_15, dX12_gives_17, dX12_gives_18, dX12_gives_20, dX12_gives_21, dX12_gives_22, dX12_gives_23, dX12_gives_24, dX12_gives_26, dX12_gives_29, dX12_gives_32, dX12_gives_34, dX12_gives_37, dX12_gives_38, dX12_gives_39, gt2_12_377_0, dX12_gives_42, dX12_gives_43, dX12_gives_44, pt2_12_377_0, dX12_gives_47, dX12_gives_48, dX12_gives_50, dX12_gives_52, dX12_gives_53, dX12_gives_56, dX12_gives_59, dX12_gives_60, dX12_gives_62, dX12_gives_63, dX12_gives_64, dX12_gives_65, dX12_gives_66, dX12_gives_69, dX12_gives_70, gt2_12_122_0, dX12_gives_73, dX12_gives_75, dX12_gives_76, dX12_gives_77, dX12_gives_78, dX12_gives_80, dX12_gives_81, dX12_gives_82, dX12_gives_83, dX12_gives_84, dX12_gives_87, dX12_gives_90, ar2_0, ar2_1, ar2_10, ar2_11, ar2_12, ar2_13, ar2_14, ar2_15, ar2_16, ar2_17, ar2_18, ar2_19, ar2_2, ar2_20, ar2_21, ar2_22, ar2_23, ar2_24, ar2_25, ar2_26, ar2_27, ar2_28, ar2_29, ar2_3, ar2_30, ar2_31, ar2_32, ar2_33, ar2_34, ar2_35, ar2_36, ar2_37, ar2_38, ar2_39, ar2_4, ar2_40, ar2_41, ar2_42, ar2_43, ar2_44, ar2_45, ar2_46, ar2_47, ar2_48, ar2_49, ar2_5, ar2_50, ar2_51, ar2_52, ar2_6, ar2_7, ar2_8, ar2_9, lk_0, lk_1, lk_3, lk_4, lk_5, st1_4, st1_5]
      repeat' (with_reducible (first | apply And.intro | intro _))
      all_goals first | omega | skip
      · rename_i hq hq2
        have hze := hze hq
        have hbz : b ≠ 0 := by
          rintro rfl
          exact hq2 hze
        rw [hze]
        refine key2 5 0 τ (by omega) (by omega) (by omega) (fun _ _ _ => rfl) (fun _ _ => rfl) ?_ (fun j j1 j2 => by omega) (fun _ _ => rfl)
        rw [if_neg hbz]
        omega
      · rename_i hq hq2
        have hze := hze hq
        have hbz : b = 0 := by
          apply Classical.byContradiction
          intro z
          have := hp0 z
          omega
        rw [hze]
        refine key2 5 0 _ (by omega) (by omega) (by omega) (fun o o1 o2 => ?_) (fun k k1 => ?_) ?_ (fun j j1 j2 => by omega) (fun j _ => rfl)
        · exact ab_up_o o o1
        · show (if k = 60 then _ else τ 0 k) = _
          rw [if_neg k1]
        · rw [if_pos hbz]
          rfl
      · rw [z_bj hb (by omega)]
        exact ih' (by omega) (by omega)
  apply hG [6] 60
  simp only [cq_lt, cq_le, cq_gt, cq_ge, cq_eq, cq_r1, cq_r2, ab_r32, ab_r64, ab_go, ab_stp, wp_z, wp_s, ab_in, ab_gv, ab_psh, ab_rok, ab_wsum, ab_prm, ab_ret, ab_sw, ab_cd, ab_tg, ab_cat_i, ab_cat_l, ab_cat_r, ab_cl_n, ab_cl_i, ab_cl_l, ab_cl_r, ab_f2_0, ab_f2_1, ab_f4_0, ab_f4_1, ab_f4_2, ab_f4_3, ab_op_s, ab_gI_s, ab_gL_s, ab_gR_s, ab_b1_s, ab_b2_s, ab_l1_s, ab_l2_s, ab_li_s, ab_o1_s, ab_io_s, ab_lo1_s, ab_iio_s, ab_lio_s, ab_cp5_s, ab_d2_l, ab_d2_i, ab_d2_o, ex_iconst, ex_bipush, ex_sipush, ex_lconst, ex_ldc, ex_ldc_w, ex_ldc2_w, ex_iload_n, ex_iload, ex_lload_n, ex_lload, ex_aload_n, ex_aload, ex_istore_n, ex_istore, ex_lstore_n, ex_lstore, ex_iinc, ex_iadd, ex_isub, ex_imul, ex_iand, ex_ior, ex_ixor, ex_ishl, ex_ishr, ex_iushr, ex_idiv, ex_irem, ex_ladd, ex_lsub, ex_lmul, ex_lor, ex_ldiv, ex_lrem, ex_lshl, ex_lcmp, ex_ineg, ex_lneg, ex_i2l, ex_l2i, ex_i2b, ex_dup, ex_pop, ex_dup2, ex_goto, ex_ifCond, ex_if_icmp, ex_tableswitch, ex_getfield, ex_putfield, ex_iaload, ex_laload, ex_baload, ex_iastore, ex_lastore, ex_bastore, ex_aaload, ex_arraylength, ex_invokevirtual, ex_invokestatic, ex_ireturn, ex_lreturn, ex_return_, List.map_cons, List.map_nil, List.sum_cons, List.sum_nil, List.drop_succ_cons, List.drop_zero, List.take_succ_cons, List.take_zero, List.reverse_cons, List.reverse_nil, List.nil_append, List.cons_append, List.length_cons, List.length_nil, true_and, and_true, cond_false, cond_true, Bool.false_or, Bool.or_false, Bool.or_true, Bool.true_or, true_or, or_true, false_or, or_false, if_true, if_false, reduceIte, ite_true, ite_false, implies_true, true_implies, false_implies, forall_const, not_true_eq_false, not_false_eq_true, Nat.reduceAdd, Nat.reduceMul, Nat.reduceSub, Nat.reduceBEq, Nat.reduceEqDiff, Nat.reduceLeDiff, Nat.reduceLT, Int.reduceAdd, Int.reduceSub, Int.reduceMul, Int.reduceNeg, Int.reduceToNat, Int.reduceLE, Int.reduceLT, Int.reduceEq, Int.reduceNe, Int.reduceNatCast, Nat.add_zero, Nat.zero_add, reduceCtorEq, Int.reduceNatCast', moX12_gives, dX12_gives_0, dX12_gives_1, dX12_gives_3, dX12_gives_4, dX12_gives_6, dX12_gives_8, dX12_gives_9, gt2_12_329_0, dX12_gives_12, dX12_gives_15, dX12_gives_17, dX12_gives_18, dX12_gives_20, dX12_gives_21, dX12_gives_22, dX12_gives_23, dX12_gives_24, dX12_gives_26, dX12_gives_29, dX12_gives_32, dX12_gives_34, dX12_gives_37, dX12_gives_38, dX12_gives_39, gt2_12_377_0, dX12_gives_42, dX12_gives_43, dX12_gives_44, pt2_12_377_0, dX12_gives_47, dX12_gives_48, dX12_gives_50, dX12_gives_52, dX12_gives_53, dX12_gives_56, dX12_gives_59, dX12_gives_60, dX12_gives_62, dX12_gives_63, dX12_gives_64, dX12_gives_65, dX12_gives_66, dX12_gives_69, dX12_gives_70, gt2_12_122_0, dX12_gives_73, dX12_gives_75, dX12_gives_76, dX12_gives_77, dX12_gives_78, dX12_gives_80, dX12_gives_81, dX12_gives_82, dX12_gives_83, dX12_gives_84, dX12_gives_87, dX12_gives_90, ar2_0, ar2_1, ar2_10, ar2_11, ar2_12, ar2_13, ar2_14, ar2_15, ar2_16, ar2_17, ar2_18, ar2_19, ar2_2, ar2_20, ar2_21, ar2_22, ar2_23, ar2_24, ar2_25, ar2_26, ar2_27, ar2_28, ar2_29, ar2_3, ar2_30, ar2_31, ar2_32, ar2_33, ar2_34, ar2_35, ar2_36, ar2_37, ar2_38, ar2_39, ar2_4, ar2_40, ar2_41, ar2_42, ar2_43, ar2_44, ar2_45, ar2_46, ar2_47, ar2_48, ar2_49, ar2_5, ar2_50, ar2_51, ar2_52, ar2_6, ar2_7, ar2_8, ar2_9, lk_0, lk_1, lk_3, lk_4, lk_5, st1_4, st1_5]
  exact key1 5 0 (by omega) (by omega)
set_option maxRecDepth 100000 in
set_option maxHeartbeats 4000000 in
theorem y_paces {ω τ : ab_S} {sp rp : Int → Int} {K : ab_V → ab_S → Prop} (hJ : zJ ω) (hK : zK ω) (hL : yLd ω sp rp τ) (ho : zOk ω sp (zpr ω rp)) (h : ∀ f, yRw ω sp (ab_set τ 32 f) → K (vI 0) (ab_set τ 32 f)) : ab_Runs ab_G2 mdX12_paces [vR 0] τ K := by
  refine ab_runs mwX12_paces (by decide +kernel) (Nat.le_of_ble_eq_true rfl) (fun G hG => ?_)
  show G 0 [some (vR 0), none, none] [] _
  have hn := hK.1
  have hT1 := hJ.1.1
  have hse := hL.2.1
  have r1 := hL.1.1
  have hLf : ∀ f, yLd ω sp rp (ab_set τ 32 f) := fun f => hL
  have key : ∀ (m : Nat) (i : Int) (f : Int → Int) (z2 : Option ab_V), ω 34 5 - i < m → 0 ≤ i → i ≤ ω 34 5 → (∀ j, 0 ≤ j → j < i → ∀ c, 0 ≤ c → c < ω 3 8 → zFs (zRe ω (sp j) c) (f (12 * j + c)) ∧ f (12 * j + c) ≤ 1000012) → G 2 [some (vR 0), some (vI i), z2] [] (ab_set τ 32 f) := by
    intro m
    induction m with
    | zero => intro i f z2 h1 h2 h3; omega
    | succ m ih =>
      intro i f z2 h1 h2 h3 hf
      have key2 : i < ω 34 5 → ∀ (m : Nat) (k : Int) (f : Int → Int), ω 3 8 - k < m → 0 ≤ k → k ≤ ω 3 8 → (∀ j, 0 ≤ j → j < i → ∀ c, 0 ≤ c → c < ω 3 8 → zFs (zRe ω (sp j) c) (f (12 * j + c)) ∧ f (12 * j + c) ≤ 1000012) → (∀ c, 0 ≤ c → c < k → zFs (zRe ω (sp i) c) (f (12 * i + c)) ∧ f (12 * i + c) ≤ 1000012) → G 12 [some (vR 0), some (vI i), some (vI k)] [] (ab_set τ 32 f) := by
        intro hi m
        induction m with
        | zero => intro k f h1 h2 h3; omega
        | succ m ihk =>
          intro k f h1 h2 h3 hf hf2
          have hsi : τ 26 i = sp i := (hL.2.2 i (by omega) hi).1
          apply hG [2, 12] 60
          simp only [cq_lt, cq_le, cq_gt, cq_ge, cq_eq, cq_r1, cq_r2, ab_r32, ab_r64, ab_go, ab_stp, wp_z, wp_s, ab_in, ab_gv, ab_psh, ab_rok, ab_wsum, ab_prm, ab_ret, ab_sw, ab_cd, ab_tg, ab_cat_i, ab_cat_l, ab_cat_r, ab_cl_n, ab_cl_i, ab_cl_l, ab_cl_r, ab_f2_0, ab_f2_1, ab_f4_0, ab_f4_1, ab_f4_2, ab_f4_3, ab_op_s, ab_gI_s, ab_gL_s, ab_gR_s, ab_b1_s, ab_b2_s, ab_l1_s, ab_l2_s, ab_li_s, ab_o1_s, ab_io_s, ab_lo1_s, ab_iio_s, ab_lio_s, ab_cp5_s, ab_d2_l, ab_d2_i, ab_d2_o, ex_iconst, ex_bipush, ex_sipush, ex_lconst, ex_ldc, ex_ldc_w, ex_ldc2_w, ex_iload_n, ex_iload, ex_lload_n, ex_lload, ex_aload_n, ex_aload, ex_istore_n, ex_istore, ex_lstore_n, ex_lstore, ex_iinc, ex_iadd, ex_isub, ex_imul, ex_iand, ex_ior, ex_ixor, ex_ishl, ex_ishr, ex_iushr, ex_idiv, ex_irem, ex_ladd, ex_lsub, ex_lmul, ex_lor, ex_ldiv, ex_lrem, ex_lshl, ex_lcmp, ex_ineg, ex_lneg, ex_i2l, ex_l2i, ex_i2b, ex_dup, ex_pop, ex_dup2, ex_goto, ex_ifCond, ex_if_icmp, ex_tableswitch, ex_getfield, ex_putfield, ex_iaload, ex_laload, ex_baload, ex_iastore, ex_lastore, ex_bastore, ex_aaload, ex_arraylength, ex_invokevirtual, ex_invokestatic, ex_ireturn, ex_lreturn, ex_return_, List.map_cons, List.map_nil, List.sum_cons, List.sum_nil, List.drop_succ_cons, List.drop_zero, List.take_succ_cons, List.take_zero, List.reverse_cons, List.reverse_nil, List.nil_append, List.cons_append, List.length_cons, List.length_nil, true_and, and_true, cond_false, cond_true, Bool.false_or, Bool.or_false, Bool.or_true, Bool.true_or, true_or, or_true, false_or, or_false, if_true, if_false, reduceIte, ite_true, ite_false, implies_true, true_implies, false_implies, forall_const, not_true_eq_false, not_false_eq_true, Nat.reduceAdd, Nat.reduceMul, Nat.reduceSub, Nat.reduceBEq, Nat.reduceEqDiff, Nat.reduceLeDiff, Nat.reduceLT, Int.reduceAdd, Int.reduceSub, Int.reduceMul, Int.reduceNeg, Int.reduceToNat, Int.reduceLE, Int.reduceLT, Int.reduceEq, Int.reduceNe, Int.reduceNatCast, Nat.add_zero, Nat.zero_add, reduceCtorEq, Int.reduceNatCast', moX12_paces, dX12_paces_0, dX12_paces_1, dX12_paces_2, dX12_paces_3, dX12_paces_4, gt2_12_329_0, dX12_paces_7, dX12_paces_10, dX12_paces_11, dX12_paces_12, dX12_paces_13, dX12_paces_14, gt2_12_272_0, dX12_paces_17, dX12_paces_20, dX12_paces_21, gt2_12_125_0, dX12_paces_24, dX12_paces_26, dX12_paces_27, dX12_paces_28, dX12_paces_29, dX12_paces_30, dX12_paces_31, dX12_paces_32, gt2_12_107_0, dX12_paces_35, dX12_paces_36, dX12_paces_37, dX12_paces_38, vn12_364, iv12_364_11, moX12_toCorner, dX12_paces_41, dX12_paces_42, dX12_paces_45, dX12_paces_48, dX12_paces_51, dX12_paces_54, ar2_0, ar2_1, ar2_10, ar2_11, ar2_12, ar2_13, ar2_14, ar2_15, ar2_16, ar2_17, ar2_18, ar2_19, ar2_2, ar2_20, ar2_21, ar2_22, ar2_23, ar2_24, ar2_25, ar2_26, ar2_27, ar2_28, ar2_29, ar2_3, ar2_30, ar2_31, ar2_32, ar2_33, ar2_34, ar2_35, ar2_36, ar2_37, ar2_38, ar2_39, ar2_4, ar2_40, ar2_41, ar2_42, ar2_43, ar2_44, ar2_45, ar2_46, ar2_47, ar2_48, ar2_49, ar2_5, ar2_50, ar2_51, ar2_52, ar2_6, ar2_7, ar2_8, ar2_9, lk_0, lk_1, lk_2, st1_1, st1_2, ab_set, r1, hsi]
          repeat' (with_reducible (first | apply And.intro | intro _))
          all_goals first | omega | skip
          · rename_i hq
            refine ih (i + 1) f _ (by omega) (by omega) (by omega) (fun j j1 j2 c c1 c2 => ?_)
            by_cases e : j = i
            · rw [e]
              exact hf2 c c1 (by omega)
            · exact hf j j1 (by omega) c c1 c2
          · rename_i hq
            refine y_toC hJ (hLf f).1 (ho i (by omega) hi).1 ⟨by omega, by omega⟩ (fun v hv hv2 => ?_)
            try simp only [cq_lt, cq_le, cq_gt, cq_ge, cq_eq, cq_r1, cq_r2, ab_r32, ab_r64, ab_go, ab_stp, wp_z, wp_s, ab_in, ab_gv, ab_psh, ab_rok, ab_wsum, ab_prm, ab_ret, ab_sw, ab_cd, ab_tg, ab_cat_i, ab_cat_l, ab_cat_r, ab_cl_n, ab_cl_i, ab_cl_l, ab_cl_r, ab_f2_0, ab_f2_1, ab_f4_0, ab_f4_1, ab_f4_2, ab_f4_3, ab_op_s, ab_gI_s, ab_gL_s, ab_gR_s, ab_b1_s, ab_b2_s, ab_l1_s, ab_l2_s, ab_li_s, ab_o1_s, ab_io_s, ab_lo1_s, ab_iio_s, ab_lio_s, ab_cp5_s, ab_d2_l, ab_d2_i, ab_d2_o, ex_iconst, ex_bipush, ex_sipush, ex_lconst, ex_ldc, ex_ldc_w, ex_ldc2_w, ex_iload_n, ex_iload, ex_lload_n, ex_lload, ex_aload_n, ex_aload, ex_istore_n, ex_istore, ex_lstore_n, ex_lstore, ex_iinc, ex_iadd, ex_isub, ex_imul, ex_iand, ex_ior, ex_ixor, ex_ishl, ex_ishr, ex_iushr, ex_idiv, ex_irem, ex_ladd, ex_lsub, ex_lmul, ex_lor, ex_ldiv, ex_lrem, ex_lshl, ex_lcmp, ex_ineg, ex_lneg, ex_i2l, ex_l2i, ex_i2b, ex_dup, ex_pop, ex_dup2, ex_goto, ex_ifCond, ex_if_icmp, ex_tableswitch, ex_getfield, ex_putfield, ex_iaload, ex_laload, ex_baload, ex_iastore, ex_lastore, ex_bastore, ex_aaload, ex_arraylength, ex_invokevirtual, ex_invokestatic, ex_ireturn, ex_lreturn, ex_return_, List.map_cons, List.map_nil, List.sum_cons, List.sum_nil, List.drop_succ_cons, List.drop_zero, List.take_succ_cons, List.take_zero, List.reverse_cons, List.reverse_nil, List.nil_append, List.cons_append, List.length_cons, List.length_nil, true_and, and_true, cond_false, cond_true, Bool.false_or, Bool.or_false, Bool.or_true, Bool.true_or, true_or, or_true, false_or, or_false, if_true, if_false, reduceIte, ite_true, ite_false, implies_true, true_implies, false_implies, forall_const, not_true_eq_false, not_false_eq_true, Nat.reduceAdd, Nat.reduceMul, Nat.reduceSub, Nat.reduceBEq, Nat.reduceEqDiff, Nat.reduceLeDiff, Nat.reduceLT, Int.reduceAdd, Int.reduceSub, Int.reduceMul, Int.reduceNeg, Int.reduceToNat, Int.reduceLE, Int.reduceLT, Int.reduceEq, Int.reduceNe, Int.reduceNatCast, Nat.add_zero, Nat.zero_add, reduceCtorEq, Int.reduceNatCast', moX12_paces, dX12_paces_0, dX12_paces_1, dX12_paces_2, dX12_paces_3, dX12_paces_4, gt2_12_329_0, dX12_paces_7, dX12_paces_10, dX12_paces_11, dX12_paces_12, dX12_paces_13, dX12_paces_14, gt2_12_272_0, dX12_paces_17, dX12_paces_20, dX12_paces_21, gt2_12_125_0, dX12_paces_24, dX12_paces_26, dX12_paces_27, dX12_paces_28, dX12_paces_29, dX12_paces_30, dX12_paces_31, dX12_paces_32, gt2_12_107_0, dX12_paces_35, dX12_paces_36, dX12_paces_37, dX12_paces_38, vn12_364, iv12_364_11, moX12_toCorner, dX12_paces_41, dX12_paces_42, dX12_paces_45, dX12_paces_48, dX12_paces_51, dX12_paces_54, ar2_0, ar2_1, ar2_10, ar2_11, ar2_12, ar2_13, ar2_14, ar2_15, ar2_16, ar2_17, ar2_18, ar2_19, ar2_2, ar2_20, ar2_21, ar2_22, ar2_23, ar2_24, ar2_25, ar2_26, ar2_27, ar2_28, ar2_29, ar2_3, ar2_30, ar2_31, ar2_32, ar2_33, ar2_34, ar2_35, ar2_36, ar2_37, ar2_38, ar2_39, ar2_4, ar2_40, ar2_41, ar2_42, ar2_43, ar2_44, ar2_45, ar2_46, ar2_47, ar2_48, ar2_49, ar2_5, ar2_50, ar2_51, ar2_52, ar2_6, ar2_7, ar2_8, ar2_9, lk_0, lk_1, lk_2, st1_1, st1_2]
            repeat' (with_reducible (first | apply And.intro | intro _))
            all_goals first | omega | skip
            have := ihk (k + 1) (zu f (12 * i + k) v) (by omega) (by omega) (by omega) (fun j j1 j2 c c1 c2 => ?_) (fun c c1 c2 => ?_)
            · rw [← ab_up_set] at this
              exact this
            · rw [zu_ne _ _ (by omega)]
              exact hf j j1 j2 c c1 c2
            · by_cases e : c = k
              · rw [e, zu_at]
                exact ⟨hv, hv2.2⟩
              · rw [zu_ne _ _ (by omega)]
                exact hf2 c c1 (by omega)
      apply hG [2, 12] 60
      simp only [cq_lt, cq_le, cq_gt, cq_ge, cq_eq, cq_r1, cq_r2, ab_r32, ab_r64, ab_go, ab_stp, wp_z, wp_s, ab_in, ab_gv, ab_psh, ab_rok, ab_wsum, ab_prm, ab_ret, ab_sw, ab_cd, ab_tg, ab_cat_i, ab_cat_l, ab_cat_r, ab_cl_n, ab_cl_i, ab_cl_l, ab_cl_r, ab_f2_0, ab_f2_1, ab_f4_0, ab_f4_1, ab_f4_2, ab_f4_3, ab_op_s, ab_gI_s, ab_gL_s, ab_gR_s, ab_b1_s, ab_b2_s, ab_l1_s, ab_l2_s, ab_li_s, ab_o1_s, ab_io_s, ab_lo1_s, ab_iio_s, ab_lio_s, ab_cp5_s, ab_d2_l, ab_d2_i, ab_d2_o, ex_iconst, ex_bipush, ex_sipush, ex_lconst, ex_ldc, ex_ldc_w, ex_ldc2_w, ex_iload_n, ex_iload, ex_lload_n, ex_lload, ex_aload_n, ex_aload, ex_istore_n, ex_istore, ex_lstore_n, ex_lstore, ex_iinc, ex_iadd, ex_isub, ex_imul, ex_iand, ex_ior, ex_ixor, ex_ishl, ex_ishr, ex_iushr, ex_idiv, ex_irem, ex_ladd, ex_lsub, ex_lmul, ex_lor, ex_ldiv, ex_lrem, ex_lshl, ex_lcmp, ex_ineg, ex_lneg, ex_i2l, ex_l2i, ex_i2b, ex_dup, ex_pop, ex_dup2, ex_goto, ex_ifCond, ex_if_icmp, ex_tableswitch, ex_getfield, ex_putfield, ex_iaload, ex_laload, ex_baload, ex_iastore, ex_lastore, ex_bastore, ex_aaload, ex_arraylength, ex_invokevirtual, ex_invokestatic, ex_ireturn, ex_lreturn, ex_return_, List.map_cons, List.map_nil, List.sum_cons, List.sum_nil, List.drop_succ_cons, List.drop_zero, List.take_succ_cons, List.take_zero, List.reverse_cons, List.reverse_nil, List.nil_append, List.cons_append, List.length_cons, List.length_nil, true_and, and_true, cond_false, cond_true, Bool.false_or, Bool.or_false, Bool.or_true, Bool.true_or, true_or, or_true, false_or, or_false, if_true, if_false, reduceIte, ite_true, ite_false, implies_true, true_implies, false_implies, forall_const, not_true_eq_false, not_false_eq_true, Nat.reduceAdd, Nat.reduceMul, Nat.reduceSub, Nat.reduceBEq, Nat.reduceEqDiff, Nat.reduceLeDiff, Nat.reduceLT, Int.reduceAdd, Int.reduceSub, Int.reduceMul, Int.reduceNeg, Int.reduceToNat, Int.reduceLE, Int.reduceLT, Int.reduceEq, Int.reduceNe, Int.reduceNatCast, Nat.add_zero, Nat.zero_add, reduceCtorEq, Int.reduceNatCast', moX12_paces, dX12_paces_0, dX12_paces_1, dX12_paces_2, dX12_paces_3, dX12_paces_4, gt2_12_329_0, dX12_paces_7, dX12_paces_10, dX12_paces_11, dX12_paces_12, dX12_paces_13, dX12_paces_14, gt2_12_272_0, dX12_paces_17, dX12_paces_20, dX12_paces_21, gt2_12_125_0, dX12_paces_24, dX12_paces_26, dX12_paces_27, dX12_paces_28, dX12_paces_29, dX12_paces_30, dX12_paces_31, dX12_paces_32, gt2_12_107_0, dX12_paces_35, dX12_paces_36, dX12_paces_37, dX12_paces_38, vn12_364, iv12_364_11, moX12_toCorner, dX12_paces_41, dX12_paces_42, dX12_paces_45, dX12_paces_48, dX12_paces_51, dX12_paces_54, ar2_0, ar2_1, ar2_10, ar2_11, ar2_12, ar2_13, ar2_14, ar2_15, ar2_16, ar2_17, ar2_18, ar2_19, ar2_2, ar2_20, ar2_21, ar2_22, ar2_23, ar2_24, ar2_25, ar2_26, ar2_27, ar2_28, ar2_29, ar2_3, ar2_30, ar2_31, ar2_32, ar2_33, ar2_34, ar2_35, ar2_36, ar2_37, ar2_38, ar2_39, ar2_4, ar2_40, ar2_41, ar2_42, ar2_43, ar2_44, ar2_45, ar2_46, ar2_47, ar2_48, ar2_49, ar2_5, ar2_50, ar2_51, ar2_52, ar2_6, ar2_7, ar2_8, ar2_9, lk_0, lk_1, lk_2, st1_1, st1_2, ab_set, hse]
      repeat' (with_reducible (first | apply And.intro | intro _))
      all_goals first | omega | skip
      · rename_i hq
        exact h f (fun j j1 j2 c c1 c2 => hf j j1 (by omega) c c1 c2)
      · exact key2 (by omega) 13 0 f (by omega) (by omega) (by omega) hf (fun c c1 c2 => by omega)
  apply hG [2] 60
  simp only [cq_lt, cq_le, cq_gt, cq_ge, cq_eq, cq_r1, cq_r2, ab_r32, ab_r64, ab_go, ab_stp, wp_z, wp_s, ab_in, ab_gv, ab_psh, ab_rok, ab_wsum, ab_prm, ab_ret, ab_sw, ab_cd, ab_tg, ab_cat_i, ab_cat_l, ab_cat_r, ab_cl_n, ab_cl_i, ab_cl_l, ab_cl_r, ab_f2_0, ab_f2_1, ab_f4_0, ab_f4_1, ab_f4_2, ab_f4_3, ab_op_s, ab_gI_s, ab_gL_s, ab_gR_s, ab_b1_s, ab_b2_s, ab_l1_s, ab_l2_s, ab_li_s, ab_o1_s, ab_io_s, ab_lo1_s, ab_iio_s, ab_lio_s, ab_cp5_s, ab_d2_l, ab_d2_i, ab_d2_o, ex_iconst, ex_bipush, ex_sipush, ex_lconst, ex_ldc, ex_ldc_w, ex_ldc2_w, ex_iload_n, ex_iload, ex_lload_n, ex_lload, ex_aload_n, ex_aload, ex_istore_n, ex_istore, ex_lstore_n, ex_lstore, ex_iinc, ex_iadd, ex_isub, ex_imul, ex_iand, ex_ior, ex_ixor, ex_ishl, ex_ishr, ex_iushr, ex_idiv, ex_irem, ex_ladd, ex_lsub, ex_lmul, ex_lor, ex_ldiv, ex_lrem, ex_lshl, ex_lcmp, ex_ineg, ex_lneg, ex_i2l, ex_l2i, ex_i2b, ex_dup, ex_pop, ex_dup2, ex_goto, ex_ifCond, ex_if_icmp, ex_tableswitch, ex_getfield, ex_putfield, ex_iaload, ex_laload, ex_baload, ex_iastore, ex_lastore, ex_bastore, ex_aaload, ex_arraylength, ex_invokevirtual, ex_invokestatic, ex_ireturn, ex_lreturn, ex_return_, List.map_cons, List.map_nil, List.sum_cons, List.sum_nil, List.drop_succ_cons, List.drop_zero, List.take_succ_cons, List.take_zero, List.reverse_cons, List.reverse_nil, List.nil_append, List.cons_append, List.length_cons, List.length_nil, true_and, and_true, cond_false, cond_true, Bool.false_or, Bool.or_false, Bool.or_true, Bool.true_or, true_or, or_true, false_or, or_false, if_true, if_false, reduceIte, ite_true, ite_false, implies_true, true_implies, false_implies, forall_const, not_true_eq_false, not_false_eq_true, Nat.reduceAdd, Nat.reduceMul, Nat.reduceSub, Nat.reduceBEq, Nat.reduceEqDiff, Nat.reduceLeDiff, Nat.reduceLT, Int.reduceAdd, Int.reduceSub, Int.reduceMul, Int.reduceNeg, Int.reduceToNat, Int.reduceLE, Int.reduceLT, Int.reduceEq, Int.reduceNe, Int.reduceNatCast, Nat.add_zero, Nat.zero_add, reduceCtorEq, Int.reduceNatCast', moX12_paces, dX12_paces_0, dX12_paces_1, dX12_paces_2, dX12_paces_3, dX12_paces_4, gt2_12_329_0, dX12_paces_7, dX12_paces_10, dX12_paces_11, dX12_paces_12, dX12_paces_13, dX12_paces_14, gt2_12_272_0, dX12_paces_17, dX12_paces_20, dX12_paces_21, gt2_12_125_0, dX12_paces_24, dX12_paces_26, dX12_paces_27, dX12_paces_28, dX12_paces_29, dX12_paces_30, dX12_paces_31, dX12_paces_32, gt2_12_107_0, dX12_paces_35, dX12_paces_36, dX12_paces_37, dX12_paces_38, vn12_364, iv12_364_11, moX12_toCorner, dX12_paces_41, dX12_paces_42, dX12_paces_45, dX12_paces_48, dX12_paces_51, dX12_paces_54, ar2_0, ar2_1, ar2_10, ar2_11, ar2_12, ar2_13, ar2_14, ar2_15, ar2_16, ar2_17, ar2_18, ar2_19, ar2_2, ar2_20, ar2_21, ar2_22, ar2_23, ar2_24, ar2_25, ar2_26, ar2_27, ar2_28, ar2_29, ar2_3, ar2_30, ar2_31, ar2_32, ar2_33, ar2_34, ar2_35, ar2_36, ar2_37, ar2_38, ar2_39, ar2_4, ar2_40, ar2_41, ar2_42, ar2_43, ar2_44, ar2_45, ar2_46, ar2_47, ar2_48, ar2_49, ar2_5, ar2_50, ar2_51, ar2_52, ar2_6, ar2_7, ar2_8, ar2_9, lk_0, lk_1, lk_2, st1_1, st1_2]
  have := key 5 0 (τ 32) none (by omega) (by omega) (by omega) (fun j j1 j2 => by omega)
  rw [ab_set_self] at this
  exact this
/-- the model's sums -/
def yBt (ω : ab_S) (sp pr : Int → Int) (s c : Int) : Int := zbits (ω 34 5) (zCX (zmk ω sp pr) 65 s (2 * c + 1)) (4 * ω 3 11)
def yC1 (ω : ab_S) (sp pr : Int → Int) (j : Int) (k : Nat) : Int := zS (fun i => zbj (zM ω sp pr i) j * (24 * ω 3 10 * ω 6 i / zpop (zM ω sp pr i))) k
def yC3 (ω : ab_S) (sp pr : Int → Int) (j s : Int) (c : Nat) : Int := zS (fun i => zbj (yBt ω sp pr s i) j * (12 * ω 11 s / zpop (yBt ω sp pr s i))) c
def yC2 (ω : ab_S) (sp pr : Int → Int) (j : Int) (s : Nat) : Int := zS (fun i => if ω 30 i = 0 then yC3 ω sp pr j i (2 * (ω 3 10 * ω 10 i)).toNat else 0) s
def yH1 (ω : ab_S) (sp pr : Int → Int) (k : Nat) : Int := zS (fun i => if zM ω sp pr i = 0 then 24 * ω 3 10 * ω 6 i else 0) k
def yH3 (ω : ab_S) (sp pr : Int → Int) (s : Int) (c : Nat) : Int := zS (fun i => if yBt ω sp pr s i = 0 then 12 * ω 11 s else 0) c
def yH2 (ω : ab_S) (sp pr : Int → Int) (s : Nat) : Int := zS (fun i => if ω 30 i = 0 then yH3 ω sp pr i (2 * (ω 3 10 * ω 10 i)).toNat else 0) s
theorem yC3_0 {ω : ab_S} {sp pr : Int → Int} {j s : Int} {c : Nat} (h : ω 11 s = 0) : yC3 ω sp pr j s c = 0 ∧ yH3 ω sp pr s c = 0 := by
  constructor
  · refine zS_zero (fun i _ => ?_)
    rw [h]
    simp
  · refine zS_zero (fun i _ => ?_)
    rw [h]
    simp
theorem zH_sum (ω : ab_S) (sp pr : Int → Int) : zH ω sp pr = yH1 ω sp pr (ω 3 8).toNat + yH2 ω sp pr (ω 3 9).toNat := by
  unfold zH zTal yH1 yH2
  congr 1
  refine zS_congr (fun i hi => ?_)
  show (if ω 30 i = 0 then 12 * ω 11 i * zCells (zmk ω sp pr) 65 i 0 (2 * (ω 3 10 * ω 10 i)).toNat else 0) = _
  split
  · unfold zCells yH3
    rw [← zS_mul]
    refine zS_congr (fun l hl => ?_)
    show 12 * ω 11 i * (if yBt ω sp pr i l = 0 then 1 else 0) = _
    split <;> simp
  · rfl
theorem zbj_0 (j : Int) : zbj 0 j = 0 := by
  unfold zbj
  repeat' split
  all_goals omega
theorem zwt_at {b j e : Int} (hb : 0 ≤ b ∧ b < 16) : zbj b j * (12 * e / zpop b) = e * (if b = 0 then 0 else zwt j b) := by
  by_cases h : b = 0
  · rw [if_pos h, h, zbj_0]
    simp
  · rw [if_neg h, zdiv12 (zpop_in (by omega))]
    unfold zwt
    rw [← Int.mul_assoc, Int.mul_comm]
theorem zE_sum {ω : ab_S} {sp pr : Int → Int} (j : Int) : zE ω sp pr j = yC1 ω sp pr j (ω 3 8).toNat + yC2 ω sp pr j (ω 3 9).toNat := by
  have hM : ∀ k : Nat, 0 ≤ zM ω sp pr k ∧ zM ω sp pr k < 16 := fun k => zb4_in _
  have hB : ∀ (s : Int) (k : Nat), 0 ≤ yBt ω sp pr s k ∧ yBt ω sp pr s k < 16 := fun s k => zb4_in _
  have h12 : ∀ x, 1 ≤ x → x < 16 → zTal (zmk ω sp pr) x (ω 3 8).toNat (ω 3 9).toNat = 12 * (zS (fun i => if zM ω sp pr i = x then 2 * ω 3 10 * ω 6 i else 0) (ω 3 8).toNat + zS (fun i => if ω 30 i = 0 then ω 11 i * zS (fun l => if yBt ω sp pr i l = x then 1 else 0) (2 * (ω 3 10 * ω 10 i)).toNat else 0) (ω 3 9).toNat) := by
    intro x x1 x2
    rw [Int.mul_add, ← zS_mul, ← zS_mul]
    unfold zTal
    congr 1
    · refine zS_congr (fun i hi => ?_)
      show (if zM ω sp pr i = x then 24 * ω 3 10 * ω 6 i else 0) = _
      split
      · rw [← Int.mul_assoc, ← Int.mul_assoc]
        rfl
      · rfl
    · refine zS_congr (fun i hi => ?_)
      show (if ω 30 i = 0 then 12 * ω 11 i * zCells (zmk ω sp pr) 65 i x (2 * (ω 3 10 * ω 10 i)).toNat else 0) = _
      split
      · exact Int.mul_assoc _ _ _
      · rfl
  unfold zE
  rw [zsl_12 h12]
  have e1 : ∀ i : Nat, zwt j (i + 1) * (zS (fun k => if zM ω sp pr k = (i : Int) + 1 then 2 * ω 3 10 * ω 6 k else 0) (ω 3 8).toNat + zS (fun k => if ω 30 k = 0 then ω 11 k * zS (fun l => if yBt ω sp pr k l = (i : Int) + 1 then 1 else 0) (2 * (ω 3 10 * ω 10 k)).toNat else 0) (ω 3 9).toNat) = zwt j (i + 1) * zS (fun k => if zM ω sp pr k = (i : Int) + 1 then 2 * ω 3 10 * ω 6 k else 0) (ω 3 8).toNat + zwt j (i + 1) * zS (fun k => if ω 30 k = 0 then ω 11 k * zS (fun l => if yBt ω sp pr k l = (i : Int) + 1 then 1 else 0) (2 * (ω 3 10 * ω 10 k)).toNat else 0) (ω 3 9).toNat := fun i => Int.mul_add _ _ _
  rw [zS_congr (fun i _ => e1 i), zS_sum]
  congr 1
  · rw [zS_kinds (zwt j) (fun k => 2 * ω 3 10 * ω 6 k) (fun k => zM ω sp pr k) hM]
    unfold yC1
    refine zS_congr (fun k hk => ?_)
    rw [← zwt_at (hM k)]
    congr 2
    rw [← Int.mul_assoc, ← Int.mul_assoc]
    rfl
  · -- the streets
    have h3 : ∀ (w : Nat → Int) (g : Nat → Nat → Int) (n m : Nat), zS (fun i => w i * zS (fun k => g k i) n) m = zS (fun k => zS (fun i => w i * g k i) m) n := by
      intro w g n m
      induction n with
      | zero => 
        show zS (fun i => w i * 0) m = 0
        exact zS_zero (fun i _ => by simp)
      | succ n ih =>
        rw [zS, ← ih, ← zS_sum]
        refine zS_congr (fun i _ => ?_)
        rw [zS, Int.mul_add]
    rw [h3 (fun i => zwt j (i + 1)) (fun k i => if ω 30 k = 0 then ω 11 k * zS (fun l => if yBt ω sp pr k l = (i : Int) + 1 then 1 else 0) (2 * (ω 3 10 * ω 10 k)).toNat else 0)]
    unfold yC2
    refine zS_congr (fun k hk => ?_)
    by_cases ho : ω 30 k = 0
    · rw [if_pos ho]
      have e2 : ∀ i : Nat, zwt j (i + 1) * (if ω 30 k = 0 then ω 11 k * zS (fun l => if yBt ω sp pr k l = (i : Int) + 1 then 1 else 0) (2 * (ω 3 10 * ω 10 k)).toNat else 0) = zwt j (i + 1) * zS (fun l => if yBt ω sp pr k l = (i : Int) + 1 then ω 11 k else 0) (2 * (ω 3 10 * ω 10 k)).toNat := by
        intro i
        rw [if_pos ho, ← zS_mul]
        congr 1
        refine zS_congr (fun l _ => ?_)
        split <;> simp
      rw [zS_congr (fun i _ => e2 i), zS_kinds (zwt j) (fun _ => ω 11 k) (fun l => yBt ω sp pr k l) (hB k)]
      unfold yC3
      refine zS_congr (fun l hl => ?_)
      rw [← zwt_at (hB k l)]
    · rw [if_neg ho]
      refine zS_zero (fun i _ => ?_)
      rw [if_neg ho]
      simp
