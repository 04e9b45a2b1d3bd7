-- WHAT LASTS, from the relation between two calls; CALL: far
theorem yB_J {ω τ : ab_S} (hB : yB ω τ) : zJ ω := by
  have pr := yB_pr hB
  obtain ⟨b1, b2, b3, b4, b5, b6, b7, b8, b9, b10, b11, b12, b13, b14⟩ := hB
  obtain ⟨t1, t2, t3, t4, t5, t6, t7, t8, t9⟩ := b2
  have hC := t2.1
  have hS := t2.2.1
  refine ⟨t2, ⟨fun k k1 k2 => ?_, fun s s1 s2 => t5 s s1 (by omega), zRol_sh b9, t7⟩, t4, zRol_mt t2 b9, t6, t8, pr.2, ?_⟩
  · have := t3 k k1 (by omega)
    omega
  · have := pr.1
    omega
theorem yB_K {ω τ : ab_S} (hB : yB ω τ) : zK ω := by
  obtain ⟨b1, b2, b3, b4, b5, b6, b7, b8, b9, b10, b11, b12, b13, b14⟩ := hB
  have hask := b2.2.2.2.2.2.2.2.1
  refine ⟨b6.1, fun j j1 j2 => ?_⟩
  obtain ⟨q1, q2, q3, q4, q5⟩ := b6.2.2 j j1 j2
  exact ⟨q1, ⟨Int.le_trans hask.1 q2.1, Int.le_trans q2.2 hask.2.2.1⟩, q3, q4, q5⟩
theorem yB_R {ω τ : ab_S} (hB : yB ω τ) : yR ω τ := by
  obtain ⟨b1, b2, b3, b4, b5, b6, b7, b8, b9, b10, b11, b12, b13, b14⟩ := hB
  obtain ⟨y1, y2, y3, y4, y5, y6, y7, y8, y9, y10⟩ := b3
  obtain ⟨l1, l2, l3, l4⟩ := b10
  refine ⟨y2, y3, y4, y5, y6, y7, l1, fun z => l2 (zSt_cp b2.2.1 (b6.2.2 0 (by omega) z).1), y9, fun s s1 s2 => ?_, l4⟩
  obtain ⟨u1, u2, u3, u4⟩ := y10 s s1 s2
  obtain ⟨w1, w2, w3, w4⟩ := l3 s s1 s2
  exact ⟨u1, u2, u3, u4, w1, w2, w3, w4⟩
theorem yB_L {ω τ : ab_S} (hB : yB ω τ) : yLd ω (ω 35) (ω 36) τ := by
  have hR := yB_R hB
  obtain ⟨b1, b2, b3, b4, b5, b6, b7, b8, b9, b10, b11, b12, b13, b14⟩ := hB
  exact ⟨hR, b7.1, b7.2.2⟩
/-- the class's steps between two SPOTS, and those from the first to the second -/
theorem zbt_q {ω : ab_S} {p q : Int} (hJ : zJ ω) (hp : zSt ω p) (hq : zSt ω q) : (zbt (ω 29) (ω 8) (ω 9) (ω 10) (ω 30) p q < 100000 → zDq ω p q = zbt (ω 29) (ω 8) (ω 9) (ω 10) (ω 30) p q) ∧ (100000 ≤ zbt (ω 29) (ω 8) (ω 9) (ω 10) (ω 30) p q → 100000 ≤ zDq ω p q) := by
  have hT := hJ.1
  have hM := hJ.2.2.2.1
  have rp := zSt_le hT hp
  have rq := zSt_le hT hq
  by_cases s1 : zshp (ω 30) p
  · have eb : zbt (ω 29) (ω 8) (ω 9) (ω 10) (ω 30) p q = 100000 := by
      unfold zbt
      rw [if_pos (Or.inl s1)]
    have er : ∀ c, zRe ω p c = 100000 := fun c => by
      unfold zRe zrc
      rw [if_pos s1]
    rw [eb]
    refine ⟨fun z => by omega, fun _ => ?_⟩
    unfold zDq zD
    by_cases s2 : zshp (ω 30) q
    · rw [if_pos s2]
      omega
    · rw [if_neg s2]
      by_cases c : q < 100
      · rw [if_pos c, er]
        omega
      · have hz := zSt_st hT hq (by omega)
        rw [if_neg c, if_neg (fun z => s2 ⟨by omega, by rw [← z.2]; exact s1.2⟩), er, er]
        omega
  · by_cases s2 : zshp (ω 30) q
    · have eb : zbt (ω 29) (ω 8) (ω 9) (ω 10) (ω 30) p q = 100000 := by
        unfold zbt
        rw [if_pos (Or.inr s2)]
      rw [eb]
      refine ⟨fun z => by omega, fun _ => ?_⟩
      unfold zDq
      rw [if_pos s2]
      omega
    · have e : zDq ω p q = zbt (ω 29) (ω 8) (ω 9) (ω 10) (ω 30) p q := by
        have er : ∀ c, zRe ω p c = zto (ω 29) (ω 8) (ω 9) (ω 10) p c := fun c => by
          unfold zRe zrc
          rw [if_neg s1]
        unfold zDq zD zbt
        rw [if_neg s2, if_neg (show ¬ (zshp (ω 30) p ∨ zshp (ω 30) q) from fun z => z.elim s1 s2)]
        by_cases c : q < 100
        · rw [if_pos c, if_pos c, er]
        · have hz := zSt_st hT hq (by omega)
          rw [if_neg c, if_neg c, er, er]
          by_cases d : p < 100
          · have hc := zSt_c hp d
            rw [if_neg (by omega), if_pos d]
            unfold zto
            rw [if_pos d, if_pos d, if_neg c]
            rw [hM.2.2.2.1 p _ hc.1 hc.2 hz.2.2.1.1 hz.2.2.1.2, hM.2.2.2.1 p _ hc.1 hc.2 hz.2.2.2.1.1 hz.2.2.2.1.2]
          · rw [if_neg d]
            by_cases w : (p - 100) / 20 = (q - 100) / 20
            · rw [if_pos ⟨by omega, w⟩, if_pos w]
              congr 1
              split <;> omega
            · rw [if_neg (fun z => w z.2), if_neg w]
      rw [e]
      exact ⟨fun _ => rfl, fun z => z⟩
theorem zbt_in {ω : ab_S} {p q : Int} (hT : zTn ω) (hin : zin 100000 (ω 29)) (hp : zSt ω p) (hq : zSt ω q) : 0 ≤ zbt (ω 29) (ω 8) (ω 9) (ω 10) (ω 30) p q ∧ zbt (ω 29) (ω 8) (ω 9) (ω 10) (ω 30) p q ≤ 100024 := by
  unfold zbt
  by_cases s : zshp (ω 30) p ∨ zshp (ω 30) q
  · rw [if_pos s]
    omega
  · rw [if_neg s]
    by_cases c : q < 100
    · rw [if_pos c]
      have := zto_in hT hin hp (zSt_c hq c)
      omega
    · rw [if_neg c]
      by_cases d : p < 100
      · rw [if_pos d]
        have := zto_in hT hin hq (zSt_c hp d)
        omega
      · rw [if_neg d]
        have hz := zSt_st hT hq (by omega)
        have t1 := zto_in hT hin hp hz.2.2.1
        have t2 := zto_in hT hin hp hz.2.2.2.1
        have hz1 := hz.2.1
        have hz5 := hz.2.2.2.2
        split
        · split <;> omega
        · omega
set_option maxRecDepth 100000 in
set_option maxHeartbeats 4000000 in
theorem j_far {ω τ : ab_S} {p q : Int} (hB : yB ω τ) (hp : -2147483648 ≤ p ∧ p ≤ 2147483647) (hq : -2147483648 ≤ q ∧ q ≤ 2147483647) : ab_Runs ab_G1 mdX11_far [vR 0, vI p, vI q] ω (zJn ω τ mdX12_far [vR 0, vI p, vI q]) := by
  have hJ := yB_J hB
  have hR := yB_R hB
  obtain ⟨b1, b2, b3, b4, b5, b6, b7, b8, b9, b10, b11, b12, b13, b14⟩ := id hB
  have hT := hJ.1
  have hst : ∀ s, 0 ≤ s → s < ω 3 9 → 1 ≤ ω 10 s ∧ ω 10 s ≤ 12 := fun s s1 s2 => (hT.2.2 s s1 s2).2.2
  refine ab_runs mwX11_far (by decide +kernel) (Nat.le_of_ble_eq_true rfl) (fun G hG => ?_)
  show G 0 [some (vR 0), some (vI p), some (vI q), none] [] _
  have M : ∀ x : Int, (¬ (zSt ω p ∧ zSt ω q) → x = -1) → (zSt ω p → zSt ω q → ∀ v, zFs (zDq ω p q) v → x = if v < 1000000 then v else -1) → zJn ω τ mdX12_far [vR 0, vI p, vI q] (vI x) ω := by
    intro x h0 h1
    refine ⟨zSs_rf ω, ?_⟩
    have fin : ∀ y : Int, y = x → yJn ω (vI x) (vI y) τ := fun y hy => ⟨by rw [hy], hB⟩
    refine ab_runs mwX12_far (by decide +kernel) (Nat.le_of_ble_eq_true rfl) (fun G hG => ?_)
    show G 0 [some (vR 0), some (vI p), some (vI q), none] [] _
    have bad : ¬ (zSt ω p ∧ zSt ω q) → G 16 [some (vR 0), some (vI p), some (vI q), none] [] τ := by
      intro z
      have := fin _ (h0 z).symm
      apply hG [9999] 20
      simp only [cq_lt, cq_le, cq_gt, cq_ge, cq_eq, cq_r1, cq_r2, ab_r32, ab_r64, ab_go, ab_stp, wp_z, ab_in, ab_rok, ab_wsum, ab_prm, ab_ret, ab_sw, ab_cd, ab_tg, ab_cat_i, ab_cat_l, ab_cat_r, ab_cl_n, ab_cl_i, ab_cl_l, ab_cl_r, ab_f2_0, ab_f2_1, ab_f4_0, ab_f4_1, ab_f4_2, ab_f4_3, ab_op_s, ab_b1_s, ab_b2_s, ab_l1_s, ab_l2_s, ab_li_s, ab_o1_s, ab_io_s, ab_lo1_s, ab_iio_s, ab_lio_s, ab_cp5_s, ab_d2_l, ab_d2_i, ab_d2_o, ex_iconst, ex_bipush, ex_sipush, ex_lconst, ex_ldc, ex_ldc_w, ex_ldc2_w, ex_iadd, ex_isub, ex_imul, ex_iand, ex_ior, ex_ixor, ex_ishl, ex_ishr, ex_iushr, ex_idiv, ex_irem, ex_ladd, ex_lsub, ex_lmul, ex_lor, ex_ldiv, ex_lrem, ex_lshl, ex_lcmp, ex_ineg, ex_lneg, ex_i2l, ex_l2i, ex_i2b, ex_dup, ex_pop, ex_dup2, ex_goto, ex_tableswitch, ex_aaload, ex_ireturn, ex_lreturn, ex_return_, List.map_cons, List.map_nil, List.sum_cons, List.sum_nil, List.drop_succ_cons, List.drop_zero, List.take_succ_cons, List.take_zero, List.reverse_cons, List.reverse_nil, List.nil_append, List.cons_append, List.length_cons, List.length_nil, true_and, and_true, cond_false, cond_true, Bool.false_or, Bool.or_false, Bool.or_true, Bool.true_or, true_or, or_true, false_or, or_false, if_true, if_false, reduceIte, ite_true, ite_false, implies_true, true_implies, false_implies, forall_const, not_true_eq_false, not_false_eq_true, Nat.reduceAdd, Nat.reduceMul, Nat.reduceSub, Nat.reduceBEq, Nat.reduceEqDiff, Nat.reduceLeDiff, Nat.reduceLT, Int.reduceAdd, Int.reduceSub, Int.reduceMul, Int.reduceNeg, Int.reduceToNat, Int.reduceLE, Int.reduceLT, Int.reduceEq, Int.reduceNe, Int.reduceNatCast, Nat.add_zero, Nat.zero_add, reduceCtorEq, Int.reduceNatCast', wp_c, wp_g, e2_ifCond, e2_if_icmp, ↓bq_t, ↓bq_f, ab_br, ↓ab_b1_s, ↓ab_b2_s, ↓ab_l1_s, ↓ab_l2_s, ↓ab_li_s, ↓ab_o1_s, ↓ab_io_s, ↓ab_lo1_s, ↓ab_iio_s, ↓ab_lio_s, ↓ab_cp5_s, moX12_far, dX12_far_0, dal_0, dX12_far_1, dil_1, dX12_far_2, dv2_12_370_0, moX12_isSpot, dX12_far_5, dX12_far_8, dX12_far_9, dil_2, dX12_far_10, dX12_far_13, dX12_far_16, dX12_far_17, dX12_far_18, dX12_far_19, dX12_far_20, dX12_far_21, dv2_12_374_0, moX12_farOf, dX12_far_24, dis_3, dX12_far_25, dil_3, dX12_far_26, kx12_222, dX12_far_28, dX12_far_31, dX12_far_32, dX12_far_35, dX12_far_36]
      exact this
    apply hG [16] 40
    simp only [cq_lt, cq_le, cq_gt, cq_ge, cq_eq, cq_r1, cq_r2, ab_r32, ab_r64, ab_go, ab_stp, wp_z, ab_in, ab_rok, ab_wsum, ab_prm, ab_ret, ab_sw, ab_cd, ab_tg, ab_cat_i, ab_cat_l, ab_cat_r, ab_cl_n, ab_cl_i, ab_cl_l, ab_cl_r, ab_f2_0, ab_f2_1, ab_f4_0, ab_f4_1, ab_f4_2, ab_f4_3, ab_op_s, ab_b1_s, ab_b2_s, ab_l1_s, ab_l2_s, ab_li_s, ab_o1_s, ab_io_s, ab_lo1_s, ab_iio_s, ab_lio_s, ab_cp5_s, ab_d2_l, ab_d2_i, ab_d2_o, ex_iconst, ex_bipush, ex_sipush, ex_lconst, ex_ldc, ex_ldc_w, ex_ldc2_w, ex_iadd, ex_isub, ex_imul, ex_iand, ex_ior, ex_ixor, ex_ishl, ex_ishr, ex_iushr, ex_idiv, ex_irem, ex_ladd, ex_lsub, ex_lmul, ex_lor, ex_ldiv, ex_lrem, ex_lshl, ex_lcmp, ex_ineg, ex_lneg, ex_i2l, ex_l2i, ex_i2b, ex_dup, ex_pop, ex_dup2, ex_goto, ex_tableswitch, ex_aaload, ex_ireturn, ex_lreturn, ex_return_, List.map_cons, List.map_nil, List.sum_cons, List.sum_nil, List.drop_succ_cons, List.drop_zero, List.take_succ_cons, List.take_zero, List.reverse_cons, List.reverse_nil, List.nil_append, List.cons_append, List.length_cons, List.length_nil, true_and, and_true, cond_false, cond_true, Bool.false_or, Bool.or_false, Bool.or_true, Bool.true_or, true_or, or_true, false_or, or_false, if_true, if_false, reduceIte, ite_true, ite_false, implies_true, true_implies, false_implies, forall_const, not_true_eq_false, not_false_eq_true, Nat.reduceAdd, Nat.reduceMul, Nat.reduceSub, Nat.reduceBEq, Nat.reduceEqDiff, Nat.reduceLeDiff, Nat.reduceLT, Int.reduceAdd, Int.reduceSub, Int.reduceMul, Int.reduceNeg, Int.reduceToNat, Int.reduceLE, Int.reduceLT, Int.reduceEq, Int.reduceNe, Int.reduceNatCast, Nat.add_zero, Nat.zero_add, reduceCtorEq, Int.reduceNatCast', wp_c, wp_g, e2_ifCond, e2_if_icmp, ↓bq_t, ↓bq_f, ab_br, ↓ab_b1_s, ↓ab_b2_s, ↓ab_l1_s, ↓ab_l2_s, ↓ab_li_s, ↓ab_o1_s, ↓ab_io_s, ↓ab_lo1_s, ↓ab_iio_s, ↓ab_lio_s, ↓ab_cp5_s, moX12_far, dX12_far_0, dal_0, dX12_far_1, dil_1, dX12_far_2, dv2_12_370_0, moX12_isSpot, dX12_far_5, dX12_far_8, dX12_far_9, dil_2, dX12_far_10, dX12_far_13, dX12_far_16, dX12_far_17, dX12_far_18, dX12_far_19, dX12_far_20, dX12_far_21, dv2_12_374_0, moX12_farOf, dX12_far_24, dis_3, dX12_far_25, dil_3, dX12_far_26, kx12_222, dX12_far_28, dX12_far_31, dX12_far_32, dX12_far_35, dX12_far_36]
    repeat' (with_reducible (first | apply And.intro | intro _))
    all_goals first | omega | skip
    refine y_isSpot2 b2 b3 hp (fun v hv => ?_)
    try simp only [cq_lt, cq_le, cq_gt, cq_ge, cq_eq, cq_r1, cq_r2, ab_r32, ab_r64, ab_go, ab_stp, wp_z, ab_in, ab_rok, ab_wsum, ab_prm, ab_ret, ab_sw, ab_cd, ab_tg, ab_cat_i, ab_cat_l, ab_cat_r, ab_cl_n, ab_cl_i, ab_cl_l, ab_cl_r, ab_f2_0, ab_f2_1, ab_f4_0, ab_f4_1, ab_f4_2, ab_f4_3, ab_op_s, ab_b1_s, ab_b2_s, ab_l1_s, ab_l2_s, ab_li_s, ab_o1_s, ab_io_s, ab_lo1_s, ab_iio_s, ab_lio_s, ab_cp5_s, ab_d2_l, ab_d2_i, ab_d2_o, ex_iconst, ex_bipush, ex_sipush, ex_lconst, ex_ldc, ex_ldc_w, ex_ldc2_w, ex_iadd, ex_isub, ex_imul, ex_iand, ex_ior, ex_ixor, ex_ishl, ex_ishr, ex_iushr, ex_idiv, ex_irem, ex_ladd, ex_lsub, ex_lmul, ex_lor, ex_ldiv, ex_lrem, ex_lshl, ex_lcmp, ex_ineg, ex_lneg, ex_i2l, ex_l2i, ex_i2b, ex_dup, ex_pop, ex_dup2, ex_goto, ex_tableswitch, ex_aaload, ex_ireturn, ex_lreturn, ex_return_, List.map_cons, List.map_nil, List.sum_cons, List.sum_nil, List.drop_succ_cons, List.drop_zero, List.take_succ_cons, List.take_zero, List.reverse_cons, List.reverse_nil, List.nil_append, List.cons_append, List.length_cons, List.length_nil, true_and, and_true, cond_false, cond_true, Bool.false_or, Bool.or_false, Bool.or_true, Bool.true_or, true_or, or_true, false_or, or_false, if_true, if_false, reduceIte, ite_true, ite_false, implies_true, true_implies, false_implies, forall_const, not_true_eq_false, not_false_eq_true, Nat.reduceAdd, Nat.reduceMul, Nat.reduceSub, Nat.reduceBEq, Nat.reduceEqDiff, Nat.reduceLeDiff, Nat.reduceLT, Int.reduceAdd, Int.reduceSub, Int.reduceMul, Int.reduceNeg, Int.reduceToNat, Int.reduceLE, Int.reduceLT, Int.reduceEq, Int.reduceNe, Int.reduceNatCast, Nat.add_zero, Nat.zero_add, reduceCtorEq, Int.reduceNatCast', wp_c, wp_g, e2_ifCond, e2_if_icmp, ↓bq_t, ↓bq_f, ab_br, ↓ab_b1_s, ↓ab_b2_s, ↓ab_l1_s, ↓ab_l2_s, ↓ab_li_s, ↓ab_o1_s, ↓ab_io_s, ↓ab_lo1_s, ↓ab_iio_s, ↓ab_lio_s, ↓ab_cp5_s, moX12_far, dX12_far_0, dal_0, dX12_far_1, dil_1, dX12_far_2, dv2_12_370_0, moX12_isSpot, dX12_far_5, dX12_far_8, dX12_far_9, dil_2, dX12_far_10, dX12_far_13, dX12_far_16, dX12_far_17, dX12_far_18, dX12_far_19, dX12_far_20, dX12_far_21, dv2_12_374_0, moX12_farOf, dX12_far_24, dis_3, dX12_far_25, dil_3, dX12_far_26, kx12_222, dX12_far_28, dX12_far_31, dX12_far_32, dX12_far_35, dX12_far_36]
    repeat' (with_reducible (first | apply And.intro | intro _))
    all_goals first | omega | skip
    all_goals first | exact bad (fun z => by rcases hv with ⟨-, y⟩ | ⟨y, -⟩; omega; exact y z.1) | skip
    refine y_isSpot2 b2 b3 hq (fun w hw => ?_)
    try simp only [cq_lt, cq_le, cq_gt, cq_ge, cq_eq, cq_r1, cq_r2, ab_r32, ab_r64, ab_go, ab_stp, wp_z, ab_in, ab_rok, ab_wsum, ab_prm, ab_ret, ab_sw, ab_cd, ab_tg, ab_cat_i, ab_cat_l, ab_cat_r, ab_cl_n, ab_cl_i, ab_cl_l, ab_cl_r, ab_f2_0, ab_f2_1, ab_f4_0, ab_f4_1, ab_f4_2, ab_f4_3, ab_op_s, ab_b1_s, ab_b2_s, ab_l1_s, ab_l2_s, ab_li_s, ab_o1_s, ab_io_s, ab_lo1_s, ab_iio_s, ab_lio_s, ab_cp5_s, ab_d2_l, ab_d2_i, ab_d2_o, ex_iconst, ex_bipush, ex_sipush, ex_lconst, ex_ldc, ex_ldc_w, ex_ldc2_w, ex_iadd, ex_isub, ex_imul, ex_iand, ex_ior, ex_ixor, ex_ishl, ex_ishr, ex_iushr, ex_idiv, ex_irem, ex_ladd, ex_lsub, ex_lmul, ex_lor, ex_ldiv, ex_lrem, ex_lshl, ex_lcmp, ex_ineg, ex_lneg, ex_i2l, ex_l2i, ex_i2b, ex_dup, ex_pop, ex_dup2, ex_goto, ex_tableswitch, ex_aaload, ex_ireturn, ex_lreturn, ex_return_, List.map_cons, List.map_nil, List.sum_cons, List.sum_nil, List.drop_succ_cons, List.drop_zero, List.take_succ_cons, List.take_zero, List.reverse_cons, List.reverse_nil, List.nil_append, List.cons_append, List.length_cons, List.length_nil, true_and, and_true, cond_false, cond_true, Bool.false_or, Bool.or_false, Bool.or_true, Bool.true_or, true_or, or_true, false_or, or_false, if_true, if_false, reduceIte, ite_true, ite_false, implies_true, true_implies, false_implies, forall_const, not_true_eq_false, not_false_eq_true, Nat.reduceAdd, Nat.reduceMul, Nat.reduceSub, Nat.reduceBEq, Nat.reduceEqDiff, Nat.reduceLeDiff, Nat.reduceLT, Int.reduceAdd, Int.reduceSub, Int.reduceMul, Int.reduceNeg, Int.reduceToNat, Int.reduceLE, Int.reduceLT, Int.reduceEq, Int.reduceNe, Int.reduceNatCast, Nat.add_zero, Nat.zero_add, reduceCtorEq, Int.reduceNatCast', wp_c, wp_g, e2_ifCond, e2_if_icmp, ↓bq_t, ↓bq_f, ab_br, ↓ab_b1_s, ↓ab_b2_s, ↓ab_l1_s, ↓ab_l2_s, ↓ab_li_s, ↓ab_o1_s, ↓ab_io_s, ↓ab_lo1_s, ↓ab_iio_s, ↓ab_lio_s, ↓ab_cp5_s, moX12_far, dX12_far_0, dal_0, dX12_far_1, dil_1, dX12_far_2, dv2_12_370_0, moX12_isSpot, dX12_far_5, dX12_far_8, dX12_far_9, dil_2, dX12_far_10, dX12_far_13, dX12_far_16, dX12_far_17, dX12_far_18, dX12_far_19, dX12_far_20, dX12_far_21, dv2_12_374_0, moX12_farOf, dX12_far_24, dis_3, dX12_far_25, dil_3, dX12_far_26, kx12_222, dX12_far_28, dX12_far_31, dX12_far_32, dX12_far_35, dX12_far_36]
    repeat' (with_reducible (first | apply And.intro | intro _))
    all_goals first | omega | skip
    all_goals first | exact bad (fun z => by rcases hw with ⟨-, y⟩ | ⟨y, -⟩; omega; exact y z.2) | skip
    have p1 : zSt ω p := by
      rcases hv with ⟨y, -⟩ | ⟨-, y⟩
      · exact y
      · omega
    have q1 : zSt ω q := by
      rcases hw with ⟨y, -⟩ | ⟨-, y⟩
      · exact y
      · omega
    refine y_farOf hJ hR p1 q1 (fun v hv => ?_)
    have e := h1 p1 q1 v hv
    unfold zFs at hv
    try simp only [cq_lt, cq_le, cq_gt, cq_ge, cq_eq, cq_r1, cq_r2, ab_r32, ab_r64, ab_go, ab_stp, wp_z, ab_in, ab_rok, ab_wsum, ab_prm, ab_ret, ab_sw, ab_cd, ab_tg, ab_cat_i, ab_cat_l, ab_cat_r, ab_cl_n, ab_cl_i, ab_cl_l, ab_cl_r, ab_f2_0, ab_f2_1, ab_f4_0, ab_f4_1, ab_f4_2, ab_f4_3, ab_op_s, ab_b1_s, ab_b2_s, ab_l1_s, ab_l2_s, ab_li_s, ab_o1_s, ab_io_s, ab_lo1_s, ab_iio_s, ab_lio_s, ab_cp5_s, ab_d2_l, ab_d2_i, ab_d2_o, ex_iconst, ex_bipush, ex_sipush, ex_lconst, ex_ldc, ex_ldc_w, ex_ldc2_w, ex_iadd, ex_isub, ex_imul, ex_iand, ex_ior, ex_ixor, ex_ishl, ex_ishr, ex_iushr, ex_idiv, ex_irem, ex_ladd, ex_lsub, ex_lmul, ex_lor, ex_ldiv, ex_lrem, ex_lshl, ex_lcmp, ex_ineg, ex_lneg, ex_i2l, ex_l2i, ex_i2b, ex_dup, ex_pop, ex_dup2, ex_goto, ex_tableswitch, ex_aaload, ex_ireturn, ex_lreturn, ex_return_, List.map_cons, List.map_nil, List.sum_cons, List.sum_nil, List.drop_succ_cons, List.drop_zero, List.take_succ_cons, List.take_zero, List.reverse_cons, List.reverse_nil, List.nil_append, List.cons_append, List.length_cons, List.length_nil, true_and, and_true, cond_false, cond_true, Bool.false_or, Bool.or_false, Bool.or_true, Bool.true_or, true_or, or_true, false_or, or_false, if_true, if_false, reduceIte, ite_true, ite_false, implies_true, true_implies, false_implies, forall_const, not_true_eq_false, not_false_eq_true, Nat.reduceAdd, Nat.reduceMul, Nat.reduceSub, Nat.reduceBEq, Nat.reduceEqDiff, Nat.reduceLeDiff, Nat.reduceLT, Int.reduceAdd, Int.reduceSub, Int.reduceMul, Int.reduceNeg, Int.reduceToNat, Int.reduceLE, Int.reduceLT, Int.reduceEq, Int.reduceNe, Int.reduceNatCast, Nat.add_zero, Nat.zero_add, reduceCtorEq, Int.reduceNatCast', wp_c, wp_g, e2_ifCond, e2_if_icmp, ↓bq_t, ↓bq_f, ab_br, ↓ab_b1_s, ↓ab_b2_s, ↓ab_l1_s, ↓ab_l2_s, ↓ab_li_s, ↓ab_o1_s, ↓ab_io_s, ↓ab_lo1_s, ↓ab_iio_s, ↓ab_lio_s, ↓ab_cp5_s, moX12_far, dX12_far_0, dal_0, dX12_far_1, dil_1, dX12_far_2, dv2_12_370_0, moX12_isSpot, dX12_far_5, dX12_far_8, dX12_far_9, dil_2, dX12_far_10, dX12_far_13, dX12_far_16, dX12_far_17, dX12_far_18, dX12_far_19, dX12_far_20, dX12_far_21, dv2_12_374_0, moX12_farOf, dX12_far_24, dis_3, dX12_far_25, dil_3, dX12_far_26, kx12_222, dX12_far_28, dX12_far_31, dX12_far_32, dX12_far_35, dX12_far_36]
    repeat' (with_reducible (first | apply And.intro | intro _))
    all_goals first | omega | skip
    · rename_i w
      exact fin _ (by rw [e, if_pos (by omega)])
    · rename_i w
      exact fin _ (by rw [e, if_neg (by omega)])
  have bad : ¬ (zSt ω p ∧ zSt ω q) → G 22 [some (vR 0), some (vI p), some (vI q), none] [] ω := by
    intro z
    have := M (-1) (fun _ => rfl) (fun z1 z2 => absurd ⟨z1, z2⟩ z)
    apply hG [9999] 20
    simp only [cq_lt, cq_le, cq_gt, cq_ge, cq_eq, cq_r1, cq_r2, ab_r32, ab_r64, ab_go, ab_stp, wp_z, ab_in, ab_rok, ab_wsum, ab_prm, ab_ret, ab_sw, ab_cd, ab_tg, ab_cat_i, ab_cat_l, ab_cat_r, ab_cl_n, ab_cl_i, ab_cl_l, ab_cl_r, ab_f2_0, ab_f2_1, ab_f4_0, ab_f4_1, ab_f4_2, ab_f4_3, ab_op_s, ab_b1_s, ab_b2_s, ab_l1_s, ab_l2_s, ab_li_s, ab_o1_s, ab_io_s, ab_lo1_s, ab_iio_s, ab_lio_s, ab_cp5_s, ab_d2_l, ab_d2_i, ab_d2_o, ex_iconst, ex_bipush, ex_sipush, ex_lconst, ex_ldc, ex_ldc_w, ex_ldc2_w, ex_iadd, ex_isub, ex_imul, ex_iand, ex_ior, ex_ixor, ex_ishl, ex_ishr, ex_iushr, ex_idiv, ex_irem, ex_ladd, ex_lsub, ex_lmul, ex_lor, ex_ldiv, ex_lrem, ex_lshl, ex_lcmp, ex_ineg, ex_lneg, ex_i2l, ex_l2i, ex_i2b, ex_dup, ex_pop, ex_dup2, ex_goto, ex_tableswitch, ex_aaload, ex_ireturn, ex_lreturn, ex_return_, List.map_cons, List.map_nil, List.sum_cons, List.sum_nil, List.drop_succ_cons, List.drop_zero, List.take_succ_cons, List.take_zero, List.reverse_cons, List.reverse_nil, List.nil_append, List.cons_append, List.length_cons, List.length_nil, true_and, and_true, cond_false, cond_true, Bool.false_or, Bool.or_false, Bool.or_true, Bool.true_or, true_or, or_true, false_or, or_false, if_true, if_false, reduceIte, ite_true, ite_false, implies_true, true_implies, false_implies, forall_const, not_true_eq_false, not_false_eq_true, Nat.reduceAdd, Nat.reduceMul, Nat.reduceSub, Nat.reduceBEq, Nat.reduceEqDiff, Nat.reduceLeDiff, Nat.reduceLT, Int.reduceAdd, Int.reduceSub, Int.reduceMul, Int.reduceNeg, Int.reduceToNat, Int.reduceLE, Int.reduceLT, Int.reduceEq, Int.reduceNe, Int.reduceNatCast, Nat.add_zero, Nat.zero_add, reduceCtorEq, Int.reduceNatCast', wp_c, wp_g, e2_ifCond, e2_if_icmp, ↓bq_t, ↓bq_f, ab_br, ↓ab_b1_s, ↓ab_b2_s, ↓ab_l1_s, ↓ab_l2_s, ↓ab_li_s, ↓ab_o1_s, ↓ab_io_s, ↓ab_lo1_s, ↓ab_iio_s, ↓ab_lio_s, ↓ab_cp5_s, moX11_far, dX11_far_0, dal_0, dX11_far_1, dg1_11_19_0, dX11_far_4, dil_1, dX11_far_5, dv1_11_172_3, dv1_11_172_12, moX9_isSpot, dX11_far_8, dX11_far_11, dX11_far_12, dX11_far_15, dil_2, dX11_far_16, dX11_far_19, dX11_far_22, dX11_far_23, dX11_far_24, dX11_far_25, dg1_11_38_0, dX11_far_28, dX11_far_29, dX11_far_30, dv1_11_175_28, moX7_between, dX11_far_33, dis_3, dX11_far_34, dil_3, dX11_far_35, kx11_178, dX11_far_37, dX11_far_40, dX11_far_41, dX11_far_44, dX11_far_45]
    exact this
  apply hG [22] 40
  simp only [cq_lt, cq_le, cq_gt, cq_ge, cq_eq, cq_r1, cq_r2, ab_r32, ab_r64, ab_go, ab_stp, wp_z, ab_in, ab_rok, ab_wsum, ab_prm, ab_ret, ab_sw, ab_cd, ab_tg, ab_cat_i, ab_cat_l, ab_cat_r, ab_cl_n, ab_cl_i, ab_cl_l, ab_cl_r, ab_f2_0, ab_f2_1, ab_f4_0, ab_f4_1, ab_f4_2, ab_f4_3, ab_op_s, ab_b1_s, ab_b2_s, ab_l1_s, ab_l2_s, ab_li_s, ab_o1_s, ab_io_s, ab_lo1_s, ab_iio_s, ab_lio_s, ab_cp5_s, ab_d2_l, ab_d2_i, ab_d2_o, ex_iconst, ex_bipush, ex_sipush, ex_lconst, ex_ldc, ex_ldc_w, ex_ldc2_w, ex_iadd, ex_isub, ex_imul, ex_iand, ex_ior, ex_ixor, ex_ishl, ex_ishr, ex_iushr, ex_idiv, ex_irem, ex_ladd, ex_lsub, ex_lmul, ex_lor, ex_ldiv, ex_lrem, ex_lshl, ex_lcmp, ex_ineg, ex_lneg, ex_i2l, ex_l2i, ex_i2b, ex_dup, ex_pop, ex_dup2, ex_goto, ex_tableswitch, ex_aaload, ex_ireturn, ex_lreturn, ex_return_, List.map_cons, List.map_nil, List.sum_cons, List.sum_nil, List.drop_succ_cons, List.drop_zero, List.take_succ_cons, List.take_zero, List.reverse_cons, List.reverse_nil, List.nil_append, List.cons_append, List.length_cons, List.length_nil, true_and, and_true, cond_false, cond_true, Bool.false_or, Bool.or_false, Bool.or_true, Bool.true_or, true_or, or_true, false_or, or_false, if_true, if_false, reduceIte, ite_true, ite_false, implies_true, true_implies, false_implies, forall_const, not_true_eq_false, not_false_eq_true, Nat.reduceAdd, Nat.reduceMul, Nat.reduceSub, Nat.reduceBEq, Nat.reduceEqDiff, Nat.reduceLeDiff, Nat.reduceLT, Int.reduceAdd, Int.reduceSub, Int.reduceMul, Int.reduceNeg, Int.reduceToNat, Int.reduceLE, Int.reduceLT, Int.reduceEq, Int.reduceNe, Int.reduceNatCast, Nat.add_zero, Nat.zero_add, reduceCtorEq, Int.reduceNatCast', wp_c, wp_g, e2_ifCond, e2_if_icmp, ↓bq_t, ↓bq_f, ab_br, ↓ab_b1_s, ↓ab_b2_s, ↓ab_l1_s, ↓ab_l2_s, ↓ab_li_s, ↓ab_o1_s, ↓ab_io_s, ↓ab_lo1_s, ↓ab_iio_s, ↓ab_lio_s, ↓ab_cp5_s, moX11_far, dX11_far_0, dal_0, dX11_far_1, dg1_11_19_0, dX11_far_4, dil_1, dX11_far_5, dv1_11_172_3, dv1_11_172_12, moX9_isSpot, dX11_far_8, dX11_far_11, dX11_far_12, dX11_far_15, dil_2, dX11_far_16, dX11_far_19, dX11_far_22, dX11_far_23, dX11_far_24, dX11_far_25, dg1_11_38_0, dX11_far_28, dX11_far_29, dX11_far_30, dv1_11_175_28, moX7_between, dX11_far_33, dis_3, dX11_far_34, dil_3, dX11_far_35, kx11_178, dX11_far_37, dX11_far_40, dX11_far_41, dX11_far_44, dX11_far_45]
  repeat' (with_reducible (first | apply And.intro | intro _))
  all_goals first | omega | skip
  refine r_isSpot hp hT.1 hT.2.1 hst (fun v hv => ?_)
  try simp only [cq_lt, cq_le, cq_gt, cq_ge, cq_eq, cq_r1, cq_r2, ab_r32, ab_r64, ab_go, ab_stp, wp_z, ab_in, ab_rok, ab_wsum, ab_prm, ab_ret, ab_sw, ab_cd, ab_tg, ab_cat_i, ab_cat_l, ab_cat_r, ab_cl_n, ab_cl_i, ab_cl_l, ab_cl_r, ab_f2_0, ab_f2_1, ab_f4_0, ab_f4_1, ab_f4_2, ab_f4_3, ab_op_s, ab_b1_s, ab_b2_s, ab_l1_s, ab_l2_s, ab_li_s, ab_o1_s, ab_io_s, ab_lo1_s, ab_iio_s, ab_lio_s, ab_cp5_s, ab_d2_l, ab_d2_i, ab_d2_o, ex_iconst, ex_bipush, ex_sipush, ex_lconst, ex_ldc, ex_ldc_w, ex_ldc2_w, ex_iadd, ex_isub, ex_imul, ex_iand, ex_ior, ex_ixor, ex_ishl, ex_ishr, ex_iushr, ex_idiv, ex_irem, ex_ladd, ex_lsub, ex_lmul, ex_lor, ex_ldiv, ex_lrem, ex_lshl, ex_lcmp, ex_ineg, ex_lneg, ex_i2l, ex_l2i, ex_i2b, ex_dup, ex_pop, ex_dup2, ex_goto, ex_tableswitch, ex_aaload, ex_ireturn, ex_lreturn, ex_return_, List.map_cons, List.map_nil, List.sum_cons, List.sum_nil, List.drop_succ_cons, List.drop_zero, List.take_succ_cons, List.take_zero, List.reverse_cons, List.reverse_nil, List.nil_append, List.cons_append, List.length_cons, List.length_nil, true_and, and_true, cond_false, cond_true, Bool.false_or, Bool.or_false, Bool.or_true, Bool.true_or, true_or, or_true, false_or, or_false, if_true, if_false, reduceIte, ite_true, ite_false, implies_true, true_implies, false_implies, forall_const, not_true_eq_false, not_false_eq_true, Nat.reduceAdd, Nat.reduceMul, Nat.reduceSub, Nat.reduceBEq, Nat.reduceEqDiff, Nat.reduceLeDiff, Nat.reduceLT, Int.reduceAdd, Int.reduceSub, Int.reduceMul, Int.reduceNeg, Int.reduceToNat, Int.reduceLE, Int.reduceLT, Int.reduceEq, Int.reduceNe, Int.reduceNatCast, Nat.add_zero, Nat.zero_add, reduceCtorEq, Int.reduceNatCast', wp_c, wp_g, e2_ifCond, e2_if_icmp, ↓bq_t, ↓bq_f, ab_br, ↓ab_b1_s, ↓ab_b2_s, ↓ab_l1_s, ↓ab_l2_s, ↓ab_li_s, ↓ab_o1_s, ↓ab_io_s, ↓ab_lo1_s, ↓ab_iio_s, ↓ab_lio_s, ↓ab_cp5_s, moX11_far, dX11_far_0, dal_0, dX11_far_1, dg1_11_19_0, dX11_far_4, dil_1, dX11_far_5, dv1_11_172_3, dv1_11_172_12, moX9_isSpot, dX11_far_8, dX11_far_11, dX11_far_12, dX11_far_15, dil_2, dX11_far_16, dX11_far_19, dX11_far_22, dX11_far_23, dX11_far_24, dX11_far_25, dg1_11_38_0, dX11_far_28, dX11_far_29, dX11_far_30, dv1_11_175_28, moX7_between, dX11_far_33, dis_3, dX11_far_34, dil_3, dX11_far_35, kx11_178, dX11_far_37, dX11_far_40, dX11_far_41, dX11_far_44, dX11_far_45]
  repeat' (with_reducible (first | apply And.intro | intro _))
  all_goals first | omega | skip
  all_goals first | exact bad (fun z => by rcases hv with ⟨-, y⟩ | ⟨y, -⟩; omega; exact y z.1) | skip
  refine r_isSpot hq hT.1 hT.2.1 hst (fun w hw => ?_)
  try simp only [cq_lt, cq_le, cq_gt, cq_ge, cq_eq, cq_r1, cq_r2, ab_r32, ab_r64, ab_go, ab_stp, wp_z, ab_in, ab_rok, ab_wsum, ab_prm, ab_ret, ab_sw, ab_cd, ab_tg, ab_cat_i, ab_cat_l, ab_cat_r, ab_cl_n, ab_cl_i, ab_cl_l, ab_cl_r, ab_f2_0, ab_f2_1, ab_f4_0, ab_f4_1, ab_f4_2, ab_f4_3, ab_op_s, ab_b1_s, ab_b2_s, ab_l1_s, ab_l2_s, ab_li_s, ab_o1_s, ab_io_s, ab_lo1_s, ab_iio_s, ab_lio_s, ab_cp5_s, ab_d2_l, ab_d2_i, ab_d2_o, ex_iconst, ex_bipush, ex_sipush, ex_lconst, ex_ldc, ex_ldc_w, ex_ldc2_w, ex_iadd, ex_isub, ex_imul, ex_iand, ex_ior, ex_ixor, ex_ishl, ex_ishr, ex_iushr, ex_idiv, ex_irem, ex_ladd, ex_lsub, ex_lmul, ex_lor, ex_ldiv, ex_lrem, ex_lshl, ex_lcmp, ex_ineg, ex_lneg, ex_i2l, ex_l2i, ex_i2b, ex_dup, ex_pop, ex_dup2, ex_goto, ex_tableswitch, ex_aaload, ex_ireturn, ex_lreturn, ex_return_, List.map_cons, List.map_nil, List.sum_cons, List.sum_nil, List.drop_succ_cons, List.drop_zero, List.take_succ_cons, List.take_zero, List.reverse_cons, List.reverse_nil, List.nil_append, List.cons_append, List.length_cons, List.length_nil, true_and, and_true, cond_false, cond_true, Bool.false_or, Bool.or_false, Bool.or_true, Bool.true_or, true_or, or_true, false_or, or_false, if_true, if_false, reduceIte, ite_true, ite_false, implies_true, true_implies, false_implies, forall_const, not_true_eq_false, not_false_eq_true, Nat.reduceAdd, Nat.reduceMul, Nat.reduceSub, Nat.reduceBEq, Nat.reduceEqDiff, Nat.reduceLeDiff, Nat.reduceLT, Int.reduceAdd, Int.reduceSub, Int.reduceMul, Int.reduceNeg, Int.reduceToNat, Int.reduceLE, Int.reduceLT, Int.reduceEq, Int.reduceNe, Int.reduceNatCast, Nat.add_zero, Nat.zero_add, reduceCtorEq, Int.reduceNatCast', wp_c, wp_g, e2_ifCond, e2_if_icmp, ↓bq_t, ↓bq_f, ab_br, ↓ab_b1_s, ↓ab_b2_s, ↓ab_l1_s, ↓ab_l2_s, ↓ab_li_s, ↓ab_o1_s, ↓ab_io_s, ↓ab_lo1_s, ↓ab_iio_s, ↓ab_lio_s, ↓ab_cp5_s, moX11_far, dX11_far_0, dal_0, dX11_far_1, dg1_11_19_0, dX11_far_4, dil_1, dX11_far_5, dv1_11_172_3, dv1_11_172_12, moX9_isSpot, dX11_far_8, dX11_far_11, dX11_far_12, dX11_far_15, dil_2, dX11_far_16, dX11_far_19, dX11_far_22, dX11_far_23, dX11_far_24, dX11_far_25, dg1_11_38_0, dX11_far_28, dX11_far_29, dX11_far_30, dv1_11_175_28, moX7_between, dX11_far_33, dis_3, dX11_far_34, dil_3, dX11_far_35, kx11_178, dX11_far_37, dX11_far_40, dX11_far_41, dX11_far_44, dX11_far_45]
  repeat' (with_reducible (first | apply And.intro | intro _))
  all_goals first | omega | skip
  all_goals first | exact bad (fun z => by rcases hw with ⟨-, y⟩ | ⟨y, -⟩; omega; exact y z.2) | skip
  have p1 : zSt ω p := by
    rcases hv with ⟨y, -⟩ | ⟨-, y⟩
    · exact y
    · omega
  have q1 : zSt ω q := by
    rcases hw with ⟨y, -⟩ | ⟨-, y⟩
    · exact y
    · omega
  refine r_between hT hJ.2.2.2.1.1 p1 q1 (zRol_sh b9) ?_
  have e := zbt_q hJ p1 q1
  have e0 := zbt_in hT hJ.2.2.2.1.1 p1 q1
  have e1 := e.1
  have e2 := e.2
  have f1 : zbt (ω 29) (ω 8) (ω 9) (ω 10) (ω 30) p q < 100000 → ∀ v, zFs (zDq ω p q) v → zbt (ω 29) (ω 8) (ω 9) (ω 10) (ω 30) p q = if v < 1000000 then v else -1 := fun z v hv => by
    unfold zFs at hv
    have := e1 z
    rw [if_pos (by omega)]
    omega
  have f2 : 100000 ≤ zbt (ω 29) (ω 8) (ω 9) (ω 10) (ω 30) p q → ∀ v, zFs (zDq ω p q) v → (-1 : Int) = if v < 1000000 then v else -1 := fun z v hv => by
    unfold zFs at hv
    have := e2 z
    rw [if_neg (by omega)]
  try simp only [cq_lt, cq_le, cq_gt, cq_ge, cq_eq, cq_r1, cq_r2, ab_r32, ab_r64, ab_go, ab_stp, wp_z, ab_in, ab_rok, ab_wsum, ab_prm, ab_ret, ab_sw, ab_cd, ab_tg, ab_cat_i, ab_cat_l, ab_cat_r, ab_cl_n, ab_cl_i, ab_cl_l, ab_cl_r, ab_f2_0, ab_f2_1, ab_f4_0, ab_f4_1, ab_f4_2, ab_f4_3, ab_op_s, ab_b1_s, ab_b2_s, ab_l1_s, ab_l2_s, ab_li_s, ab_o1_s, ab_io_s, ab_lo1_s, ab_iio_s, ab_lio_s, ab_cp5_s, ab_d2_l, ab_d2_i, ab_d2_o, ex_iconst, ex_bipush, ex_sipush, ex_lconst, ex_ldc, ex_ldc_w, ex_ldc2_w, ex_iadd, ex_isub, ex_imul, ex_iand, ex_ior, ex_ixor, ex_ishl, ex_ishr, ex_iushr, ex_idiv, ex_irem, ex_ladd, ex_lsub, ex_lmul, ex_lor, ex_ldiv, ex_lrem, ex_lshl, ex_lcmp, ex_ineg, ex_lneg, ex_i2l, ex_l2i, ex_i2b, ex_dup, ex_pop, ex_dup2, ex_goto, ex_tableswitch, ex_aaload, ex_ireturn, ex_lreturn, ex_return_, List.map_cons, List.map_nil, List.sum_cons, List.sum_nil, List.drop_succ_cons, List.drop_zero, List.take_succ_cons, List.take_zero, List.reverse_cons, List.reverse_nil, List.nil_append, List.cons_append, List.length_cons, List.length_nil, true_and, and_true, cond_false, cond_true, Bool.false_or, Bool.or_false, Bool.or_true, Bool.true_or, true_or, or_true, false_or, or_false, if_true, if_false, reduceIte, ite_true, ite_false, implies_true, true_implies, false_implies, forall_const, not_true_eq_false, not_false_eq_true, Nat.reduceAdd, Nat.reduceMul, Nat.reduceSub, Nat.reduceBEq, Nat.reduceEqDiff, Nat.reduceLeDiff, Nat.reduceLT, Int.reduceAdd, Int.reduceSub, Int.reduceMul, Int.reduceNeg, Int.reduceToNat, Int.reduceLE, Int.reduceLT, Int.reduceEq, Int.reduceNe, Int.reduceNatCast, Nat.add_zero, Nat.zero_add, reduceCtorEq, Int.reduceNatCast', wp_c, wp_g, e2_ifCond, e2_if_icmp, ↓bq_t, ↓bq_f, ab_br, ↓ab_b1_s, ↓ab_b2_s, ↓ab_l1_s, ↓ab_l2_s, ↓ab_li_s, ↓ab_o1_s, ↓ab_io_s, ↓ab_lo1_s, ↓ab_iio_s, ↓ab_lio_s, ↓ab_cp5_s, moX11_far, dX11_far_0, dal_0, dX11_far_1, dg1_11_19_0, dX11_far_4, dil_1, dX11_far_5, dv1_11_172_3, dv1_11_172_12, moX9_isSpot, dX11_far_8, dX11_far_11, dX11_far_12, dX11_far_15, dil_2, dX11_far_16, dX11_far_19, dX11_far_22, dX11_far_23, dX11_far_24, dX11_far_25, dg1_11_38_0, dX11_far_28, dX11_far_29, dX11_far_30, dv1_11_175_28, moX7_between, dX11_far_33, dis_3, dX11_far_34, dil_3, dX11_far_35, kx11_178, dX11_far_37, dX11_far_40, dX11_far_41, dX11_far_44, dX11_far_45]
  repeat' (with_reducible (first | apply And.intro | intro _))
  all_goals first | omega | skip
  · exact M _ (fun z => absurd ⟨p1, q1⟩ z) (fun _ _ v hv => f2 (by omega) v hv)
  · exact M _ (fun z => absurd ⟨p1, q1⟩ z) (fun _ _ v hv => f1 (by omega) v hv)
