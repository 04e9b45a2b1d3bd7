-- CALL: prices; what is remembered of prices
theorem zPz_cn (ω ρ : ab_S) (x y : Int) : zPz (zCnl ω) ρ x y = zPz ω ρ x y := rfl
theorem zPz_m {ω ω' ρ ρ' : ab_S} {x y : Int} (h : ∀ o, (3 ≤ o ∧ o ≤ 11) ∨ (28 ≤ o ∧ o ≤ 30) ∨ (34 ≤ o ∧ o ≤ 39) → ω' o = ω o) (h1 : ∀ o, 96 ≤ o → o ≤ 99 → ρ' o = ρ o) (hc : zPz ω ρ x y) : zPz ω' ρ' x y := by
  have e := zCnl_eq h
  rw [← zPz_cn ω', e, zPz_cn]
  unfold zPz zPs
  rw [h1 96 (by decide) (by decide), h1 97 (by decide) (by decide), h1 98 (by decide) (by decide), h1 99 (by decide) (by decide)]
  exact hc
def zQp (ω : ab_S) : Prop := (-1000 ≤ ω 96 12 ∧ ω 96 12 ≤ ω 0 15) ∧ ((-1000 ≤ ω 96 13 ∧ ω 96 13 ≤ 1000) ∧ (-1000 ≤ ω 96 14 ∧ ω 96 14 ≤ 1000)) ∧ (ω 96 12 = ω 0 15 → zPz ω ω (ω 96 13) (ω 96 14))
theorem zQp_w {ω ω' : ab_S} (h : zSw ω ω') (hq : zQp ω) : zQp ω' := by
  obtain ⟨h1, h2, h3, h4⟩ := h
  obtain ⟨q1, q2, q3⟩ := hq
  have hh : ∀ o, 96 ≤ o → o ≤ 99 → ω' o = ω o := fun o o1 o2 => h1 o (by omega) (by omega) (by omega)
  unfold zQp
  rw [hh 96 (by decide) (by decide)]
  rcases h3 with ⟨h3, h5, -⟩ | h3
  · rw [h3]
    exact ⟨q1, q2, fun z => zPz_m h5 hh (q3 z)⟩
  · rw [h3]
    exact ⟨by omega, q2, fun z => by omega⟩
-- what is remembered stays where it is untouched
theorem zQc_k {ω ω' : ab_S} (h : ∀ o, o < 65 ∨ (82 ≤ o ∧ o ≤ 87) → ω' o = ω o) (hq : zQc ω) : zQc ω' := by
  obtain ⟨q1, q2, q3⟩ := hq
  have hh : ∀ o, 82 ≤ o → o ≤ 87 → ω' o = ω o := fun o o1 o2 => h o (by omega)
  unfold zQc
  rw [hh 82 (by decide) (by decide), h 0 (by omega)]
  exact ⟨q1, q2, fun z => zChc_cn (fun o ho => h o (by omega)) (hh 85 (by decide) (by decide)) (hh 86 (by decide) (by decide)) (hh 87 (by decide) (by decide)) (q3 z)⟩
theorem zQg_k {ω ω' : ab_S} (h : ∀ o, o < 65 ∨ (88 ≤ o ∧ o ≤ 92) → ω' o = ω o) (hq : zQg ω) : zQg ω' := by
  obtain ⟨q1, q2, q3⟩ := hq
  have hh : ∀ o, 88 ≤ o → o ≤ 92 → ω' o = ω o := fun o o1 o2 => h o (by omega)
  unfold zQg
  rw [hh 88 (by decide) (by decide), hh 91 (by decide) (by decide), h 0 (by omega)]
  exact ⟨q1, q2, fun z => zGc_cn (fun o ho => h o (by omega)) hh (q3 z)⟩
theorem zQp_k {ω ω' : ab_S} (h : ∀ o, o < 65 ∨ (96 ≤ o ∧ o ≤ 99) → ω' o = ω o) (hq : zQp ω) : zQp ω' := by
  obtain ⟨q1, q2, q3⟩ := hq
  have hh : ∀ o, 96 ≤ o → o ≤ 99 → ω' o = ω o := fun o o1 o2 => h o (by omega)
  unfold zQp
  rw [hh 96 (by decide) (by decide), h 0 (by omega)]
  exact ⟨q1, q2, fun z => zPz_m (fun o ho => h o (by omega)) hh (q3 z)⟩
/-- a call that may find the prices at rest -/
def zJp (ω τ : ab_S) (N : ab_M) (args : List ab_V) (v : ab_V) (ω' : ab_S) : Prop := (zFy ω ω' ∧ zQp ω') ∧ ab_Runs ab_G2 N args τ (yJn ω' v)
theorem zPo_one {ω : ab_S} {x y k v w : Int} (hJ : zJ ω) (a : zPo ω x y k v) (b : zPo ω x y k w) : v = w := by
  rcases a with ⟨a1, a2, a3⟩ | ⟨a1, a2⟩ <;> rcases b with ⟨b1, b2, b3⟩ | ⟨b1, b2⟩
  · exact zPa_one hJ a3 b3
  · exact absurd ⟨a1, a2⟩ b1
  · exact absurd ⟨b1, b2⟩ a1
  · rw [a2, b2]
set_option maxRecDepth 100000 in
set_option maxHeartbeats 4000000 in
theorem j_prices {ω τ : ab_S} {x y k : Int} (hB : yB ω τ) (hQ : zQp ω) (hS : ω 0 15 ≤ 1000000) (hx : -2147483648 ≤ x ∧ x ≤ 2147483647) (hy : -2147483648 ≤ y ∧ y ≤ 2147483647) (hk : -2147483648 ≤ k ∧ k ≤ 2147483647) : ab_Runs ab_G1 mdX11_prices [vR 0, vI x, vI y, vI k] ω (zJp ω τ mdX12_prices [vR 0, vI x, vI y, vI k]) := by
  have hJ := yB_J hB
  have hK := yB_K hB
  have hL := yB_L hB
  have hn := hK.1
  have b14 := hB.2.2.2.2.2.2.2.2.2.2.2.2.2
  obtain ⟨hwd, hlo, hlw⟩ := zwd_in hJ
  refine ab_runs mwX11_prices (by decide +kernel) (Nat.le_of_ble_eq_true rfl) (fun G hG => ?_)
  show G 0 [some (vR 0), some (vI x), some (vI y), some (vI k)] [] _
  have M : ∀ v ω', zFy ω ω' → zQp ω' → zPo ω x y k v → zJp ω τ mdX12_prices [vR 0, vI x, vI y, vI k] (vI v) ω' := by
    intro v ω' hF hq hv
    refine ⟨⟨hF, hq⟩, y_prices hJ hK hL hx hy hk (fun υ v2 u1 u2 u3 => ⟨by rw [zPo_one hJ u3 hv], yB_cz hB (fun o o1 o2 => hF o (Or.inl o1)) (fun o o0 o1 => ?_) (fun j hj => u1.2 j (by omega) (by omega) (by omega))⟩)⟩
    by_cases e7 : o = 27
    · rw [e7]; exact u2
    · exact u1.1 o o0 e7 (by omega) (by omega) (by omega) (by omega)
  have b14' : ¬ (((0 ≤ x ∧ x < ω 34 5) ∧ (0 ≤ y ∧ y < ω 34 5) ∧ x ≠ y) ∧ -1 ≤ k) → G 14 [some (vR 0), some (vI x), some (vI y), some (vI k)] [] ω := by
    intro z
    have := M (-1) ω (fun _ _ => rfl) hQ (Or.inr ⟨fun u => z ⟨⟨u.1.1, u.1.2.1, u.1.2.2.1⟩, u.2⟩, rfl⟩)
    apply hG [9999] 10
    simp only [cq_lt, cq_le, cq_gt, cq_ge, cq_eq, cq_r1, cq_r2, ab_r32, ab_r64, ab_go, ab_stp, wp_z, ab_in, ab_rok, ab_wsum, ab_prm, ab_ret, ab_sw, ab_cd, ab_tg, ab_cat_i, ab_cat_l, ab_cat_r, ab_cl_n, ab_cl_i, ab_cl_l, ab_cl_r, ab_f2_0, ab_f2_1, ab_f4_0, ab_f4_1, ab_f4_2, ab_f4_3, ab_op_s, ab_b1_s, ab_b2_s, ab_l1_s, ab_l2_s, ab_li_s, ab_o1_s, ab_io_s, ab_lo1_s, ab_iio_s, ab_lio_s, ab_cp5_s, ab_d2_l, ab_d2_i, ab_d2_o, ex_iconst, ex_bipush, ex_sipush, ex_lconst, ex_ldc, ex_ldc_w, ex_ldc2_w, ex_iadd, ex_isub, ex_imul, ex_iand, ex_ior, ex_ixor, ex_ishl, ex_ishr, ex_iushr, ex_idiv, ex_irem, ex_ladd, ex_lsub, ex_lmul, ex_lor, ex_ldiv, ex_lrem, ex_lshl, ex_lcmp, ex_ineg, ex_lneg, ex_i2l, ex_l2i, ex_i2b, ex_dup, ex_pop, ex_dup2, ex_goto, ex_tableswitch, ex_aaload, ex_ireturn, ex_lreturn, ex_return_, List.map_cons, List.map_nil, List.sum_cons, List.sum_nil, List.drop_succ_cons, List.drop_zero, List.take_succ_cons, List.take_zero, List.reverse_cons, List.reverse_nil, List.nil_append, List.cons_append, List.length_cons, List.length_nil, true_and, and_true, cond_false, cond_true, Bool.false_or, Bool.or_false, Bool.or_true, Bool.true_or, true_or, or_true, false_or, or_false, if_true, if_false, reduceIte, ite_true, ite_false, implies_true, true_implies, false_implies, forall_const, not_true_eq_false, not_false_eq_true, Nat.reduceAdd, Nat.reduceMul, Nat.reduceSub, Nat.reduceBEq, Nat.reduceEqDiff, Nat.reduceLeDiff, Nat.reduceLT, Int.reduceAdd, Int.reduceSub, Int.reduceMul, Int.reduceNeg, Int.reduceToNat, Int.reduceLE, Int.reduceLT, Int.reduceEq, Int.reduceNe, Int.reduceNatCast, Nat.add_zero, Nat.zero_add, reduceCtorEq, Int.reduceNatCast', wp_c, wp_g, e2_ifCond, e2_if_icmp, ↓bq_t, ↓bq_f, ab_br, ↓ab_b1_s, ↓ab_b2_s, ↓ab_l1_s, ↓ab_l2_s, ↓ab_li_s, ↓ab_o1_s, ↓ab_io_s, ↓ab_lo1_s, ↓ab_iio_s, ↓ab_lio_s, ↓ab_cp5_s, moX11_prices, dX11_prices_0, dal_0, dX11_prices_1, dil_1, dX11_prices_2, dil_2, dX11_prices_3, dv1_11_260_0, moX11_isPair, dX11_prices_6, dX11_prices_9, dil_3, dX11_prices_10, dX11_prices_11, dX11_prices_14, dX11_prices_15, dX11_prices_16, dX11_prices_17, dg1_11_90_0, dX11_prices_20, dX11_prices_21, dg1_11_104_0, dX11_prices_24, dX11_prices_25, dX11_prices_26, dv1_11_295_96, moX5_prepare, dX11_prices_29, dX11_prices_30, dX11_prices_31, dX11_prices_34, dX11_prices_35, dX11_prices_38, dg1_11_298_96, dX11_prices_41, dX11_prices_42, dX11_prices_43, dX11_prices_44, dX11_prices_47, dX11_prices_50, dX11_prices_53, dX11_prices_54, dX11_prices_57, dX11_prices_58, dv1_11_299_96, moX5_pairAt, dX11_prices_61, dX11_prices_64, dX11_prices_65]
    exact this
  have g16 : zPl ω x y (-1) → -1 ≤ k → G 16 [some (vR 0), some (vI x), some (vI y), some (vI k)] [] ω := by
    intro hP hk1
    obtain ⟨px, py, pxy, -⟩ := id hP
    apply hG [9999] 60
    simp only [cq_lt, cq_le, cq_gt, cq_ge, cq_eq, cq_r1, cq_r2, ab_r32, ab_r64, ab_go, ab_stp, wp_z, ab_in, ab_rok, ab_wsum, ab_prm, ab_ret, ab_sw, ab_cd, ab_tg, ab_cat_i, ab_cat_l, ab_cat_r, ab_cl_n, ab_cl_i, ab_cl_l, ab_cl_r, ab_f2_0, ab_f2_1, ab_f4_0, ab_f4_1, ab_f4_2, ab_f4_3, ab_op_s, ab_b1_s, ab_b2_s, ab_l1_s, ab_l2_s, ab_li_s, ab_o1_s, ab_io_s, ab_lo1_s, ab_iio_s, ab_lio_s, ab_cp5_s, ab_d2_l, ab_d2_i, ab_d2_o, ex_iconst, ex_bipush, ex_sipush, ex_lconst, ex_ldc, ex_ldc_w, ex_ldc2_w, ex_iadd, ex_isub, ex_imul, ex_iand, ex_ior, ex_ixor, ex_ishl, ex_ishr, ex_iushr, ex_idiv, ex_irem, ex_ladd, ex_lsub, ex_lmul, ex_lor, ex_ldiv, ex_lrem, ex_lshl, ex_lcmp, ex_ineg, ex_lneg, ex_i2l, ex_l2i, ex_i2b, ex_dup, ex_pop, ex_dup2, ex_goto, ex_tableswitch, ex_aaload, ex_ireturn, ex_lreturn, ex_return_, List.map_cons, List.map_nil, List.sum_cons, List.sum_nil, List.drop_succ_cons, List.drop_zero, List.take_succ_cons, List.take_zero, List.reverse_cons, List.reverse_nil, List.nil_append, List.cons_append, List.length_cons, List.length_nil, true_and, and_true, cond_false, cond_true, Bool.false_or, Bool.or_false, Bool.or_true, Bool.true_or, true_or, or_true, false_or, or_false, if_true, if_false, reduceIte, ite_true, ite_false, implies_true, true_implies, false_implies, forall_const, not_true_eq_false, not_false_eq_true, Nat.reduceAdd, Nat.reduceMul, Nat.reduceSub, Nat.reduceBEq, Nat.reduceEqDiff, Nat.reduceLeDiff, Nat.reduceLT, Int.reduceAdd, Int.reduceSub, Int.reduceMul, Int.reduceNeg, Int.reduceToNat, Int.reduceLE, Int.reduceLT, Int.reduceEq, Int.reduceNe, Int.reduceNatCast, Nat.add_zero, Nat.zero_add, reduceCtorEq, Int.reduceNatCast', wp_c, wp_g, e2_ifCond, e2_if_icmp, ↓bq_t, ↓bq_f, ab_br, ↓ab_b1_s, ↓ab_b2_s, ↓ab_l1_s, ↓ab_l2_s, ↓ab_li_s, ↓ab_o1_s, ↓ab_io_s, ↓ab_lo1_s, ↓ab_iio_s, ↓ab_lio_s, ↓ab_cp5_s, moX11_prices, dX11_prices_0, dal_0, dX11_prices_1, dil_1, dX11_prices_2, dil_2, dX11_prices_3, dv1_11_260_0, moX11_isPair, dX11_prices_6, dX11_prices_9, dil_3, dX11_prices_10, dX11_prices_11, dX11_prices_14, dX11_prices_15, dX11_prices_16, dX11_prices_17, dg1_11_90_0, dX11_prices_20, dX11_prices_21, dg1_11_104_0, dX11_prices_24, dX11_prices_25, dX11_prices_26, dv1_11_295_96, moX5_prepare, dX11_prices_29, dX11_prices_30, dX11_prices_31, dX11_prices_34, dX11_prices_35, dX11_prices_38, dg1_11_298_96, dX11_prices_41, dX11_prices_42, dX11_prices_43, dX11_prices_44, dX11_prices_47, dX11_prices_50, dX11_prices_53, dX11_prices_54, dX11_prices_57, dX11_prices_58, dv1_11_299_96, moX5_pairAt, dX11_prices_61, dX11_prices_64, dX11_prices_65]
    refine l_pPrepare hJ hK hP (zFr_rf ω) (by omega) ⟨by have := hQ.1; omega, hQ.2.1⟩ hQ.2.2 (fun ρ r1 r2 r3 r4 r5 => ?_)
    have e0 : ρ 0 = ω 0 := r1 0 (by omega)
    have q : zQp ρ := by
      refine ⟨?_, ?_, fun _ => ?_⟩
      · rw [r2, e0]
        omega
      · rw [r3, r4]
        omega
      · rw [r3, r4]
        exact zPz_m (fun o ho => r1 o (by omega)) (fun _ _ _ => rfl) r5
    have fin : ∀ v, zPa ω x y k v → zJp ω τ mdX12_prices [vR 0, vI x, vI y, vI k] (vI v) ρ := fun v hv => M v ρ r1 q (Or.inl ⟨hP, hk1, hv⟩)
    obtain ⟨⟨s1, s2⟩, -, go⟩ := r5
    have nn : ∀ m, zPc ω (ω 35) (zP0 ω) x y m → 0 ≤ m := fun m ⟨i, j, h1, h2, h3, _⟩ => by omega
    have ct := zOt_ct nn (r := 441) (cnt := ρ 96 9) (f := ρ 99) (cap := 441) go
    have g0 := go.1
    try simp only [cq_lt, cq_le, cq_gt, cq_ge, cq_eq, cq_r1, cq_r2, ab_r32, ab_r64, ab_go, ab_stp, wp_z, ab_in, ab_rok, ab_wsum, ab_prm, ab_ret, ab_sw, ab_cd, ab_tg, ab_cat_i, ab_cat_l, ab_cat_r, ab_cl_n, ab_cl_i, ab_cl_l, ab_cl_r, ab_f2_0, ab_f2_1, ab_f4_0, ab_f4_1, ab_f4_2, ab_f4_3, ab_op_s, ab_b1_s, ab_b2_s, ab_l1_s, ab_l2_s, ab_li_s, ab_o1_s, ab_io_s, ab_lo1_s, ab_iio_s, ab_lio_s, ab_cp5_s, ab_d2_l, ab_d2_i, ab_d2_o, ex_iconst, ex_bipush, ex_sipush, ex_lconst, ex_ldc, ex_ldc_w, ex_ldc2_w, ex_iadd, ex_isub, ex_imul, ex_iand, ex_ior, ex_ixor, ex_ishl, ex_ishr, ex_iushr, ex_idiv, ex_irem, ex_ladd, ex_lsub, ex_lmul, ex_lor, ex_ldiv, ex_lrem, ex_lshl, ex_lcmp, ex_ineg, ex_lneg, ex_i2l, ex_l2i, ex_i2b, ex_dup, ex_pop, ex_dup2, ex_goto, ex_tableswitch, ex_aaload, ex_ireturn, ex_lreturn, ex_return_, List.map_cons, List.map_nil, List.sum_cons, List.sum_nil, List.drop_succ_cons, List.drop_zero, List.take_succ_cons, List.take_zero, List.reverse_cons, List.reverse_nil, List.nil_append, List.cons_append, List.length_cons, List.length_nil, true_and, and_true, cond_false, cond_true, Bool.false_or, Bool.or_false, Bool.or_true, Bool.true_or, true_or, or_true, false_or, or_false, if_true, if_false, reduceIte, ite_true, ite_false, implies_true, true_implies, false_implies, forall_const, not_true_eq_false, not_false_eq_true, Nat.reduceAdd, Nat.reduceMul, Nat.reduceSub, Nat.reduceBEq, Nat.reduceEqDiff, Nat.reduceLeDiff, Nat.reduceLT, Int.reduceAdd, Int.reduceSub, Int.reduceMul, Int.reduceNeg, Int.reduceToNat, Int.reduceLE, Int.reduceLT, Int.reduceEq, Int.reduceNe, Int.reduceNatCast, Nat.add_zero, Nat.zero_add, reduceCtorEq, Int.reduceNatCast', wp_c, wp_g, e2_ifCond, e2_if_icmp, ↓bq_t, ↓bq_f, ab_br, ↓ab_b1_s, ↓ab_b2_s, ↓ab_l1_s, ↓ab_l2_s, ↓ab_li_s, ↓ab_o1_s, ↓ab_io_s, ↓ab_lo1_s, ↓ab_iio_s, ↓ab_lio_s, ↓ab_cp5_s, moX11_prices, dX11_prices_0, dal_0, dX11_prices_1, dil_1, dX11_prices_2, dil_2, dX11_prices_3, dv1_11_260_0, moX11_isPair, dX11_prices_6, dX11_prices_9, dil_3, dX11_prices_10, dX11_prices_11, dX11_prices_14, dX11_prices_15, dX11_prices_16, dX11_prices_17, dg1_11_90_0, dX11_prices_20, dX11_prices_21, dg1_11_104_0, dX11_prices_24, dX11_prices_25, dX11_prices_26, dv1_11_295_96, moX5_prepare, dX11_prices_29, dX11_prices_30, dX11_prices_31, dX11_prices_34, dX11_prices_35, dX11_prices_38, dg1_11_298_96, dX11_prices_41, dX11_prices_42, dX11_prices_43, dX11_prices_44, dX11_prices_47, dX11_prices_50, dX11_prices_53, dX11_prices_54, dX11_prices_57, dX11_prices_58, dv1_11_299_96, moX5_pairAt, dX11_prices_61, dX11_prices_64, dX11_prices_65]
    repeat' (with_reducible (first | apply And.intro | intro _))
    all_goals first | omega | skip
    · exact fin _ (Or.inr (Or.inr ⟨by omega, by have := ct.1; omega, rfl⟩))
    · have k0 : 0 ≤ k := by omega
      have kc : k < ρ 96 9 := by omega
      obtain ⟨i, j, h1, h2, h3, h4⟩ := (go.2.1 k k0 kc).1
      have e := ct.2 k k0 kc
      refine r_pairAt (by omega) s1 (by omega) ?_
      rw [h3] at e ⊢
      have := fin (100 * (zlo ω + i) + zlo ω + j) (Or.inr (Or.inl ⟨k0, i, j, h1, h2, h4, e, rfl⟩))
      rw [show (21 * i + j) / 21 = i by omega, show (21 * i + j) % 21 = j by omega]
      try simp only [cq_lt, cq_le, cq_gt, cq_ge, cq_eq, cq_r1, cq_r2, ab_r32, ab_r64, ab_go, ab_stp, wp_z, ab_in, ab_rok, ab_wsum, ab_prm, ab_ret, ab_sw, ab_cd, ab_tg, ab_cat_i, ab_cat_l, ab_cat_r, ab_cl_n, ab_cl_i, ab_cl_l, ab_cl_r, ab_f2_0, ab_f2_1, ab_f4_0, ab_f4_1, ab_f4_2, ab_f4_3, ab_op_s, ab_b1_s, ab_b2_s, ab_l1_s, ab_l2_s, ab_li_s, ab_o1_s, ab_io_s, ab_lo1_s, ab_iio_s, ab_lio_s, ab_cp5_s, ab_d2_l, ab_d2_i, ab_d2_o, ex_iconst, ex_bipush, ex_sipush, ex_lconst, ex_ldc, ex_ldc_w, ex_ldc2_w, ex_iadd, ex_isub, ex_imul, ex_iand, ex_ior, ex_ixor, ex_ishl, ex_ishr, ex_iushr, ex_idiv, ex_irem, ex_ladd, ex_lsub, ex_lmul, ex_lor, ex_ldiv, ex_lrem, ex_lshl, ex_lcmp, ex_ineg, ex_lneg, ex_i2l, ex_l2i, ex_i2b, ex_dup, ex_pop, ex_dup2, ex_goto, ex_tableswitch, ex_aaload, ex_ireturn, ex_lreturn, ex_return_, List.map_cons, List.map_nil, List.sum_cons, List.sum_nil, List.drop_succ_cons, List.drop_zero, List.take_succ_cons, List.take_zero, List.reverse_cons, List.reverse_nil, List.nil_append, List.cons_append, List.length_cons, List.length_nil, true_and, and_true, cond_false, cond_true, Bool.false_or, Bool.or_false, Bool.or_true, Bool.true_or, true_or, or_true, false_or, or_false, if_true, if_false, reduceIte, ite_true, ite_false, implies_true, true_implies, false_implies, forall_const, not_true_eq_false, not_false_eq_true, Nat.reduceAdd, Nat.reduceMul, Nat.reduceSub, Nat.reduceBEq, Nat.reduceEqDiff, Nat.reduceLeDiff, Nat.reduceLT, Int.reduceAdd, Int.reduceSub, Int.reduceMul, Int.reduceNeg, Int.reduceToNat, Int.reduceLE, Int.reduceLT, Int.reduceEq, Int.reduceNe, Int.reduceNatCast, Nat.add_zero, Nat.zero_add, reduceCtorEq, Int.reduceNatCast', wp_c, wp_g, e2_ifCond, e2_if_icmp, ↓bq_t, ↓bq_f, ab_br, ↓ab_b1_s, ↓ab_b2_s, ↓ab_l1_s, ↓ab_l2_s, ↓ab_li_s, ↓ab_o1_s, ↓ab_io_s, ↓ab_lo1_s, ↓ab_iio_s, ↓ab_lio_s, ↓ab_cp5_s, moX11_prices, dX11_prices_0, dal_0, dX11_prices_1, dil_1, dX11_prices_2, dil_2, dX11_prices_3, dv1_11_260_0, moX11_isPair, dX11_prices_6, dX11_prices_9, dil_3, dX11_prices_10, dX11_prices_11, dX11_prices_14, dX11_prices_15, dX11_prices_16, dX11_prices_17, dg1_11_90_0, dX11_prices_20, dX11_prices_21, dg1_11_104_0, dX11_prices_24, dX11_prices_25, dX11_prices_26, dv1_11_295_96, moX5_prepare, dX11_prices_29, dX11_prices_30, dX11_prices_31, dX11_prices_34, dX11_prices_35, dX11_prices_38, dg1_11_298_96, dX11_prices_41, dX11_prices_42, dX11_prices_43, dX11_prices_44, dX11_prices_47, dX11_prices_50, dX11_prices_53, dX11_prices_54, dX11_prices_57, dX11_prices_58, dv1_11_299_96, moX5_pairAt, dX11_prices_61, dX11_prices_64, dX11_prices_65]
      exact this
    · exact fin _ (Or.inl ⟨by omega, ct.1.symm⟩)
  apply hG [14, 16] 30
  simp only [cq_lt, cq_le, cq_gt, cq_ge, cq_eq, cq_r1, cq_r2, ab_r32, ab_r64, ab_go, ab_stp, wp_z, ab_in, ab_rok, ab_wsum, ab_prm, ab_ret, ab_sw, ab_cd, ab_tg, ab_cat_i, ab_cat_l, ab_cat_r, ab_cl_n, ab_cl_i, ab_cl_l, ab_cl_r, ab_f2_0, ab_f2_1, ab_f4_0, ab_f4_1, ab_f4_2, ab_f4_3, ab_op_s, ab_b1_s, ab_b2_s, ab_l1_s, ab_l2_s, ab_li_s, ab_o1_s, ab_io_s, ab_lo1_s, ab_iio_s, ab_lio_s, ab_cp5_s, ab_d2_l, ab_d2_i, ab_d2_o, ex_iconst, ex_bipush, ex_sipush, ex_lconst, ex_ldc, ex_ldc_w, ex_ldc2_w, ex_iadd, ex_isub, ex_imul, ex_iand, ex_ior, ex_ixor, ex_ishl, ex_ishr, ex_iushr, ex_idiv, ex_irem, ex_ladd, ex_lsub, ex_lmul, ex_lor, ex_ldiv, ex_lrem, ex_lshl, ex_lcmp, ex_ineg, ex_lneg, ex_i2l, ex_l2i, ex_i2b, ex_dup, ex_pop, ex_dup2, ex_goto, ex_tableswitch, ex_aaload, ex_ireturn, ex_lreturn, ex_return_, List.map_cons, List.map_nil, List.sum_cons, List.sum_nil, List.drop_succ_cons, List.drop_zero, List.take_succ_cons, List.take_zero, List.reverse_cons, List.reverse_nil, List.nil_append, List.cons_append, List.length_cons, List.length_nil, true_and, and_true, cond_false, cond_true, Bool.false_or, Bool.or_false, Bool.or_true, Bool.true_or, true_or, or_true, false_or, or_false, if_true, if_false, reduceIte, ite_true, ite_false, implies_true, true_implies, false_implies, forall_const, not_true_eq_false, not_false_eq_true, Nat.reduceAdd, Nat.reduceMul, Nat.reduceSub, Nat.reduceBEq, Nat.reduceEqDiff, Nat.reduceLeDiff, Nat.reduceLT, Int.reduceAdd, Int.reduceSub, Int.reduceMul, Int.reduceNeg, Int.reduceToNat, Int.reduceLE, Int.reduceLT, Int.reduceEq, Int.reduceNe, Int.reduceNatCast, Nat.add_zero, Nat.zero_add, reduceCtorEq, Int.reduceNatCast', wp_c, wp_g, e2_ifCond, e2_if_icmp, ↓bq_t, ↓bq_f, ab_br, ↓ab_b1_s, ↓ab_b2_s, ↓ab_l1_s, ↓ab_l2_s, ↓ab_li_s, ↓ab_o1_s, ↓ab_io_s, ↓ab_lo1_s, ↓ab_iio_s, ↓ab_lio_s, ↓ab_cp5_s, moX11_prices, dX11_prices_0, dal_0, dX11_prices_1, dil_1, dX11_prices_2, dil_2, dX11_prices_3, dv1_11_260_0, moX11_isPair, dX11_prices_6, dX11_prices_9, dil_3, dX11_prices_10, dX11_prices_11, dX11_prices_14, dX11_prices_15, dX11_prices_16, dX11_prices_17, dg1_11_90_0, dX11_prices_20, dX11_prices_21, dg1_11_104_0, dX11_prices_24, dX11_prices_25, dX11_prices_26, dv1_11_295_96, moX5_prepare, dX11_prices_29, dX11_prices_30, dX11_prices_31, dX11_prices_34, dX11_prices_35, dX11_prices_38, dg1_11_298_96, dX11_prices_41, dX11_prices_42, dX11_prices_43, dX11_prices_44, dX11_prices_47, dX11_prices_50, dX11_prices_53, dX11_prices_54, dX11_prices_57, dX11_prices_58, dv1_11_299_96, moX5_pairAt, dX11_prices_61, dX11_prices_64, dX11_prices_65]
  refine r_isPair hn hx hy (fun v hv => ?_)
  try simp only [cq_lt, cq_le, cq_gt, cq_ge, cq_eq, cq_r1, cq_r2, ab_r32, ab_r64, ab_go, ab_stp, wp_z, ab_in, ab_rok, ab_wsum, ab_prm, ab_ret, ab_sw, ab_cd, ab_tg, ab_cat_i, ab_cat_l, ab_cat_r, ab_cl_n, ab_cl_i, ab_cl_l, ab_cl_r, ab_f2_0, ab_f2_1, ab_f4_0, ab_f4_1, ab_f4_2, ab_f4_3, ab_op_s, ab_b1_s, ab_b2_s, ab_l1_s, ab_l2_s, ab_li_s, ab_o1_s, ab_io_s, ab_lo1_s, ab_iio_s, ab_lio_s, ab_cp5_s, ab_d2_l, ab_d2_i, ab_d2_o, ex_iconst, ex_bipush, ex_sipush, ex_lconst, ex_ldc, ex_ldc_w, ex_ldc2_w, ex_iadd, ex_isub, ex_imul, ex_iand, ex_ior, ex_ixor, ex_ishl, ex_ishr, ex_iushr, ex_idiv, ex_irem, ex_ladd, ex_lsub, ex_lmul, ex_lor, ex_ldiv, ex_lrem, ex_lshl, ex_lcmp, ex_ineg, ex_lneg, ex_i2l, ex_l2i, ex_i2b, ex_dup, ex_pop, ex_dup2, ex_goto, ex_tableswitch, ex_aaload, ex_ireturn, ex_lreturn, ex_return_, List.map_cons, List.map_nil, List.sum_cons, List.sum_nil, List.drop_succ_cons, List.drop_zero, List.take_succ_cons, List.take_zero, List.reverse_cons, List.reverse_nil, List.nil_append, List.cons_append, List.length_cons, List.length_nil, true_and, and_true, cond_false, cond_true, Bool.false_or, Bool.or_false, Bool.or_true, Bool.true_or, true_or, or_true, false_or, or_false, if_true, if_false, reduceIte, ite_true, ite_false, implies_true, true_implies, false_implies, forall_const, not_true_eq_false, not_false_eq_true, Nat.reduceAdd, Nat.reduceMul, Nat.reduceSub, Nat.reduceBEq, Nat.reduceEqDiff, Nat.reduceLeDiff, Nat.reduceLT, Int.reduceAdd, Int.reduceSub, Int.reduceMul, Int.reduceNeg, Int.reduceToNat, Int.reduceLE, Int.reduceLT, Int.reduceEq, Int.reduceNe, Int.reduceNatCast, Nat.add_zero, Nat.zero_add, reduceCtorEq, Int.reduceNatCast', wp_c, wp_g, e2_ifCond, e2_if_icmp, ↓bq_t, ↓bq_f, ab_br, ↓ab_b1_s, ↓ab_b2_s, ↓ab_l1_s, ↓ab_l2_s, ↓ab_li_s, ↓ab_o1_s, ↓ab_io_s, ↓ab_lo1_s, ↓ab_iio_s, ↓ab_lio_s, ↓ab_cp5_s, moX11_prices, dX11_prices_0, dal_0, dX11_prices_1, dil_1, dX11_prices_2, dil_2, dX11_prices_3, dv1_11_260_0, moX11_isPair, dX11_prices_6, dX11_prices_9, dil_3, dX11_prices_10, dX11_prices_11, dX11_prices_14, dX11_prices_15, dX11_prices_16, dX11_prices_17, dg1_11_90_0, dX11_prices_20, dX11_prices_21, dg1_11_104_0, dX11_prices_24, dX11_prices_25, dX11_prices_26, dv1_11_295_96, moX5_prepare, dX11_prices_29, dX11_prices_30, dX11_prices_31, dX11_prices_34, dX11_prices_35, dX11_prices_38, dg1_11_298_96, dX11_prices_41, dX11_prices_42, dX11_prices_43, dX11_prices_44, dX11_prices_47, dX11_prices_50, dX11_prices_53, dX11_prices_54, dX11_prices_57, dX11_prices_58, dv1_11_299_96, moX5_pairAt, dX11_prices_61, dX11_prices_64, dX11_prices_65]
  repeat' (with_reducible (first | apply And.intro | intro _))
  all_goals first | omega | exact b14' (by omega) | exact g16 ⟨by omega, by omega, by omega, Or.inl rfl⟩ (by omega)
