-- CLASS: Grid, rows
def znp (z : Int) : Int := if z = -1 then 2 else 3
def zFg (σ ρ : ab_S) : Prop := (∀ o, (o < 65 ∨ (75 < o ∧ o < 88) ∨ 92 < o) → ρ o = σ o) ∧ ∀ k, 13 ≤ k → ρ 88 k = σ 88 k
theorem zFg_trans {σ ρ υ : ab_S} (h1 : zFg σ ρ) (h2 : zFg ρ υ) : zFg σ υ := ⟨fun o ho => (h2.1 o ho).trans (h1.1 o ho), fun k hk => (h2.2 k hk).trans (h1.2 k hk)⟩
theorem zFm_g {σ ρ : ab_S} (h : zFm σ ρ) : zFg σ ρ := ⟨fun o ho => h o (by omega), fun k _ => by rw [h 88 (by decide)]⟩
theorem zFg_refl (σ : ab_S) : zFg σ σ := ⟨fun _ _ => rfl, fun _ _ => rfl⟩
/-- the grid's head -/
def zGh (ω : ab_S) (x y z : Int) (ρ : ab_S) : Prop := ρ 88 11 = znp z ∧ (ρ 91 0 = x ∧ ρ 91 1 = y ∧ ρ 91 2 = z) ∧ (ρ 92 0 = ω 3 8 * zdp (ω 3 8) z ∧ ρ 92 1 = zdp (ω 3 8) z ∧ ρ 92 2 = 1)
theorem zGh_m {ω σ ρ : ab_S} {x y z : Int} (h : zGh ω x y z σ) (hf : ∀ o, o = 88 ∨ o = 91 ∨ o = 92 → ρ o = σ o) : zGh ω x y z ρ := by
  unfold zGh
  rw [hf 88 (by decide), hf 91 (by decide), hf 92 (by decide)]
  exact h
theorem zpl_at {ω ρ : ab_S} {x y z p : Int} (h : zGh ω x y z ρ) (hp : 0 ≤ p ∧ p < znp z) : ρ 91 p = zpl x y z p := by
  obtain ⟨-, ⟨h1, h2, h3⟩, -⟩ := h
  unfold znp at hp
  unfold zpl
  split
  · rename_i e; rw [e]; exact h1
  · split
    · rename_i e; rw [e]; exact h2
    · have : p = 2 := by
        split at hp <;> omega
      rw [this]; exact h3
theorem zpl_in {ω : ab_S} {x y z p : Int} (h : zPl ω x y z) (hp : 0 ≤ p ∧ p < znp z) : 0 ≤ zpl x y z p ∧ zpl x y z p < ω 34 5 := by
  obtain ⟨h1, h2, h3, h4⟩ := h
  unfold znp at hp
  unfold zpl
  split
  · exact h1
  · split
    · exact h2
    · split at hp <;> omega
theorem zLet_p {ω : ab_S} {x y z a b c : Int} : zLet ω x y z a b c ↔ ∀ p, 0 ≤ p → p < znp z → zFar ω (zGs ω x y z a b c) (zpl x y z p) (zpl a b c p) := by
  unfold zLet
  constructor
  · rintro ⟨h1, h2, h3⟩ p p1 p2
    unfold znp at p2
    unfold zpl
    by_cases e0 : p = 0
    · rw [if_pos e0, if_pos e0]; exact h1
    · rw [if_neg e0, if_neg e0]
      by_cases e1 : p = 1
      · rw [if_pos e1, if_pos e1]; exact h2
      · rw [if_neg e1, if_neg e1]
        apply h3
        intro hz
        rw [if_pos hz] at p2
        omega
  · intro h
    refine ⟨h 0 (by omega) (by unfold znp; split <;> omega), h 1 (by omega) (by unfold znp; split <;> omega), fun hz => ?_⟩
    have := h 2 (by omega) (by unfold znp; rw [if_neg hz]; omega)
    exact this
theorem zGs_p {ω : ab_S} {x y z a b c p : Int} (h : zPl ω x y z) (hp : 0 ≤ p ∧ p < znp z) : zGs ω x y z a b c (zpl x y z p) = zpl a b c p := by
  obtain ⟨q1, q2, q3⟩ := zGs_at (a := a) (b := b) (c := c) h
  unfold znp at hp
  unfold zpl
  split
  · exact q1
  · split
    · exact q2
    · apply q3
      intro hz
      rw [if_pos hz] at hp
      omega
theorem zW_p {z p : Int} (hp : 0 ≤ p ∧ p < znp z) : p = 0 ∨ p = 1 ∨ (p = 2 ∧ z ≠ -1) := by
  unfold znp at hp
  split at hp <;> omega
set_option maxRecDepth 100000 in
set_option maxHeartbeats 4000000 in
theorem l_weighRow {ω σ : ab_S} {x y z a b c r : Int} {K : ab_V → ab_S → Prop} (hJ : zJ ω) (hK : zK ω) (hP : zPl ω x y z) (hL : zLd ω (zGs ω x y z a b c) (zP0 ω) σ) (hH : zGh ω x y z σ) (ha : 0 ≤ a ∧ a < ω 3 8) (hb : 0 ≤ b ∧ b < ω 3 8) (hc : z = -1 ∨ (0 ≤ c ∧ c < ω 3 8)) (hr : 0 ≤ r ∧ r < 1728)
    (h : ∀ ρ, zLd ω (zGs ω x y z a b c) (zP0 ω) ρ → zFg σ ρ → zGh ω x y z ρ → ρ 90 = σ 90 → (∀ p, 0 ≤ p → p < znp z → ρ 89 (1728 * p + r) = zWv ω x y z p a b c) → (∀ p i, 0 ≤ p → p < 3 → 0 ≤ i → i < 1728 → i ≠ r → ρ 89 (1728 * p + i) = σ 89 (1728 * p + i)) → K (vI 0) ρ) : ab_Runs ab_G1 mdX1_weighRow [vR 88, vI r] σ K := by
  refine ab_runs mwX1_weighRow (by decide +kernel) (Nat.le_of_ble_eq_true rfl) (fun G hG => ?_)
  show G 0 [some (vR 88), some (vI r), none, none] [] _
  have hn := hK.1
  have hT := hJ.1
  have hnp : 2 ≤ znp z ∧ znp z ≤ 3 := by
    unfold znp
    split <;> omega
  have ho : zOk ω (zGs ω x y z a b c) (zP0 ω) := zGs_ok (zOk_0 hJ hK) (zSt_cn hT ha) (zSt_cn hT hb) (by
    rcases hc with e | e
    · exact Or.inl e
    · exact Or.inr (zSt_cn hT e))
  -- the worths
  have key2 : ∀ lt : Int, ((zLet ω x y z a b c ∧ lt = 1) ∨ (¬ zLet ω x y z a b c ∧ lt = 0)) → ∀ (k : Nat) (p : Int) (ρ : ab_S), znp z - p < k → 0 ≤ p → p ≤ znp z → zLd ω (zGs ω x y z a b c) (zP0 ω) ρ → zFg σ ρ → zGh ω x y z ρ → ρ 90 = σ 90 → (zLet ω x y z a b c → ∀ j, 0 ≤ j → j < ω 34 5 → ρ 75 j = zE ω (zGs ω x y z a b c) (zP0 ω) j) → (∀ q, 0 ≤ q → q < p → ρ 89 (1728 * q + r) = zWv ω x y z q a b c) → (∀ q i, 0 ≤ q → q < 3 → 0 ≤ i → i < 1728 → i ≠ r → ρ 89 (1728 * q + i) = σ 89 (1728 * q + i)) → G 71 [some (vR 88), some (vI r), some (vI lt), some (vI p)] [] ρ := by
    intro lt hlt k
    induction k with
    | zero => intro p ρ h1 h2; omega
    | succ k ih =>
      intro p ρ h1 h2 h3 hl hf hg h90 hs hw ho2
      have hpl := hg.1
      have fin : p < znp z → ∀ v, v = zWv ω x y z p a b c → G 71 [some (vR 88), some (vI r), some (vI lt), some (vI (p + 1))] [] (ab_up ρ 89 (1728 * p + r) v) := by
        intro hp v hv
        refine ih (p + 1) _ (by omega) (by omega) (by omega) ⟨fun o o1 => by rw [ab_up_o o (by omega)]; exact hl.1 o o1, hl.2.1, hl.2.2.1, hl.2.2.2⟩ (zFg_trans hf ⟨fun o o1 => by rw [ab_up_o o (by omega)], fun _ _ => rfl⟩) (zGh_m hg (fun o o1 => by rw [ab_up_o o (by omega)])) h90 hs (fun q q1 q2 => ?_) (fun q i q1 q2 i1 i2 i3 => ?_)
        · show (if 1728 * q + r = 1728 * p + r then v else ρ 89 (1728 * q + r)) = _
          by_cases e : q = p
          · rw [if_pos (by omega), e, hv]
          · rw [if_neg (by omega)]
            exact hw q q1 (by omega)
        · show (if 1728 * q + i = 1728 * p + r then v else ρ 89 (1728 * q + i)) = _
          rw [if_neg (by omega)]
          exact ho2 q i q1 q2 i1 i2 i3
      apply hG [71] 60
      simp only [cq_lt, cq_le, cq_gt, cq_ge, cq_eq, cq_r1, cq_r2, ab_r32, ab_r64, ab_go, ab_stp, wp_z, ab_in, ab_rok, ab_wsum, ab_prm, ab_ret, ab_sw, ab_cd, ab_tg, ab_cat_i, ab_cat_l, ab_cat_r, ab_cl_n, ab_cl_i, ab_cl_l, ab_cl_r, ab_f2_0, ab_f2_1, ab_f4_0, ab_f4_1, ab_f4_2, ab_f4_3, ab_op_s, ab_b1_s, ab_b2_s, ab_l1_s, ab_l2_s, ab_li_s, ab_o1_s, ab_io_s, ab_lo1_s, ab_iio_s, ab_lio_s, ab_cp5_s, ab_d2_l, ab_d2_i, ab_d2_o, ex_iconst, ex_bipush, ex_sipush, ex_lconst, ex_ldc, ex_ldc_w, ex_ldc2_w, ex_iadd, ex_isub, ex_imul, ex_iand, ex_ior, ex_ixor, ex_ishl, ex_ishr, ex_iushr, ex_idiv, ex_irem, ex_ladd, ex_lsub, ex_lmul, ex_lor, ex_ldiv, ex_lrem, ex_lshl, ex_lcmp, ex_ineg, ex_lneg, ex_i2l, ex_l2i, ex_i2b, ex_dup, ex_pop, ex_dup2, ex_goto, ex_tableswitch, ex_aaload, ex_ireturn, ex_lreturn, ex_return_, List.map_cons, List.map_nil, List.sum_cons, List.sum_nil, List.drop_succ_cons, List.drop_zero, List.take_succ_cons, List.take_zero, List.reverse_cons, List.reverse_nil, List.nil_append, List.cons_append, List.length_cons, List.length_nil, true_and, and_true, cond_false, cond_true, Bool.false_or, Bool.or_false, Bool.or_true, Bool.true_or, true_or, or_true, false_or, or_false, if_true, if_false, reduceIte, ite_true, ite_false, implies_true, true_implies, false_implies, forall_const, not_true_eq_false, not_false_eq_true, Nat.reduceAdd, Nat.reduceMul, Nat.reduceSub, Nat.reduceBEq, Nat.reduceEqDiff, Nat.reduceLeDiff, Nat.reduceLT, Int.reduceAdd, Int.reduceSub, Int.reduceMul, Int.reduceNeg, Int.reduceToNat, Int.reduceLE, Int.reduceLT, Int.reduceEq, Int.reduceNe, Int.reduceNatCast, Nat.add_zero, Nat.zero_add, reduceCtorEq, Int.reduceNatCast', wp_c, wp_g, e2_ifCond, e2_if_icmp, ↓bq_t, ↓bq_f, ab_br, ↓ab_b1_s, ↓ab_b2_s, ↓ab_l1_s, ↓ab_l2_s, ↓ab_li_s, ↓ab_o1_s, ↓ab_io_s, ↓ab_lo1_s, ↓ab_iio_s, ↓ab_lio_s, ↓ab_cp5_s, moX1_weighRow, dX1_weighRow_0, dX1_weighRow_1, dis_2, dX1_weighRow_2, dX1_weighRow_3, dis_3, dX1_weighRow_4, dil_3, dX1_weighRow_5, dal_0, dX1_weighRow_6, dg1_1_34_88, dX1_weighRow_9, dX1_weighRow_12, dil_2, dX1_weighRow_13, dX1_weighRow_16, dX1_weighRow_17, dg1_1_61_88, dX1_weighRow_20, dX1_weighRow_21, dg1_1_19_88, dX1_weighRow_24, dX1_weighRow_25, dX1_weighRow_26, dX1_weighRow_27, dX1_weighRow_30, dg1_1_95_65, dX1_weighRow_33, dX1_weighRow_34, dX1_weighRow_37, dX1_weighRow_38, dX1_weighRow_39, dX1_weighRow_40, dv1_1_98_65, moX3_isFarEnough, dX1_weighRow_43, dX1_weighRow_46, dX1_weighRow_47, dX1_weighRow_50, dX1_weighRow_51, dX1_weighRow_52, dinc_3, dX1_weighRow_55, dX1_weighRow_58, dX1_weighRow_59, dX1_weighRow_62, dX1_weighRow_63, dX1_weighRow_66, dv1_1_102_65, moX8_goRound, dX1_weighRow_69, dX1_weighRow_70, dX1_weighRow_71, dX1_weighRow_72, dX1_weighRow_73, dX1_weighRow_76, dX1_weighRow_79, dX1_weighRow_80, dg1_1_11_88, dX1_weighRow_83, dX1_weighRow_86, dX1_weighRow_87, dX1_weighRow_88, dil_1, dX1_weighRow_89, dX1_weighRow_90, dX1_weighRow_91, dX1_weighRow_94, dX1_weighRow_95, dX1_weighRow_98, dX1_weighRow_99, dX1_weighRow_102, dX1_weighRow_103, dX1_weighRow_104, dv1_1_105_65, moX3_worth, dX1_weighRow_107, dX1_weighRow_110, kx1_108, dX1_weighRow_113, dX1_weighRow_114, dX1_weighRow_117, dX1_weighRow_120, dal1_66, das1_66, dal1_89, das1_89, dal1_91, das1_91, hpl]
      repeat' (with_reducible (first | apply And.intro | intro _))
      all_goals first | omega | skip
      · exact h ρ hl hf hg h90 (fun q q1 q2 => hw q q1 (by omega)) ho2
      · rename_i q1 q2
        refine fin (by omega) _ ?_
        rcases hlt with ⟨-, y⟩ | ⟨y, -⟩
        · omega
        · rw [zWv_not y]
      · rename_i q1 q2
        have hle : zLet ω x y z a b c := by
          rcases hlt with ⟨y, -⟩ | ⟨-, y⟩
          · exact y
          · exact absurd y q2
        have hpp := zpl_in hP (p := p) ⟨h2, by omega⟩
        rw [zpl_at hg ⟨h2, by omega⟩]
        refine l_worth hJ hK hl ho hpp (hs hle) ?_
        try simp only [cq_lt, cq_le, cq_gt, cq_ge, cq_eq, cq_r1, cq_r2, ab_r32, ab_r64, ab_go, ab_stp, wp_z, ab_in, ab_rok, ab_wsum, ab_prm, ab_ret, ab_sw, ab_cd, ab_tg, ab_cat_i, ab_cat_l, ab_cat_r, ab_cl_n, ab_cl_i, ab_cl_l, ab_cl_r, ab_f2_0, ab_f2_1, ab_f4_0, ab_f4_1, ab_f4_2, ab_f4_3, ab_op_s, ab_b1_s, ab_b2_s, ab_l1_s, ab_l2_s, ab_li_s, ab_o1_s, ab_io_s, ab_lo1_s, ab_iio_s, ab_lio_s, ab_cp5_s, ab_d2_l, ab_d2_i, ab_d2_o, ex_iconst, ex_bipush, ex_sipush, ex_lconst, ex_ldc, ex_ldc_w, ex_ldc2_w, ex_iadd, ex_isub, ex_imul, ex_iand, ex_ior, ex_ixor, ex_ishl, ex_ishr, ex_iushr, ex_idiv, ex_irem, ex_ladd, ex_lsub, ex_lmul, ex_lor, ex_ldiv, ex_lrem, ex_lshl, ex_lcmp, ex_ineg, ex_lneg, ex_i2l, ex_l2i, ex_i2b, ex_dup, ex_pop, ex_dup2, ex_goto, ex_tableswitch, ex_aaload, ex_ireturn, ex_lreturn, ex_return_, List.map_cons, List.map_nil, List.sum_cons, List.sum_nil, List.drop_succ_cons, List.drop_zero, List.take_succ_cons, List.take_zero, List.reverse_cons, List.reverse_nil, List.nil_append, List.cons_append, List.length_cons, List.length_nil, true_and, and_true, cond_false, cond_true, Bool.false_or, Bool.or_false, Bool.or_true, Bool.true_or, true_or, or_true, false_or, or_false, if_true, if_false, reduceIte, ite_true, ite_false, implies_true, true_implies, false_implies, forall_const, not_true_eq_false, not_false_eq_true, Nat.reduceAdd, Nat.reduceMul, Nat.reduceSub, Nat.reduceBEq, Nat.reduceEqDiff, Nat.reduceLeDiff, Nat.reduceLT, Int.reduceAdd, Int.reduceSub, Int.reduceMul, Int.reduceNeg, Int.reduceToNat, Int.reduceLE, Int.reduceLT, Int.reduceEq, Int.reduceNe, Int.reduceNatCast, Nat.add_zero, Nat.zero_add, reduceCtorEq, Int.reduceNatCast', wp_c, wp_g, e2_ifCond, e2_if_icmp, ↓bq_t, ↓bq_f, ab_br, ↓ab_b1_s, ↓ab_b2_s, ↓ab_l1_s, ↓ab_l2_s, ↓ab_li_s, ↓ab_o1_s, ↓ab_io_s, ↓ab_lo1_s, ↓ab_iio_s, ↓ab_lio_s, ↓ab_cp5_s, moX1_weighRow, dX1_weighRow_0, dX1_weighRow_1, dis_2, dX1_weighRow_2, dX1_weighRow_3, dis_3, dX1_weighRow_4, dil_3, dX1_weighRow_5, dal_0, dX1_weighRow_6, dg1_1_34_88, dX1_weighRow_9, dX1_weighRow_12, dil_2, dX1_weighRow_13, dX1_weighRow_16, dX1_weighRow_17, dg1_1_61_88, dX1_weighRow_20, dX1_weighRow_21, dg1_1_19_88, dX1_weighRow_24, dX1_weighRow_25, dX1_weighRow_26, dX1_weighRow_27, dX1_weighRow_30, dg1_1_95_65, dX1_weighRow_33, dX1_weighRow_34, dX1_weighRow_37, dX1_weighRow_38, dX1_weighRow_39, dX1_weighRow_40, dv1_1_98_65, moX3_isFarEnough, dX1_weighRow_43, dX1_weighRow_46, dX1_weighRow_47, dX1_weighRow_50, dX1_weighRow_51, dX1_weighRow_52, dinc_3, dX1_weighRow_55, dX1_weighRow_58, dX1_weighRow_59, dX1_weighRow_62, dX1_weighRow_63, dX1_weighRow_66, dv1_1_102_65, moX8_goRound, dX1_weighRow_69, dX1_weighRow_70, dX1_weighRow_71, dX1_weighRow_72, dX1_weighRow_73, dX1_weighRow_76, dX1_weighRow_79, dX1_weighRow_80, dg1_1_11_88, dX1_weighRow_83, dX1_weighRow_86, dX1_weighRow_87, dX1_weighRow_88, dil_1, dX1_weighRow_89, dX1_weighRow_90, dX1_weighRow_91, dX1_weighRow_94, dX1_weighRow_95, dX1_weighRow_98, dX1_weighRow_99, dX1_weighRow_102, dX1_weighRow_103, dX1_weighRow_104, dv1_1_105_65, moX3_worth, dX1_weighRow_107, dX1_weighRow_110, kx1_108, dX1_weighRow_113, dX1_weighRow_114, dX1_weighRow_117, dX1_weighRow_120, dal1_66, das1_66, dal1_89, das1_89, dal1_91, das1_91]
        repeat' (with_reducible (first | apply And.intro | intro _))
        all_goals first | omega | skip
        exact fin (by omega) _ (by rw [zWv_let hle])
  have key1 : ∀ (k : Nat) (p lt : Int), znp z - p < k → 0 ≤ p → p ≤ znp z → (((∀ q, 0 ≤ q → q < p → zFar ω (zGs ω x y z a b c) (zpl x y z q) (zpl a b c q)) ∧ lt = 1) ∨ (¬ (∀ q, 0 ≤ q → q < p → zFar ω (zGs ω x y z a b c) (zpl x y z q) (zpl a b c q)) ∧ lt = 0)) → G 4 [some (vR 88), some (vI r), some (vI lt), some (vI p)] [] σ := by
    intro k
    induction k with
    | zero => intro p lt h1 h2; omega
    | succ k ih =>
      intro p lt h1 h2 h3 hlt
      have hpl := hH.1
      apply hG [4, 58] 60
      simp only [cq_lt, cq_le, cq_gt, cq_ge, cq_eq, cq_r1, cq_r2, ab_r32, ab_r64, ab_go, ab_stp, wp_z, ab_in, ab_rok, ab_wsum, ab_prm, ab_ret, ab_sw, ab_cd, ab_tg, ab_cat_i, ab_cat_l, ab_cat_r, ab_cl_n, ab_cl_i, ab_cl_l, ab_cl_r, ab_f2_0, ab_f2_1, ab_f4_0, ab_f4_1, ab_f4_2, ab_f4_3, ab_op_s, ab_b1_s, ab_b2_s, ab_l1_s, ab_l2_s, ab_li_s, ab_o1_s, ab_io_s, ab_lo1_s, ab_iio_s, ab_lio_s, ab_cp5_s, ab_d2_l, ab_d2_i, ab_d2_o, ex_iconst, ex_bipush, ex_sipush, ex_lconst, ex_ldc, ex_ldc_w, ex_ldc2_w, ex_iadd, ex_isub, ex_imul, ex_iand, ex_ior, ex_ixor, ex_ishl, ex_ishr, ex_iushr, ex_idiv, ex_irem, ex_ladd, ex_lsub, ex_lmul, ex_lor, ex_ldiv, ex_lrem, ex_lshl, ex_lcmp, ex_ineg, ex_lneg, ex_i2l, ex_l2i, ex_i2b, ex_dup, ex_pop, ex_dup2, ex_goto, ex_tableswitch, ex_aaload, ex_ireturn, ex_lreturn, ex_return_, List.map_cons, List.map_nil, List.sum_cons, List.sum_nil, List.drop_succ_cons, List.drop_zero, List.take_succ_cons, List.take_zero, List.reverse_cons, List.reverse_nil, List.nil_append, List.cons_append, List.length_cons, List.length_nil, true_and, and_true, cond_false, cond_true, Bool.false_or, Bool.or_false, Bool.or_true, Bool.true_or, true_or, or_true, false_or, or_false, if_true, if_false, reduceIte, ite_true, ite_false, implies_true, true_implies, false_implies, forall_const, not_true_eq_false, not_false_eq_true, Nat.reduceAdd, Nat.reduceMul, Nat.reduceSub, Nat.reduceBEq, Nat.reduceEqDiff, Nat.reduceLeDiff, Nat.reduceLT, Int.reduceAdd, Int.reduceSub, Int.reduceMul, Int.reduceNeg, Int.reduceToNat, Int.reduceLE, Int.reduceLT, Int.reduceEq, Int.reduceNe, Int.reduceNatCast, Nat.add_zero, Nat.zero_add, reduceCtorEq, Int.reduceNatCast', wp_c, wp_g, e2_ifCond, e2_if_icmp, ↓bq_t, ↓bq_f, ab_br, ↓ab_b1_s, ↓ab_b2_s, ↓ab_l1_s, ↓ab_l2_s, ↓ab_li_s, ↓ab_o1_s, ↓ab_io_s, ↓ab_lo1_s, ↓ab_iio_s, ↓ab_lio_s, ↓ab_cp5_s, moX1_weighRow, dX1_weighRow_0, dX1_weighRow_1, dis_2, dX1_weighRow_2, dX1_weighRow_3, dis_3, dX1_weighRow_4, dil_3, dX1_weighRow_5, dal_0, dX1_weighRow_6, dg1_1_34_88, dX1_weighRow_9, dX1_weighRow_12, dil_2, dX1_weighRow_13, dX1_weighRow_16, dX1_weighRow_17, dg1_1_61_88, dX1_weighRow_20, dX1_weighRow_21, dg1_1_19_88, dX1_weighRow_24, dX1_weighRow_25, dX1_weighRow_26, dX1_weighRow_27, dX1_weighRow_30, dg1_1_95_65, dX1_weighRow_33, dX1_weighRow_34, dX1_weighRow_37, dX1_weighRow_38, dX1_weighRow_39, dX1_weighRow_40, dv1_1_98_65, moX3_isFarEnough, dX1_weighRow_43, dX1_weighRow_46, dX1_weighRow_47, dX1_weighRow_50, dX1_weighRow_51, dX1_weighRow_52, dinc_3, dX1_weighRow_55, dX1_weighRow_58, dX1_weighRow_59, dX1_weighRow_62, dX1_weighRow_63, dX1_weighRow_66, dv1_1_102_65, moX8_goRound, dX1_weighRow_69, dX1_weighRow_70, dX1_weighRow_71, dX1_weighRow_72, dX1_weighRow_73, dX1_weighRow_76, dX1_weighRow_79, dX1_weighRow_80, dg1_1_11_88, dX1_weighRow_83, dX1_weighRow_86, dX1_weighRow_87, dX1_weighRow_88, dil_1, dX1_weighRow_89, dX1_weighRow_90, dX1_weighRow_91, dX1_weighRow_94, dX1_weighRow_95, dX1_weighRow_98, dX1_weighRow_99, dX1_weighRow_102, dX1_weighRow_103, dX1_weighRow_104, dv1_1_105_65, moX3_worth, dX1_weighRow_107, dX1_weighRow_110, kx1_108, dX1_weighRow_113, dX1_weighRow_114, dX1_weighRow_117, dX1_weighRow_120, dal1_66, das1_66, dal1_89, das1_89, dal1_91, das1_91, hpl]
      repeat' (with_reducible (first | apply And.intro | intro _))
      all_goals first | omega | skip
      · rename_i hq
        have e : p = znp z := by omega
        subst e
        rw [← zLet_p] at hlt
        apply hG [71] 60
        simp only [cq_lt, cq_le, cq_gt, cq_ge, cq_eq, cq_r1, cq_r2, ab_r32, ab_r64, ab_go, ab_stp, wp_z, ab_in, ab_rok, ab_wsum, ab_prm, ab_ret, ab_sw, ab_cd, ab_tg, ab_cat_i, ab_cat_l, ab_cat_r, ab_cl_n, ab_cl_i, ab_cl_l, ab_cl_r, ab_f2_0, ab_f2_1, ab_f4_0, ab_f4_1, ab_f4_2, ab_f4_3, ab_op_s, ab_b1_s, ab_b2_s, ab_l1_s, ab_l2_s, ab_li_s, ab_o1_s, ab_io_s, ab_lo1_s, ab_iio_s, ab_lio_s, ab_cp5_s, ab_d2_l, ab_d2_i, ab_d2_o, ex_iconst, ex_bipush, ex_sipush, ex_lconst, ex_ldc, ex_ldc_w, ex_ldc2_w, ex_iadd, ex_isub, ex_imul, ex_iand, ex_ior, ex_ixor, ex_ishl, ex_ishr, ex_iushr, ex_idiv, ex_irem, ex_ladd, ex_lsub, ex_lmul, ex_lor, ex_ldiv, ex_lrem, ex_lshl, ex_lcmp, ex_ineg, ex_lneg, ex_i2l, ex_l2i, ex_i2b, ex_dup, ex_pop, ex_dup2, ex_goto, ex_tableswitch, ex_aaload, ex_ireturn, ex_lreturn, ex_return_, List.map_cons, List.map_nil, List.sum_cons, List.sum_nil, List.drop_succ_cons, List.drop_zero, List.take_succ_cons, List.take_zero, List.reverse_cons, List.reverse_nil, List.nil_append, List.cons_append, List.length_cons, List.length_nil, true_and, and_true, cond_false, cond_true, Bool.false_or, Bool.or_false, Bool.or_true, Bool.true_or, true_or, or_true, false_or, or_false, if_true, if_false, reduceIte, ite_true, ite_false, implies_true, true_implies, false_implies, forall_const, not_true_eq_false, not_false_eq_true, Nat.reduceAdd, Nat.reduceMul, Nat.reduceSub, Nat.reduceBEq, Nat.reduceEqDiff, Nat.reduceLeDiff, Nat.reduceLT, Int.reduceAdd, Int.reduceSub, Int.reduceMul, Int.reduceNeg, Int.reduceToNat, Int.reduceLE, Int.reduceLT, Int.reduceEq, Int.reduceNe, Int.reduceNatCast, Nat.add_zero, Nat.zero_add, reduceCtorEq, Int.reduceNatCast', wp_c, wp_g, e2_ifCond, e2_if_icmp, ↓bq_t, ↓bq_f, ab_br, ↓ab_b1_s, ↓ab_b2_s, ↓ab_l1_s, ↓ab_l2_s, ↓ab_li_s, ↓ab_o1_s, ↓ab_io_s, ↓ab_lo1_s, ↓ab_iio_s, ↓ab_lio_s, ↓ab_cp5_s, moX1_weighRow, dX1_weighRow_0, dX1_weighRow_1, dis_2, dX1_weighRow_2, dX1_weighRow_3, dis_3, dX1_weighRow_4, dil_3, dX1_weighRow_5, dal_0, dX1_weighRow_6, dg1_1_34_88, dX1_weighRow_9, dX1_weighRow_12, dil_2, dX1_weighRow_13, dX1_weighRow_16, dX1_weighRow_17, dg1_1_61_88, dX1_weighRow_20, dX1_weighRow_21, dg1_1_19_88, dX1_weighRow_24, dX1_weighRow_25, dX1_weighRow_26, dX1_weighRow_27, dX1_weighRow_30, dg1_1_95_65, dX1_weighRow_33, dX1_weighRow_34, dX1_weighRow_37, dX1_weighRow_38, dX1_weighRow_39, dX1_weighRow_40, dv1_1_98_65, moX3_isFarEnough, dX1_weighRow_43, dX1_weighRow_46, dX1_weighRow_47, dX1_weighRow_50, dX1_weighRow_51, dX1_weighRow_52, dinc_3, dX1_weighRow_55, dX1_weighRow_58, dX1_weighRow_59, dX1_weighRow_62, dX1_weighRow_63, dX1_weighRow_66, dv1_1_102_65, moX8_goRound, dX1_weighRow_69, dX1_weighRow_70, dX1_weighRow_71, dX1_weighRow_72, dX1_weighRow_73, dX1_weighRow_76, dX1_weighRow_79, dX1_weighRow_80, dg1_1_11_88, dX1_weighRow_83, dX1_weighRow_86, dX1_weighRow_87, dX1_weighRow_88, dil_1, dX1_weighRow_89, dX1_weighRow_90, dX1_weighRow_91, dX1_weighRow_94, dX1_weighRow_95, dX1_weighRow_98, dX1_weighRow_99, dX1_weighRow_102, dX1_weighRow_103, dX1_weighRow_104, dv1_1_105_65, moX3_worth, dX1_weighRow_107, dX1_weighRow_110, kx1_108, dX1_weighRow_113, dX1_weighRow_114, dX1_weighRow_117, dX1_weighRow_120, dal1_66, das1_66, dal1_89, das1_89, dal1_91, das1_91]
        repeat' (with_reducible (first | apply And.intro | intro _))
        all_goals first | omega | skip
        · rename_i q2
          have hnl : ¬ zLet ω x y z a b c := by
            rcases hlt with ⟨-, y⟩ | ⟨y, -⟩
            · omega
            · exact y
          exact key2 lt hlt 4 0 σ (by omega) (by omega) (by omega) hL (zFg_refl σ) hH rfl (fun z => absurd z hnl) (fun q q1 q2 => by omega) (fun _ _ _ _ _ _ _ => rfl)
        · rename_i q2
          refine l_goRound hJ hK hL ho (fun φ c1 c2 c3 c4 c5 => ?_)
          try simp only [cq_lt, cq_le, cq_gt, cq_ge, cq_eq, cq_r1, cq_r2, ab_r32, ab_r64, ab_go, ab_stp, wp_z, ab_in, ab_rok, ab_wsum, ab_prm, ab_ret, ab_sw, ab_cd, ab_tg, ab_cat_i, ab_cat_l, ab_cat_r, ab_cl_n, ab_cl_i, ab_cl_l, ab_cl_r, ab_f2_0, ab_f2_1, ab_f4_0, ab_f4_1, ab_f4_2, ab_f4_3, ab_op_s, ab_b1_s, ab_b2_s, ab_l1_s, ab_l2_s, ab_li_s, ab_o1_s, ab_io_s, ab_lo1_s, ab_iio_s, ab_lio_s, ab_cp5_s, ab_d2_l, ab_d2_i, ab_d2_o, ex_iconst, ex_bipush, ex_sipush, ex_lconst, ex_ldc, ex_ldc_w, ex_ldc2_w, ex_iadd, ex_isub, ex_imul, ex_iand, ex_ior, ex_ixor, ex_ishl, ex_ishr, ex_iushr, ex_idiv, ex_irem, ex_ladd, ex_lsub, ex_lmul, ex_lor, ex_ldiv, ex_lrem, ex_lshl, ex_lcmp, ex_ineg, ex_lneg, ex_i2l, ex_l2i, ex_i2b, ex_dup, ex_pop, ex_dup2, ex_goto, ex_tableswitch, ex_aaload, ex_ireturn, ex_lreturn, ex_return_, List.map_cons, List.map_nil, List.sum_cons, List.sum_nil, List.drop_succ_cons, List.drop_zero, List.take_succ_cons, List.take_zero, List.reverse_cons, List.reverse_nil, List.nil_append, List.cons_append, List.length_cons, List.length_nil, true_and, and_true, cond_false, cond_true, Bool.false_or, Bool.or_false, Bool.or_true, Bool.true_or, true_or, or_true, false_or, or_false, if_true, if_false, reduceIte, ite_true, ite_false, implies_true, true_implies, false_implies, forall_const, not_true_eq_false, not_false_eq_true, Nat.reduceAdd, Nat.reduceMul, Nat.reduceSub, Nat.reduceBEq, Nat.reduceEqDiff, Nat.reduceLeDiff, Nat.reduceLT, Int.reduceAdd, Int.reduceSub, Int.reduceMul, Int.reduceNeg, Int.reduceToNat, Int.reduceLE, Int.reduceLT, Int.reduceEq, Int.reduceNe, Int.reduceNatCast, Nat.add_zero, Nat.zero_add, reduceCtorEq, Int.reduceNatCast', wp_c, wp_g, e2_ifCond, e2_if_icmp, ↓bq_t, ↓bq_f, ab_br, ↓ab_b1_s, ↓ab_b2_s, ↓ab_l1_s, ↓ab_l2_s, ↓ab_li_s, ↓ab_o1_s, ↓ab_io_s, ↓ab_lo1_s, ↓ab_iio_s, ↓ab_lio_s, ↓ab_cp5_s, moX1_weighRow, dX1_weighRow_0, dX1_weighRow_1, dis_2, dX1_weighRow_2, dX1_weighRow_3, dis_3, dX1_weighRow_4, dil_3, dX1_weighRow_5, dal_0, dX1_weighRow_6, dg1_1_34_88, dX1_weighRow_9, dX1_weighRow_12, dil_2, dX1_weighRow_13, dX1_weighRow_16, dX1_weighRow_17, dg1_1_61_88, dX1_weighRow_20, dX1_weighRow_21, dg1_1_19_88, dX1_weighRow_24, dX1_weighRow_25, dX1_weighRow_26, dX1_weighRow_27, dX1_weighRow_30, dg1_1_95_65, dX1_weighRow_33, dX1_weighRow_34, dX1_weighRow_37, dX1_weighRow_38, dX1_weighRow_39, dX1_weighRow_40, dv1_1_98_65, moX3_isFarEnough, dX1_weighRow_43, dX1_weighRow_46, dX1_weighRow_47, dX1_weighRow_50, dX1_weighRow_51, dX1_weighRow_52, dinc_3, dX1_weighRow_55, dX1_weighRow_58, dX1_weighRow_59, dX1_weighRow_62, dX1_weighRow_63, dX1_weighRow_66, dv1_1_102_65, moX8_goRound, dX1_weighRow_69, dX1_weighRow_70, dX1_weighRow_71, dX1_weighRow_72, dX1_weighRow_73, dX1_weighRow_76, dX1_weighRow_79, dX1_weighRow_80, dg1_1_11_88, dX1_weighRow_83, dX1_weighRow_86, dX1_weighRow_87, dX1_weighRow_88, dil_1, dX1_weighRow_89, dX1_weighRow_90, dX1_weighRow_91, dX1_weighRow_94, dX1_weighRow_95, dX1_weighRow_98, dX1_weighRow_99, dX1_weighRow_102, dX1_weighRow_103, dX1_weighRow_104, dv1_1_105_65, moX3_worth, dX1_weighRow_107, dX1_weighRow_110, kx1_108, dX1_weighRow_113, dX1_weighRow_114, dX1_weighRow_117, dX1_weighRow_120, dal1_66, das1_66, dal1_89, das1_89, dal1_91, das1_91]
          exact key2 lt hlt 4 0 φ (by omega) (by omega) (by omega) c1 (zFm_g c2) (zGh_m hH (fun o o1 => c2 o (by omega))) (c2 90 (by decide)) (fun _ => c3) (fun q q1 q2 => by omega) (fun _ _ _ _ _ _ _ => by rw [c2 89 (by decide)])
      · rename_i q1 q2
        refine ih (p + 1) 0 (by omega) (by omega) (by omega) (Or.inr ⟨fun y => ?_, rfl⟩)
        rcases hlt with ⟨-, e⟩ | ⟨e, -⟩
        · omega
        · exact e (fun q q1 q2 => y q q1 (by omega))
      all_goals (have hpp := zpl_in hP (p := p) ⟨h2, by omega⟩; rw [zpl_at hH ⟨h2, by omega⟩])
      all_goals first | omega | skip
      · rename_i q1 q2
        have hsp : σ 66 (zpl x y z p) = zpl a b c p := by
          rw [(hL.2.2.2 _ hpp.1 hpp.2).1]
          exact zGs_p hP ⟨h2, by omega⟩
        rw [hsp]
        have hzc : zSt ω (zpl a b c p) := by
          rw [← hsp, (hL.2.2.2 _ hpp.1 hpp.2).1]
          exact (ho _ hpp.1 hpp.2).1
        refine l_isFar hJ hK hL ho (by omega) hzc (fun v hv => ?_)
        have hall : ∀ q, 0 ≤ q → q < p → zFar ω (zGs ω x y z a b c) (zpl x y z q) (zpl a b c q) := by
          rcases hlt with ⟨y, -⟩ | ⟨-, y⟩
          · exact y
          · exact absurd y q2
        try simp only [cq_lt, cq_le, cq_gt, cq_ge, cq_eq, cq_r1, cq_r2, ab_r32, ab_r64, ab_go, ab_stp, wp_z, ab_in, ab_rok, ab_wsum, ab_prm, ab_ret, ab_sw, ab_cd, ab_tg, ab_cat_i, ab_cat_l, ab_cat_r, ab_cl_n, ab_cl_i, ab_cl_l, ab_cl_r, ab_f2_0, ab_f2_1, ab_f4_0, ab_f4_1, ab_f4_2, ab_f4_3, ab_op_s, ab_b1_s, ab_b2_s, ab_l1_s, ab_l2_s, ab_li_s, ab_o1_s, ab_io_s, ab_lo1_s, ab_iio_s, ab_lio_s, ab_cp5_s, ab_d2_l, ab_d2_i, ab_d2_o, ex_iconst, ex_bipush, ex_sipush, ex_lconst, ex_ldc, ex_ldc_w, ex_ldc2_w, ex_iadd, ex_isub, ex_imul, ex_iand, ex_ior, ex_ixor, ex_ishl, ex_ishr, ex_iushr, ex_idiv, ex_irem, ex_ladd, ex_lsub, ex_lmul, ex_lor, ex_ldiv, ex_lrem, ex_lshl, ex_lcmp, ex_ineg, ex_lneg, ex_i2l, ex_l2i, ex_i2b, ex_dup, ex_pop, ex_dup2, ex_goto, ex_tableswitch, ex_aaload, ex_ireturn, ex_lreturn, ex_return_, List.map_cons, List.map_nil, List.sum_cons, List.sum_nil, List.drop_succ_cons, List.drop_zero, List.take_succ_cons, List.take_zero, List.reverse_cons, List.reverse_nil, List.nil_append, List.cons_append, List.length_cons, List.length_nil, true_and, and_true, cond_false, cond_true, Bool.false_or, Bool.or_false, Bool.or_true, Bool.true_or, true_or, or_true, false_or, or_false, if_true, if_false, reduceIte, ite_true, ite_false, implies_true, true_implies, false_implies, forall_const, not_true_eq_false, not_false_eq_true, Nat.reduceAdd, Nat.reduceMul, Nat.reduceSub, Nat.reduceBEq, Nat.reduceEqDiff, Nat.reduceLeDiff, Nat.reduceLT, Int.reduceAdd, Int.reduceSub, Int.reduceMul, Int.reduceNeg, Int.reduceToNat, Int.reduceLE, Int.reduceLT, Int.reduceEq, Int.reduceNe, Int.reduceNatCast, Nat.add_zero, Nat.zero_add, reduceCtorEq, Int.reduceNatCast', wp_c, wp_g, e2_ifCond, e2_if_icmp, ↓bq_t, ↓bq_f, ab_br, ↓ab_b1_s, ↓ab_b2_s, ↓ab_l1_s, ↓ab_l2_s, ↓ab_li_s, ↓ab_o1_s, ↓ab_io_s, ↓ab_lo1_s, ↓ab_iio_s, ↓ab_lio_s, ↓ab_cp5_s, moX1_weighRow, dX1_weighRow_0, dX1_weighRow_1, dis_2, dX1_weighRow_2, dX1_weighRow_3, dis_3, dX1_weighRow_4, dil_3, dX1_weighRow_5, dal_0, dX1_weighRow_6, dg1_1_34_88, dX1_weighRow_9, dX1_weighRow_12, dil_2, dX1_weighRow_13, dX1_weighRow_16, dX1_weighRow_17, dg1_1_61_88, dX1_weighRow_20, dX1_weighRow_21, dg1_1_19_88, dX1_weighRow_24, dX1_weighRow_25, dX1_weighRow_26, dX1_weighRow_27, dX1_weighRow_30, dg1_1_95_65, dX1_weighRow_33, dX1_weighRow_34, dX1_weighRow_37, dX1_weighRow_38, dX1_weighRow_39, dX1_weighRow_40, dv1_1_98_65, moX3_isFarEnough, dX1_weighRow_43, dX1_weighRow_46, dX1_weighRow_47, dX1_weighRow_50, dX1_weighRow_51, dX1_weighRow_52, dinc_3, dX1_weighRow_55, dX1_weighRow_58, dX1_weighRow_59, dX1_weighRow_62, dX1_weighRow_63, dX1_weighRow_66, dv1_1_102_65, moX8_goRound, dX1_weighRow_69, dX1_weighRow_70, dX1_weighRow_71, dX1_weighRow_72, dX1_weighRow_73, dX1_weighRow_76, dX1_weighRow_79, dX1_weighRow_80, dg1_1_11_88, dX1_weighRow_83, dX1_weighRow_86, dX1_weighRow_87, dX1_weighRow_88, dil_1, dX1_weighRow_89, dX1_weighRow_90, dX1_weighRow_91, dX1_weighRow_94, dX1_weighRow_95, dX1_weighRow_98, dX1_weighRow_99, dX1_weighRow_102, dX1_weighRow_103, dX1_weighRow_104, dv1_1_105_65, moX3_worth, dX1_weighRow_107, dX1_weighRow_110, kx1_108, dX1_weighRow_113, dX1_weighRow_114, dX1_weighRow_117, dX1_weighRow_120, dal1_66, das1_66, dal1_89, das1_89, dal1_91, das1_91]
        repeat' (with_reducible (first | apply And.intro | intro _))
        all_goals first | omega | skip
        · rename_i q3
          refine ih (p + 1) 0 (by omega) (by omega) (by omega) (Or.inr ⟨fun y => ?_, rfl⟩)
          rcases hv with ⟨-, e⟩ | ⟨e, -⟩
          · omega
          · exact e (y p h2 (by omega))
        · rename_i q3
          refine ih (p + 1) 1 (by omega) (by omega) (by omega) (Or.inl ⟨fun q i1 i2 => ?_, rfl⟩)
          by_cases e : q = p
          · rw [e]
            rcases hv with ⟨y, -⟩ | ⟨-, y⟩
            · exact y
            · exact absurd y q3
          · exact hall q i1 (by omega)
  apply hG [4] 60
  simp only [cq_lt, cq_le, cq_gt, cq_ge, cq_eq, cq_r1, cq_r2, ab_r32, ab_r64, ab_go, ab_stp, wp_z, ab_in, ab_rok, ab_wsum, ab_prm, ab_ret, ab_sw, ab_cd, ab_tg, ab_cat_i, ab_cat_l, ab_cat_r, ab_cl_n, ab_cl_i, ab_cl_l, ab_cl_r, ab_f2_0, ab_f2_1, ab_f4_0, ab_f4_1, ab_f4_2, ab_f4_3, ab_op_s, ab_b1_s, ab_b2_s, ab_l1_s, ab_l2_s, ab_li_s, ab_o1_s, ab_io_s, ab_lo1_s, ab_iio_s, ab_lio_s, ab_cp5_s, ab_d2_l, ab_d2_i, ab_d2_o, ex_iconst, ex_bipush, ex_sipush, ex_lconst, ex_ldc, ex_ldc_w, ex_ldc2_w, ex_iadd, ex_isub, ex_imul, ex_iand, ex_ior, ex_ixor, ex_ishl, ex_ishr, ex_iushr, ex_idiv, ex_irem, ex_ladd, ex_lsub, ex_lmul, ex_lor, ex_ldiv, ex_lrem, ex_lshl, ex_lcmp, ex_ineg, ex_lneg, ex_i2l, ex_l2i, ex_i2b, ex_dup, ex_pop, ex_dup2, ex_goto, ex_tableswitch, ex_aaload, ex_ireturn, ex_lreturn, ex_return_, List.map_cons, List.map_nil, List.sum_cons, List.sum_nil, List.drop_succ_cons, List.drop_zero, List.take_succ_cons, List.take_zero, List.reverse_cons, List.reverse_nil, List.nil_append, List.cons_append, List.length_cons, List.length_nil, true_and, and_true, cond_false, cond_true, Bool.false_or, Bool.or_false, Bool.or_true, Bool.true_or, true_or, or_true, false_or, or_false, if_true, if_false, reduceIte, ite_true, ite_false, implies_true, true_implies, false_implies, forall_const, not_true_eq_false, not_false_eq_true, Nat.reduceAdd, Nat.reduceMul, Nat.reduceSub, Nat.reduceBEq, Nat.reduceEqDiff, Nat.reduceLeDiff, Nat.reduceLT, Int.reduceAdd, Int.reduceSub, Int.reduceMul, Int.reduceNeg, Int.reduceToNat, Int.reduceLE, Int.reduceLT, Int.reduceEq, Int.reduceNe, Int.reduceNatCast, Nat.add_zero, Nat.zero_add, reduceCtorEq, Int.reduceNatCast', wp_c, wp_g, e2_ifCond, e2_if_icmp, ↓bq_t, ↓bq_f, ab_br, ↓ab_b1_s, ↓ab_b2_s, ↓ab_l1_s, ↓ab_l2_s, ↓ab_li_s, ↓ab_o1_s, ↓ab_io_s, ↓ab_lo1_s, ↓ab_iio_s, ↓ab_lio_s, ↓ab_cp5_s, moX1_weighRow, dX1_weighRow_0, dX1_weighRow_1, dis_2, dX1_weighRow_2, dX1_weighRow_3, dis_3, dX1_weighRow_4, dil_3, dX1_weighRow_5, dal_0, dX1_weighRow_6, dg1_1_34_88, dX1_weighRow_9, dX1_weighRow_12, dil_2, dX1_weighRow_13, dX1_weighRow_16, dX1_weighRow_17, dg1_1_61_88, dX1_weighRow_20, dX1_weighRow_21, dg1_1_19_88, dX1_weighRow_24, dX1_weighRow_25, dX1_weighRow_26, dX1_weighRow_27, dX1_weighRow_30, dg1_1_95_65, dX1_weighRow_33, dX1_weighRow_34, dX1_weighRow_37, dX1_weighRow_38, dX1_weighRow_39, dX1_weighRow_40, dv1_1_98_65, moX3_isFarEnough, dX1_weighRow_43, dX1_weighRow_46, dX1_weighRow_47, dX1_weighRow_50, dX1_weighRow_51, dX1_weighRow_52, dinc_3, dX1_weighRow_55, dX1_weighRow_58, dX1_weighRow_59, dX1_weighRow_62, dX1_weighRow_63, dX1_weighRow_66, dv1_1_102_65, moX8_goRound, dX1_weighRow_69, dX1_weighRow_70, dX1_weighRow_71, dX1_weighRow_72, dX1_weighRow_73, dX1_weighRow_76, dX1_weighRow_79, dX1_weighRow_80, dg1_1_11_88, dX1_weighRow_83, dX1_weighRow_86, dX1_weighRow_87, dX1_weighRow_88, dil_1, dX1_weighRow_89, dX1_weighRow_90, dX1_weighRow_91, dX1_weighRow_94, dX1_weighRow_95, dX1_weighRow_98, dX1_weighRow_99, dX1_weighRow_102, dX1_weighRow_103, dX1_weighRow_104, dv1_1_105_65, moX3_worth, dX1_weighRow_107, dX1_weighRow_110, kx1_108, dX1_weighRow_113, dX1_weighRow_114, dX1_weighRow_117, dX1_weighRow_120, dal1_66, das1_66, dal1_89, das1_89, dal1_91, das1_91]
  exact key1 4 0 1 (by omega) (by omega) (by omega) (Or.inl ⟨fun q q1 q2 => by omega, rfl⟩)
