-- PRICES: spec and class
def zlo (ω : ab_S) : Int := if ω 28 8 = -1 then ω 3 12 else ω 28 8
def zwd (ω : ab_S) : Int := if ω 28 8 = -1 then ω 3 13 - ω 3 12 + 1 else 1
def zPq (ω : ab_S) (pr : Int → Int) (x y i j : Int) : Int → Int := zu (zu pr x (zlo ω + i)) y (zlo ω + j)
def zPy (ω : ab_S) (sp pr : Int → Int) (x y p i j : Int) : Int := zE ω sp (zPq ω pr x y i j) (if p = 0 then x else y) * zPq ω pr x y i j (if p = 0 then x else y)
def zPr (ω : ab_S) (sp pr : Int → Int) (x y i j : Int) : Prop := ∀ m, 0 ≤ m → m < zwd ω → zPy ω sp pr x y 0 m j ≤ zPy ω sp pr x y 0 i j ∧ zPy ω sp pr x y 1 i m ≤ zPy ω sp pr x y 1 i j
def zPc (ω : ab_S) (sp pr : Int → Int) (x y r : Int) : Prop := ∃ i j, (0 ≤ i ∧ i < zwd ω) ∧ (0 ≤ j ∧ j < zwd ω) ∧ r = 21 * i + j ∧ zPr ω sp pr x y i j
theorem zwd_in {ω : ab_S} (hJ : zJ ω) : (1 ≤ zwd ω ∧ zwd ω ≤ 21) ∧ (0 ≤ zlo ω ∧ zlo ω + zwd ω ≤ 61) := by
  have h1 := hJ.2.2.2.2.2.1
  have h2 := hJ.2.2.2.2.2.2.2
  unfold zwd zlo
  split <;> omega
theorem zPq_ok {ω : ab_S} {sp pr : Int → Int} {x y i j : Int} (hJ : zJ ω) (ho : zOk ω sp pr) (hi : 0 ≤ i ∧ i < zwd ω) (hj : 0 ≤ j ∧ j < zwd ω) : zOk ω sp (zPq ω pr x y i j) := by
  have := zwd_in hJ
  exact zOk_pr (zOk_pr ho (by omega)) (by omega)
theorem zPq_2 {ω : ab_S} {pr : Int → Int} {x y a b i j : Int} : zPq ω (zPq ω pr x y a b) x y i j = zPq ω pr x y i j := by
  unfold zPq
  funext k
  unfold zu
  repeat' split
  all_goals rfl
theorem zPy_in {ω : ab_S} {sp pr : Int → Int} {x y p i j : Int} (hJ : zJ ω) (ho : zOk ω sp pr) (hx : 0 ≤ x ∧ x < ω 34 5) (hy : 0 ≤ y ∧ y < ω 34 5) (hi : 0 ≤ i ∧ i < zwd ω) (hj : 0 ≤ j ∧ j < zwd ω) : 0 ≤ zPy ω sp pr x y p i j ∧ zPy ω sp pr x y p i j ≤ 6000000000 := by
  unfold zPy
  refine zmul60 (zE_in hJ _) ?_
  have := zPq_ok (x := x) (y := y) hJ ho hi hj
  split
  · exact (this x hx.1 hx.2).2
  · exact (this y hy.1 hy.2).2
/-- what the prices' game holds -/
def zPs (ω : ab_S) (sp pr : Int → Int) (x y : Int) (ρ : ab_S) : Prop := (ρ 96 10 = zlo ω ∧ ρ 96 11 = zwd ω) ∧ (∀ i j, (0 ≤ i ∧ i < zwd ω) → (0 ≤ j ∧ j < zwd ω) → ρ 97 (21 * i + j) = zPy ω sp pr x y 0 i j ∧ ρ 98 (21 * i + j) = zPy ω sp pr x y 1 i j) ∧ zOt (zPc ω sp pr x y) (ρ 96 9) (ρ 99) 441 441
def zFx (σ ρ : ab_S) : Prop := (∀ o, (o < 65 ∨ (75 < o ∧ o < 96) ∨ 99 < o) → ρ o = σ o) ∧ ∀ k, 12 ≤ k → ρ 96 k = σ 96 k
theorem zFx_trans {σ ρ υ : ab_S} (h1 : zFx σ ρ) (h2 : zFx ρ υ) : zFx σ υ := ⟨fun o ho => (h2.1 o ho).trans (h1.1 o ho), fun k hk => (h2.2 k hk).trans (h1.2 k hk)⟩
theorem zFm_x {σ ρ : ab_S} (h : zFm σ ρ) : zFx σ ρ := ⟨fun o ho => h o (by omega), fun k _ => by rw [h 96 (by decide)]⟩
set_option maxRecDepth 100000 in
set_option maxHeartbeats 4000000 in
theorem l_pIsRest {ω σ : ab_S} {sp pr : Int → Int} {x y i j : Int} {K : ab_V → ab_S → Prop} (hJ : zJ ω) (ho : zOk ω sp pr) (hx : 0 ≤ x ∧ x < ω 34 5) (hy : 0 ≤ y ∧ y < ω 34 5) (hwd : σ 96 11 = zwd ω) (hv : ∀ i j, (0 ≤ i ∧ i < zwd ω) → (0 ≤ j ∧ j < zwd ω) → σ 97 (21 * i + j) = zPy ω sp pr x y 0 i j ∧ σ 98 (21 * i + j) = zPy ω sp pr x y 1 i j) (hi : 0 ≤ i ∧ i < zwd ω) (hj : 0 ≤ j ∧ j < zwd ω) (h : ∀ v, (zPr ω sp pr x y i j ∧ v = 1 ∨ ¬ zPr ω sp pr x y i j ∧ v = 0) → K (vI v) σ) : ab_Runs ab_G1 mdX5_isRest [vR 96, vI i, vI j] σ K := by
  refine ab_runs mwX5_isRest (by decide +kernel) (Nat.le_of_ble_eq_true rfl) (fun G hG => ?_)
  show G 0 [some (vR 96), some (vI i), some (vI j), none, none] [] _
  have hw := zwd_in hJ
  have v0 := hv i j hi hj
  have b0 := zPy_in (p := 0) hJ ho hx hy hi hj
  have b1 := zPy_in (p := 1) hJ ho hx hy hi hj
  have key : ∀ (k : Nat) (m : Int), zwd ω - m < k → 0 ≤ m → m ≤ zwd ω → (∀ l, 0 ≤ l → l < m → zPy ω sp pr x y 0 l j ≤ zPy ω sp pr x y 0 i j ∧ zPy ω sp pr x y 1 i l ≤ zPy ω sp pr x y 1 i j) → G 10 [some (vR 96), some (vI i), some (vI j), some (vI (21 * i + j)), some (vI m)] [] σ := by
    intro k
    induction k with
    | zero => intro m h1 h2; omega
    | succ k ih =>
      intro m h1 h2 h3 hl
      apply hG [10] 60
      simp only [cq_lt, cq_le, cq_gt, cq_ge, cq_eq, cq_r1, cq_r2, ab_r32, ab_r64, ab_go, ab_stp, wp_z, ab_in, ab_rok, ab_wsum, ab_prm, ab_ret, ab_sw, ab_cd, ab_tg, ab_cat_i, ab_cat_l, ab_cat_r, ab_cl_n, ab_cl_i, ab_cl_l, ab_cl_r, ab_f2_0, ab_f2_1, ab_f4_0, ab_f4_1, ab_f4_2, ab_f4_3, ab_op_s, ab_b1_s, ab_b2_s, ab_l1_s, ab_l2_s, ab_li_s, ab_o1_s, ab_io_s, ab_lo1_s, ab_iio_s, ab_lio_s, ab_cp5_s, ab_d2_l, ab_d2_i, ab_d2_o, ex_iconst, ex_bipush, ex_sipush, ex_lconst, ex_ldc, ex_ldc_w, ex_ldc2_w, ex_iadd, ex_isub, ex_imul, ex_iand, ex_ior, ex_ixor, ex_ishl, ex_ishr, ex_iushr, ex_idiv, ex_irem, ex_ladd, ex_lsub, ex_lmul, ex_lor, ex_ldiv, ex_lrem, ex_lshl, ex_lcmp, ex_ineg, ex_lneg, ex_i2l, ex_l2i, ex_i2b, ex_dup, ex_pop, ex_dup2, ex_goto, ex_tableswitch, ex_aaload, ex_ireturn, ex_lreturn, ex_return_, List.map_cons, List.map_nil, List.sum_cons, List.sum_nil, List.drop_succ_cons, List.drop_zero, List.take_succ_cons, List.take_zero, List.reverse_cons, List.reverse_nil, List.nil_append, List.cons_append, List.length_cons, List.length_nil, true_and, and_true, cond_false, cond_true, Bool.false_or, Bool.or_false, Bool.or_true, Bool.true_or, true_or, or_true, false_or, or_false, if_true, if_false, reduceIte, ite_true, ite_false, implies_true, true_implies, false_implies, forall_const, not_true_eq_false, not_false_eq_true, Nat.reduceAdd, Nat.reduceMul, Nat.reduceSub, Nat.reduceBEq, Nat.reduceEqDiff, Nat.reduceLeDiff, Nat.reduceLT, Int.reduceAdd, Int.reduceSub, Int.reduceMul, Int.reduceNeg, Int.reduceToNat, Int.reduceLE, Int.reduceLT, Int.reduceEq, Int.reduceNe, Int.reduceNatCast, Nat.add_zero, Nat.zero_add, reduceCtorEq, Int.reduceNatCast', wp_c, wp_g, e2_ifCond, e2_if_icmp, ↓bq_t, ↓bq_f, ab_br, ↓ab_b1_s, ↓ab_b2_s, ↓ab_l1_s, ↓ab_l2_s, ↓ab_li_s, ↓ab_o1_s, ↓ab_io_s, ↓ab_lo1_s, ↓ab_iio_s, ↓ab_lio_s, ↓ab_cp5_s, moX5_isRest, dX5_isRest_0, dX5_isRest_2, dil_1, dX5_isRest_3, dX5_isRest_4, dil_2, dX5_isRest_5, dX5_isRest_6, dis_3, dX5_isRest_7, dX5_isRest_8, dis_4, dX5_isRest_10, dil_4, dX5_isRest_12, dal_0, dX5_isRest_13, dg1_5_38_96, dX5_isRest_16, dX5_isRest_19, dX5_isRest_20, dg1_5_11_96, dX5_isRest_23, dX5_isRest_25, dX5_isRest_27, dX5_isRest_28, dX5_isRest_29, dX5_isRest_30, dX5_isRest_31, dX5_isRest_32, dX5_isRest_35, dil_3, dX5_isRest_36, dX5_isRest_37, dX5_isRest_38, dX5_isRest_41, dX5_isRest_42, dg1_5_15_96, dX5_isRest_45, dX5_isRest_47, dX5_isRest_48, dX5_isRest_49, dX5_isRest_51, dX5_isRest_52, dX5_isRest_53, dX5_isRest_54, dX5_isRest_57, dX5_isRest_58, dX5_isRest_59, dX5_isRest_60, dX5_isRest_63, dX5_isRest_64, dX5_isRest_65, dinc_4, dX5_isRest_68, dX5_isRest_71, dX5_isRest_72, dal1_97, dal1_98, hwd]
      repeat' (with_reducible (first | apply And.intro | intro _))
      all_goals first | omega | skip
      · exact h 1 (Or.inl ⟨fun l l1 l2 => hl l l1 (by omega), rfl⟩)
      all_goals (have v1 := (hv m j ⟨h2, by omega⟩ hj).1; have v2 := (hv i m hi ⟨h2, by omega⟩).2; have c0 := zPy_in (p := 0) (i := m) hJ ho hx hy ⟨h2, by omega⟩ hj; have c1 := zPy_in (p := 1) (j := m) hJ ho hx hy hi ⟨h2, by omega⟩)
      all_goals first | omega | skip
      · refine h 0 (Or.inr ⟨fun z => ?_, rfl⟩)
        have := (z m h2 (by omega)).1
        omega
      · refine ih (m + 1) (by omega) (by omega) (by omega) (fun l l1 l2 => ?_)
        by_cases e : l = m
        · rw [e]
          exact ⟨by omega, by omega⟩
        · exact hl l l1 (by omega)
      · refine h 0 (Or.inr ⟨fun z => ?_, rfl⟩)
        have := (z m h2 (by omega)).2
        omega
  apply hG [10] 60
  simp only [cq_lt, cq_le, cq_gt, cq_ge, cq_eq, cq_r1, cq_r2, ab_r32, ab_r64, ab_go, ab_stp, wp_z, ab_in, ab_rok, ab_wsum, ab_prm, ab_ret, ab_sw, ab_cd, ab_tg, ab_cat_i, ab_cat_l, ab_cat_r, ab_cl_n, ab_cl_i, ab_cl_l, ab_cl_r, ab_f2_0, ab_f2_1, ab_f4_0, ab_f4_1, ab_f4_2, ab_f4_3, ab_op_s, ab_b1_s, ab_b2_s, ab_l1_s, ab_l2_s, ab_li_s, ab_o1_s, ab_io_s, ab_lo1_s, ab_iio_s, ab_lio_s, ab_cp5_s, ab_d2_l, ab_d2_i, ab_d2_o, ex_iconst, ex_bipush, ex_sipush, ex_lconst, ex_ldc, ex_ldc_w, ex_ldc2_w, ex_iadd, ex_isub, ex_imul, ex_iand, ex_ior, ex_ixor, ex_ishl, ex_ishr, ex_iushr, ex_idiv, ex_irem, ex_ladd, ex_lsub, ex_lmul, ex_lor, ex_ldiv, ex_lrem, ex_lshl, ex_lcmp, ex_ineg, ex_lneg, ex_i2l, ex_l2i, ex_i2b, ex_dup, ex_pop, ex_dup2, ex_goto, ex_tableswitch, ex_aaload, ex_ireturn, ex_lreturn, ex_return_, List.map_cons, List.map_nil, List.sum_cons, List.sum_nil, List.drop_succ_cons, List.drop_zero, List.take_succ_cons, List.take_zero, List.reverse_cons, List.reverse_nil, List.nil_append, List.cons_append, List.length_cons, List.length_nil, true_and, and_true, cond_false, cond_true, Bool.false_or, Bool.or_false, Bool.or_true, Bool.true_or, true_or, or_true, false_or, or_false, if_true, if_false, reduceIte, ite_true, ite_false, implies_true, true_implies, false_implies, forall_const, not_true_eq_false, not_false_eq_true, Nat.reduceAdd, Nat.reduceMul, Nat.reduceSub, Nat.reduceBEq, Nat.reduceEqDiff, Nat.reduceLeDiff, Nat.reduceLT, Int.reduceAdd, Int.reduceSub, Int.reduceMul, Int.reduceNeg, Int.reduceToNat, Int.reduceLE, Int.reduceLT, Int.reduceEq, Int.reduceNe, Int.reduceNatCast, Nat.add_zero, Nat.zero_add, reduceCtorEq, Int.reduceNatCast', wp_c, wp_g, e2_ifCond, e2_if_icmp, ↓bq_t, ↓bq_f, ab_br, ↓ab_b1_s, ↓ab_b2_s, ↓ab_l1_s, ↓ab_l2_s, ↓ab_li_s, ↓ab_o1_s, ↓ab_io_s, ↓ab_lo1_s, ↓ab_iio_s, ↓ab_lio_s, ↓ab_cp5_s, moX5_isRest, dX5_isRest_0, dX5_isRest_2, dil_1, dX5_isRest_3, dX5_isRest_4, dil_2, dX5_isRest_5, dX5_isRest_6, dis_3, dX5_isRest_7, dX5_isRest_8, dis_4, dX5_isRest_10, dil_4, dX5_isRest_12, dal_0, dX5_isRest_13, dg1_5_38_96, dX5_isRest_16, dX5_isRest_19, dX5_isRest_20, dg1_5_11_96, dX5_isRest_23, dX5_isRest_25, dX5_isRest_27, dX5_isRest_28, dX5_isRest_29, dX5_isRest_30, dX5_isRest_31, dX5_isRest_32, dX5_isRest_35, dil_3, dX5_isRest_36, dX5_isRest_37, dX5_isRest_38, dX5_isRest_41, dX5_isRest_42, dg1_5_15_96, dX5_isRest_45, dX5_isRest_47, dX5_isRest_48, dX5_isRest_49, dX5_isRest_51, dX5_isRest_52, dX5_isRest_53, dX5_isRest_54, dX5_isRest_57, dX5_isRest_58, dX5_isRest_59, dX5_isRest_60, dX5_isRest_63, dX5_isRest_64, dX5_isRest_65, dinc_4, dX5_isRest_68, dX5_isRest_71, dX5_isRest_72, dal1_97, dal1_98]
  exact key 22 0 (by omega) (by omega) (by omega) (fun l l1 l2 => by omega)
theorem zPc_at {ω : ab_S} {sp pr : Int → Int} {x y i j : Int} (hJ : zJ ω) (hi : 0 ≤ i ∧ i < zwd ω) (hj : 0 ≤ j ∧ j < zwd ω) : zPc ω sp pr x y (21 * i + j) ↔ zPr ω sp pr x y i j := by
  have hw := zwd_in hJ
  constructor
  · rintro ⟨i2, j2, h1, h2, h3, h4⟩
    have e1 : i2 = i := by omega
    have e2 : j2 = j := by omega
    rw [e1, e2] at h4
    exact h4
  · intro q
    exact ⟨i, j, hi, hj, rfl, q⟩
