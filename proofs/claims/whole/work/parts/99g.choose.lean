-- BEST LAW: class
set_option maxRecDepth 100000 in
set_option maxHeartbeats 4000000 in
theorem r_fill95 {σ : ab_S} {v : Int} {K : ab_V → ab_S → Prop} (h : K (vI 0) (ab_set σ 95 (zfill (σ 95) 3 v))) : ab_Runs ab_G1 mdJ7_fill_d0a16 [vR 95, vJ v] σ K := by
  refine ab_runs mwJ7_fill_d0a16 (by decide +kernel) (Nat.le_of_ble_eq_true rfl) (fun G hG => ?_)
  show G 0 [some (vR 95), some (vJ v), none, none, none] [] _
  have key : ∀ (m : Nat) (i : Int), 3 - i < m → 0 ≤ i → i ≤ 3 → G 6 [some (vR 95), some (vJ v), none, some (vI i), some (vI 3)] [] (ab_set σ 95 (zfill (σ 95) i v)) := by
    intro m
    induction m with
    | zero => intro i h1 h2 h3; omega
    | succ m ih =>
      intro i h1 h2 h3
      apply hG [6] 30
      simp only [cq_lt, cq_le, cq_gt, cq_ge, cq_eq, cq_r1, cq_r2, ab_r32, ab_r64, ab_go, ab_stp, wp_z, ab_in, ab_rok, ab_wsum, ab_prm, ab_ret, ab_sw, ab_cd, ab_tg, ab_cat_i, ab_cat_l, ab_cat_r, ab_cl_n, ab_cl_i, ab_cl_l, ab_cl_r, ab_f2_0, ab_f2_1, ab_f4_0, ab_f4_1, ab_f4_2, ab_f4_3, ab_op_s, ab_b1_s, ab_b2_s, ab_l1_s, ab_l2_s, ab_li_s, ab_o1_s, ab_io_s, ab_lo1_s, ab_iio_s, ab_lio_s, ab_cp5_s, ab_d2_l, ab_d2_i, ab_d2_o, ex_iconst, ex_bipush, ex_sipush, ex_lconst, ex_ldc, ex_ldc_w, ex_ldc2_w, ex_iadd, ex_isub, ex_imul, ex_iand, ex_ior, ex_ixor, ex_ishl, ex_ishr, ex_iushr, ex_idiv, ex_irem, ex_ladd, ex_lsub, ex_lmul, ex_lor, ex_ldiv, ex_lrem, ex_lshl, ex_lcmp, ex_ineg, ex_lneg, ex_i2l, ex_l2i, ex_i2b, ex_dup, ex_pop, ex_dup2, ex_goto, ex_tableswitch, ex_aaload, ex_ireturn, ex_lreturn, ex_return_, List.map_cons, List.map_nil, List.sum_cons, List.sum_nil, List.drop_succ_cons, List.drop_zero, List.take_succ_cons, List.take_zero, List.reverse_cons, List.reverse_nil, List.nil_append, List.cons_append, List.length_cons, List.length_nil, true_and, and_true, cond_false, cond_true, Bool.false_or, Bool.or_false, Bool.or_true, Bool.true_or, true_or, or_true, false_or, or_false, if_true, if_false, reduceIte, ite_true, ite_false, implies_true, true_implies, false_implies, forall_const, not_true_eq_false, not_false_eq_true, Nat.reduceAdd, Nat.reduceMul, Nat.reduceSub, Nat.reduceBEq, Nat.reduceEqDiff, Nat.reduceLeDiff, Nat.reduceLT, Int.reduceAdd, Int.reduceSub, Int.reduceMul, Int.reduceNeg, Int.reduceToNat, Int.reduceLE, Int.reduceLT, Int.reduceEq, Int.reduceNe, Int.reduceNatCast, Nat.add_zero, Nat.zero_add, reduceCtorEq, Int.reduceNatCast', wp_c, wp_g, e2_ifCond, e2_if_icmp, ↓bq_t, ↓bq_f, ab_br, ↓ab_b1_s, ↓ab_b2_s, ↓ab_l1_s, ↓ab_l2_s, ↓ab_li_s, ↓ab_o1_s, ↓ab_io_s, ↓ab_lo1_s, ↓ab_iio_s, ↓ab_lio_s, ↓ab_cp5_s, moJ7_fill_d0a16, dJ7_fill_d0a16_0, dJ7_fill_d0a16_1, dis_3, dJ7_fill_d0a16_2, dal_0, dJ7_fill_d0a16_3, dJ7_fill_d0a16_4, dis_4, dJ7_fill_d0a16_6, dil_3, dJ7_fill_d0a16_7, dil_4, dJ7_fill_d0a16_9, dJ7_fill_d0a16_12, dJ7_fill_d0a16_13, dJ7_fill_d0a16_14, dll_1, dJ7_fill_d0a16_15, dJ7_fill_d0a16_16, dinc_3, dJ7_fill_d0a16_19, dJ7_fill_d0a16_22, das1_95, dln1_95]
      repeat' (with_reducible (first | apply And.intro | intro _))
      all_goals first | omega | skip
      · rename_i hc
        have e : i = 3 := by omega
        rw [e] at h2 ⊢
        exact h
      · rw [ab_up_set, zfill_s _ h2]
        exact ih (i + 1) (by omega) (by omega) (by omega)
  apply hG [6] 30
  simp only [cq_lt, cq_le, cq_gt, cq_ge, cq_eq, cq_r1, cq_r2, ab_r32, ab_r64, ab_go, ab_stp, wp_z, ab_in, ab_rok, ab_wsum, ab_prm, ab_ret, ab_sw, ab_cd, ab_tg, ab_cat_i, ab_cat_l, ab_cat_r, ab_cl_n, ab_cl_i, ab_cl_l, ab_cl_r, ab_f2_0, ab_f2_1, ab_f4_0, ab_f4_1, ab_f4_2, ab_f4_3, ab_op_s, ab_b1_s, ab_b2_s, ab_l1_s, ab_l2_s, ab_li_s, ab_o1_s, ab_io_s, ab_lo1_s, ab_iio_s, ab_lio_s, ab_cp5_s, ab_d2_l, ab_d2_i, ab_d2_o, ex_iconst, ex_bipush, ex_sipush, ex_lconst, ex_ldc, ex_ldc_w, ex_ldc2_w, ex_iadd, ex_isub, ex_imul, ex_iand, ex_ior, ex_ixor, ex_ishl, ex_ishr, ex_iushr, ex_idiv, ex_irem, ex_ladd, ex_lsub, ex_lmul, ex_lor, ex_ldiv, ex_lrem, ex_lshl, ex_lcmp, ex_ineg, ex_lneg, ex_i2l, ex_l2i, ex_i2b, ex_dup, ex_pop, ex_dup2, ex_goto, ex_tableswitch, ex_aaload, ex_ireturn, ex_lreturn, ex_return_, List.map_cons, List.map_nil, List.sum_cons, List.sum_nil, List.drop_succ_cons, List.drop_zero, List.take_succ_cons, List.take_zero, List.reverse_cons, List.reverse_nil, List.nil_append, List.cons_append, List.length_cons, List.length_nil, true_and, and_true, cond_false, cond_true, Bool.false_or, Bool.or_false, Bool.or_true, Bool.true_or, true_or, or_true, false_or, or_false, if_true, if_false, reduceIte, ite_true, ite_false, implies_true, true_implies, false_implies, forall_const, not_true_eq_false, not_false_eq_true, Nat.reduceAdd, Nat.reduceMul, Nat.reduceSub, Nat.reduceBEq, Nat.reduceEqDiff, Nat.reduceLeDiff, Nat.reduceLT, Int.reduceAdd, Int.reduceSub, Int.reduceMul, Int.reduceNeg, Int.reduceToNat, Int.reduceLE, Int.reduceLT, Int.reduceEq, Int.reduceNe, Int.reduceNatCast, Nat.add_zero, Nat.zero_add, reduceCtorEq, Int.reduceNatCast', wp_c, wp_g, e2_ifCond, e2_if_icmp, ↓bq_t, ↓bq_f, ab_br, ↓ab_b1_s, ↓ab_b2_s, ↓ab_l1_s, ↓ab_l2_s, ↓ab_li_s, ↓ab_o1_s, ↓ab_io_s, ↓ab_lo1_s, ↓ab_iio_s, ↓ab_lio_s, ↓ab_cp5_s, moJ7_fill_d0a16, dJ7_fill_d0a16_0, dJ7_fill_d0a16_1, dis_3, dJ7_fill_d0a16_2, dal_0, dJ7_fill_d0a16_3, dJ7_fill_d0a16_4, dis_4, dJ7_fill_d0a16_6, dil_3, dJ7_fill_d0a16_7, dil_4, dJ7_fill_d0a16_9, dJ7_fill_d0a16_12, dJ7_fill_d0a16_13, dJ7_fill_d0a16_14, dll_1, dJ7_fill_d0a16_15, dJ7_fill_d0a16_16, dinc_3, dJ7_fill_d0a16_19, dJ7_fill_d0a16_22, das1_95, dln1_95]
  repeat' (with_reducible (first | apply And.intro | intro _))
  all_goals first | omega | skip
  have := key 4 0 (by omega) (by omega) (by omega)
  rw [zfill_0, ab_set_self] at this
  exact this
/-- the least of W over what is P, below; -1: none -/
noncomputable def zmw (P : Int → Prop) (W : Int → Int) : Nat → Int
  | 0 => -1
  | m + 1 => @ite _ (P m ∧ W m ≠ -1 ∧ (zmw P W m = -1 ∨ W m < zmw P W m)) (Classical.propDecidable _) (W m) (zmw P W m)
theorem zmw_yes {P : Int → Prop} {W : Int → Int} {m : Nat} (h : P m ∧ W m ≠ -1 ∧ (zmw P W m = -1 ∨ W m < zmw P W m)) : zmw P W (m + 1) = W m := by
  rw [zmw]
  exact if_pos h
theorem zmw_no {P : Int → Prop} {W : Int → Int} {m : Nat} (h : ¬ (P m ∧ W m ≠ -1 ∧ (zmw P W m = -1 ∨ W m < zmw P W m))) : zmw P W (m + 1) = zmw P W m := by
  rw [zmw]
  exact if_neg h
theorem zmw_skip {P : Int → Prop} {W : Int → Int} {a : Nat} : ∀ {n : Nat}, (∀ i : Nat, a ≤ i → i < a + n → ¬ P i) → zmw P W (a + n) = zmw P W a
  | 0, _ => rfl
  | n + 1, h => by
    rw [← Nat.add_assoc, zmw_no (fun q => h (a + n) (by omega) (by omega) q.1), zmw_skip (n := n) (fun i h1 h2 => h i h1 (by omega))]
theorem zmw_skip2 {P : Int → Prop} {W : Int → Int} {a b : Nat} (hab : a ≤ b) (h : ∀ i : Nat, a ≤ i → i < b → ¬ P i) : zmw P W b = zmw P W a := by
  have := zmw_skip (P := P) (W := W) (a := a) (n := b - a) (fun i h1 h2 => h i h1 (by omega))
  rw [show a + (b - a) = b by omega] at this
  exact this
theorem zmw_in {P : Int → Prop} {W : Int → Int} (hW : ∀ m, P m → -1 ≤ W m ∧ W m ≤ 1000000000000) : ∀ n : Nat, -1 ≤ zmw P W n ∧ zmw P W n ≤ 1000000000000
  | 0 => ⟨by show (-1 : Int) ≤ -1; omega, by show (-1 : Int) ≤ _; omega⟩
  | n + 1 => by
    have ih := zmw_in hW n
    by_cases h : P n ∧ W n ≠ -1 ∧ (zmw P W n = -1 ∨ W n < zmw P W n)
    · rw [zmw_yes h]
      exact hW n h.1
    · rw [zmw_no h]
      exact ih
/-- rows of a game of two -/
def zrn (σ : ab_S) : Nat := (zrw (σ 3 8) 1 (σ 3 8) 0 0).toNat
noncomputable def zWx2 (σ : ab_S) (r : Int) : Int := zW2 σ (r / σ 3 8) (r % σ 3 8)
noncomputable def zLv (σ : ab_S) (x y : Int) : Int := zmw (zRq σ x y (-1)) (zWx2 σ) (zrn σ)
noncomputable def zNr (σ : ab_S) (x y : Int) : Int := zct (zRq σ x y (-1)) (zrn σ)
theorem zWx2_at {σ : ab_S} {a b : Int} (hC : 0 ≤ σ 3 8 ∧ σ 3 8 ≤ 12) (ha : 0 ≤ a ∧ a < σ 3 8) (hb : 0 ≤ b ∧ b < σ 3 8) : zWx2 σ (zrw (σ 3 8) 1 a b 0) = zW2 σ a b := by
  obtain ⟨-, -, q1, q2, -⟩ := zrw_in (D := 1) hC (by omega) ha hb (c := 0) (by omega)
  rw [Int.mul_one] at q1
  rw [Int.ediv_one] at q2
  unfold zWx2
  rw [q1, q2]
theorem zrn_le {σ : ab_S} (hC : 0 ≤ σ 3 8 ∧ σ 3 8 ≤ 12) : zrn σ ≤ 144 ∧ ((zrn σ : Nat) : Int) = zrw (σ 3 8) 1 (σ 3 8) 0 0 := by
  unfold zrn zrw
  have := Int.mul_le_mul hC.2 hC.2 hC.1 (by decide)
  have := Int.mul_nonneg hC.1 hC.1
  omega
theorem zWx2_in {σ : ab_S} {x y m : Int} (hJ : zJ σ) (h : zRq σ x y (-1) m) : -1 ≤ zWx2 σ m ∧ zWx2 σ m ≤ 1000000000000 := by
  obtain ⟨a, b, c, h1, h2, h3, h4, -⟩ := h
  have e : zdp (σ 3 8) (-1) = 1 := rfl
  rw [e] at h3 h4
  have c0 : c = 0 := by omega
  rw [h4, c0, zWx2_at hJ.1.1 h1 h2]
  exact zW2_in hJ (zSt_cn hJ.1 h1) (Or.inr (zSt_cn hJ.1 h2))
set_option maxRecDepth 100000 in
set_option maxHeartbeats 4000000 in
theorem l_leastWalk {ω σ : ab_S} {x y : Int} {K : ab_V → ab_S → Prop} (hJ : zJ ω) (hD : zDy ω) (hF : zFr ω σ) (hQ : zQw σ) (hgf : zGf ω x y (-1) σ) (h : ∀ ρ, zFk σ ρ → K (vJ (zLv ω x y)) ρ) : ab_Runs ab_G1 mdX1_leastWalk [vR 88] σ K := by
  refine ab_runs mwX1_leastWalk (by decide +kernel) (Nat.le_of_ble_eq_true rfl) (fun G hG => ?_)
  show G 0 [some (vR 88), none, none, none, none, none] [] _
  have hT := hJ.1
  have hT1 := hT.1
  obtain ⟨gh, -, go⟩ := id hgf
  have hdp : zdp (ω 3 8) (-1) = 1 := rfl
  rw [hdp] at go
  obtain ⟨rn1, rn2⟩ := zrn_le hT1
  rw [← rn2] at go
  have g0 := go.1
  have hP0 : ∀ m, zRq ω x y (-1) m → 0 ≤ m ∧ ∃ a b, (0 ≤ a ∧ a < ω 3 8) ∧ (0 ≤ b ∧ b < ω 3 8) ∧ m = zrw (ω 3 8) 1 a b 0 := by
    rintro m ⟨a, b, c, h1, h2, h3, h4, -⟩
    rw [hdp] at h3 h4
    have c0 : c = 0 := by omega
    rw [c0] at h4
    have := (zrw_in (D := 1) hT1 (by omega) h1 h2 (c := 0) (by omega)).1
    exact ⟨by rw [h4]; exact this, a, b, h1, h2, h4⟩
  have win := zmw_in (P := zRq ω x y (-1)) (W := zWx2 ω) (fun m hm => zWx2_in hJ hm)
  have key : ∀ (k : Nat) (i : Int) (r : Nat) (ρ : ab_S) (z4 z5 : Option ab_V), σ 88 12 - i < k → 0 ≤ i → i ≤ σ 88 12 → r ≤ zrn ω → (i < σ 88 12 → (r : Int) ≤ σ 90 i) → (∀ j, 0 ≤ j → j < i → σ 90 j < r) → zFk σ ρ → G 6 [some (vR 88), some (vJ (zmw (zRq ω x y (-1)) (zWx2 ω) r)), none, some (vI i), z4, z5] [] ρ := by
    intro k
    induction k with
    | zero => intro i r ρ z4 z5 h1; omega
    | succ k ih =>
      intro i r ρ z4 z5 h1 h2 h3 hr hr2 hr3 hk
      have e88 : ρ 88 = σ 88 := hk.1 88 (by omega)
      have e90 : ρ 90 = σ 90 := hk.1 90 (by omega)
      have e3 : ρ 3 = ω 3 := (zFr_k hF hk) 3 (by decide)
      have ghr : zGh ω x y (-1) ρ := zGh_m gh (fun o ho => hk.1 o (by omega))
      have wr := win r
      by_cases e : i = σ 88 12
      · have f := h ρ hk
        have sk : zmw (zRq ω x y (-1)) (zWx2 ω) (zrn ω) = zmw (zRq ω x y (-1)) (zWx2 ω) r := zmw_skip2 hr (fun m m1 m2 hm => by
          obtain ⟨j, j0, j1, j2⟩ := go.2.2.2 m (by omega) hm
          have := hr3 j j0 (by omega)
          omega)
        unfold zLv at f
        rw [sk] at f
        apply hG [6] 20
        simp only [cq_lt, cq_le, cq_gt, cq_ge, cq_eq, cq_r1, cq_r2, ab_r32, ab_r64, ab_go, ab_stp, wp_z, ab_in, ab_rok, ab_wsum, ab_prm, ab_ret, ab_sw, ab_cd, ab_tg, ab_cat_i, ab_cat_l, ab_cat_r, ab_cl_n, ab_cl_i, ab_cl_l, ab_cl_r, ab_f2_0, ab_f2_1, ab_f4_0, ab_f4_1, ab_f4_2, ab_f4_3, ab_op_s, ab_b1_s, ab_b2_s, ab_l1_s, ab_l2_s, ab_li_s, ab_o1_s, ab_io_s, ab_lo1_s, ab_iio_s, ab_lio_s, ab_cp5_s, ab_d2_l, ab_d2_i, ab_d2_o, ex_iconst, ex_bipush, ex_sipush, ex_lconst, ex_ldc, ex_ldc_w, ex_ldc2_w, ex_iadd, ex_isub, ex_imul, ex_iand, ex_ior, ex_ixor, ex_ishl, ex_ishr, ex_iushr, ex_idiv, ex_irem, ex_ladd, ex_lsub, ex_lmul, ex_lor, ex_ldiv, ex_lrem, ex_lshl, ex_lcmp, ex_ineg, ex_lneg, ex_i2l, ex_l2i, ex_i2b, ex_dup, ex_pop, ex_dup2, ex_goto, ex_tableswitch, ex_aaload, ex_ireturn, ex_lreturn, ex_return_, List.map_cons, List.map_nil, List.sum_cons, List.sum_nil, List.drop_succ_cons, List.drop_zero, List.take_succ_cons, List.take_zero, List.reverse_cons, List.reverse_nil, List.nil_append, List.cons_append, List.length_cons, List.length_nil, true_and, and_true, cond_false, cond_true, Bool.false_or, Bool.or_false, Bool.or_true, Bool.true_or, true_or, or_true, false_or, or_false, if_true, if_false, reduceIte, ite_true, ite_false, implies_true, true_implies, false_implies, forall_const, not_true_eq_false, not_false_eq_true, Nat.reduceAdd, Nat.reduceMul, Nat.reduceSub, Nat.reduceBEq, Nat.reduceEqDiff, Nat.reduceLeDiff, Nat.reduceLT, Int.reduceAdd, Int.reduceSub, Int.reduceMul, Int.reduceNeg, Int.reduceToNat, Int.reduceLE, Int.reduceLT, Int.reduceEq, Int.reduceNe, Int.reduceNatCast, Nat.add_zero, Nat.zero_add, reduceCtorEq, Int.reduceNatCast', wp_c, wp_g, e2_ifCond, e2_if_icmp, ↓bq_t, ↓bq_f, ab_br, ↓ab_b1_s, ↓ab_b2_s, ↓ab_l1_s, ↓ab_l2_s, ↓ab_li_s, ↓ab_o1_s, ↓ab_io_s, ↓ab_lo1_s, ↓ab_iio_s, ↓ab_lio_s, ↓ab_cp5_s, moX1_leastWalk, dX1_leastWalk_0, kx1_108, dX1_leastWalk_3, dls_1, dX1_leastWalk_4, dX1_leastWalk_5, dis_3, dX1_leastWalk_6, dil_3, dX1_leastWalk_7, dal_0, dX1_leastWalk_8, dg1_1_38_88, dX1_leastWalk_11, dX1_leastWalk_14, dX1_leastWalk_15, dg1_1_65_88, dX1_leastWalk_18, dX1_leastWalk_19, dX1_leastWalk_20, dg1_1_15_88, dX1_leastWalk_23, dX1_leastWalk_24, dX1_leastWalk_25, dX1_leastWalk_26, dv1_1_114_88, moX1_cornerIn, dX1_leastWalk_29, dX1_leastWalk_30, dX1_leastWalk_31, dX1_leastWalk_34, dX1_leastWalk_35, dX1_leastWalk_36, dX1_leastWalk_37, dX1_leastWalk_40, dv1_1_179_76, moX10_toSpots, dX1_leastWalk_43, dls_4, dX1_leastWalk_45, dll_4, dX1_leastWalk_47, dX1_leastWalk_50, dX1_leastWalk_51, dX1_leastWalk_54, dll_1, dX1_leastWalk_55, dX1_leastWalk_58, dX1_leastWalk_59, dX1_leastWalk_62, dX1_leastWalk_64, dX1_leastWalk_65, dX1_leastWalk_66, dX1_leastWalk_69, dX1_leastWalk_71, dX1_leastWalk_72, dinc_3, dX1_leastWalk_75, dX1_leastWalk_78, dX1_leastWalk_79, dal1_90, e88]
        repeat' (with_reducible (first | apply And.intro | intro _))
        all_goals first | omega | exact f
      · have hlt : i < σ 88 12 := by omega
        obtain ⟨pi, pb⟩ := go.2.1 i h2 hlt
        obtain ⟨p0, a, b, ca, cb, pe⟩ := hP0 _ pi
        have sa := zSt_cn hT ca
        have sb := zSt_cn hT cb
        have hw := zW2_in hJ sa (Or.inr sb)
        have r90 : 0 ≤ σ 90 i ∧ σ 90 i < 1728 := by omega
        have sk : zmw (zRq ω x y (-1)) (zWx2 ω) (σ 90 i).toNat = zmw (zRq ω x y (-1)) (zWx2 ω) r := zmw_skip2 (by have := hr2 hlt; omega) (fun m m1 m2 hm => by
          obtain ⟨j, j0, j1, j2⟩ := go.2.2.2 m (by omega) hm
          by_cases c1 : j < i
          · have := hr3 j j0 c1
            omega
          · by_cases c2 : j = i
            · rw [c2] at j2
              omega
            · have := go.2.2.1 i j h2 (by omega) j1
              omega)
        have cst : (((σ 90 i).toNat : Nat) : Int) = σ 90 i := by omega
        have wa : zWx2 ω (((σ 90 i).toNat : Nat) : Int) = zW2 ω a b := by rw [cst, pe, zWx2_at hT1 ca cb]
        have next : ∀ (φ : ab_S) (L : Int) (z4 z5 : Option ab_V), zFk σ φ → L = zmw (zRq ω x y (-1)) (zWx2 ω) ((σ 90 i).toNat + 1) → G 6 [some (vR 88), some (vJ L), none, some (vI (i + 1)), z4, z5] [] φ := by
          intro φ L z4 z5 f1 f2
          rw [f2]
          refine ih (i + 1) ((σ 90 i).toNat + 1) φ z4 z5 (by omega) (by omega) (by omega) (by omega) (fun hh => ?_) (fun j j0 j1 => ?_) f1
          · have := go.2.2.1 i (i + 1) h2 (by omega) hh
            omega
          · by_cases c1 : j < i
            · have := hr3 j j0 c1
              have := hr2 hlt
              omega
            · rw [show j = i by omega]
              omega
        have yes : zW2 ω a b ≠ -1 ∧ (zmw (zRq ω x y (-1)) (zWx2 ω) r = -1 ∨ zW2 ω a b < zmw (zRq ω x y (-1)) (zWx2 ω) r) → ∀ (φ : ab_S) (z4 z5 : Option ab_V), zFk σ φ → G 6 [some (vR 88), some (vJ (zW2 ω a b)), none, some (vI (i + 1)), z4, z5] [] φ := fun z φ z4 z5 f1 => next φ _ z4 z5 f1 (by
          rw [zmw_yes, wa]
          rw [wa, sk, cst]
          exact ⟨pi, z⟩)
        have no : ¬ (zW2 ω a b ≠ -1 ∧ (zmw (zRq ω x y (-1)) (zWx2 ω) r = -1 ∨ zW2 ω a b < zmw (zRq ω x y (-1)) (zWx2 ω) r)) → ∀ (φ : ab_S) (z4 z5 : Option ab_V), zFk σ φ → G 6 [some (vR 88), some (vJ (zmw (zRq ω x y (-1)) (zWx2 ω) r)), none, some (vI (i + 1)), z4, z5] [] φ := fun z φ z4 z5 f1 => next φ _ z4 z5 f1 (by
          rw [zmw_no, sk]
          rw [wa, sk]
          exact fun q => z q.2)
        clear next ih
        generalize zmw (zRq ω x y (-1)) (zWx2 ω) r = L at *
        apply hG [6] 60
        simp only [cq_lt, cq_le, cq_gt, cq_ge, cq_eq, cq_r1, cq_r2, ab_r32, ab_r64, ab_go, ab_stp, wp_z, ab_in, ab_rok, ab_wsum, ab_prm, ab_ret, ab_sw, ab_cd, ab_tg, ab_cat_i, ab_cat_l, ab_cat_r, ab_cl_n, ab_cl_i, ab_cl_l, ab_cl_r, ab_f2_0, ab_f2_1, ab_f4_0, ab_f4_1, ab_f4_2, ab_f4_3, ab_op_s, ab_b1_s, ab_b2_s, ab_l1_s, ab_l2_s, ab_li_s, ab_o1_s, ab_io_s, ab_lo1_s, ab_iio_s, ab_lio_s, ab_cp5_s, ab_d2_l, ab_d2_i, ab_d2_o, ex_iconst, ex_bipush, ex_sipush, ex_lconst, ex_ldc, ex_ldc_w, ex_ldc2_w, ex_iadd, ex_isub, ex_imul, ex_iand, ex_ior, ex_ixor, ex_ishl, ex_ishr, ex_iushr, ex_idiv, ex_irem, ex_ladd, ex_lsub, ex_lmul, ex_lor, ex_ldiv, ex_lrem, ex_lshl, ex_lcmp, ex_ineg, ex_lneg, ex_i2l, ex_l2i, ex_i2b, ex_dup, ex_pop, ex_dup2, ex_goto, ex_tableswitch, ex_aaload, ex_ireturn, ex_lreturn, ex_return_, List.map_cons, List.map_nil, List.sum_cons, List.sum_nil, List.drop_succ_cons, List.drop_zero, List.take_succ_cons, List.take_zero, List.reverse_cons, List.reverse_nil, List.nil_append, List.cons_append, List.length_cons, List.length_nil, true_and, and_true, cond_false, cond_true, Bool.false_or, Bool.or_false, Bool.or_true, Bool.true_or, true_or, or_true, false_or, or_false, if_true, if_false, reduceIte, ite_true, ite_false, implies_true, true_implies, false_implies, forall_const, not_true_eq_false, not_false_eq_true, Nat.reduceAdd, Nat.reduceMul, Nat.reduceSub, Nat.reduceBEq, Nat.reduceEqDiff, Nat.reduceLeDiff, Nat.reduceLT, Int.reduceAdd, Int.reduceSub, Int.reduceMul, Int.reduceNeg, Int.reduceToNat, Int.reduceLE, Int.reduceLT, Int.reduceEq, Int.reduceNe, Int.reduceNatCast, Nat.add_zero, Nat.zero_add, reduceCtorEq, Int.reduceNatCast', wp_c, wp_g, e2_ifCond, e2_if_icmp, ↓bq_t, ↓bq_f, ab_br, ↓ab_b1_s, ↓ab_b2_s, ↓ab_l1_s, ↓ab_l2_s, ↓ab_li_s, ↓ab_o1_s, ↓ab_io_s, ↓ab_lo1_s, ↓ab_iio_s, ↓ab_lio_s, ↓ab_cp5_s, moX1_leastWalk, dX1_leastWalk_0, kx1_108, dX1_leastWalk_3, dls_1, dX1_leastWalk_4, dX1_leastWalk_5, dis_3, dX1_leastWalk_6, dil_3, dX1_leastWalk_7, dal_0, dX1_leastWalk_8, dg1_1_38_88, dX1_leastWalk_11, dX1_leastWalk_14, dX1_leastWalk_15, dg1_1_65_88, dX1_leastWalk_18, dX1_leastWalk_19, dX1_leastWalk_20, dg1_1_15_88, dX1_leastWalk_23, dX1_leastWalk_24, dX1_leastWalk_25, dX1_leastWalk_26, dv1_1_114_88, moX1_cornerIn, dX1_leastWalk_29, dX1_leastWalk_30, dX1_leastWalk_31, dX1_leastWalk_34, dX1_leastWalk_35, dX1_leastWalk_36, dX1_leastWalk_37, dX1_leastWalk_40, dv1_1_179_76, moX10_toSpots, dX1_leastWalk_43, dls_4, dX1_leastWalk_45, dll_4, dX1_leastWalk_47, dX1_leastWalk_50, dX1_leastWalk_51, dX1_leastWalk_54, dll_1, dX1_leastWalk_55, dX1_leastWalk_58, dX1_leastWalk_59, dX1_leastWalk_62, dX1_leastWalk_64, dX1_leastWalk_65, dX1_leastWalk_66, dX1_leastWalk_69, dX1_leastWalk_71, dX1_leastWalk_72, dinc_3, dX1_leastWalk_75, dX1_leastWalk_78, dX1_leastWalk_79, dal1_90, e88, e90]
        repeat' (with_reducible (first | apply And.intro | intro _))
        all_goals first | omega | skip
        rw [pe]
        refine r_cornerIn (z := -1) hT e3 ghr (Or.inl rfl) ca cb (c := 0) ⟨by decide, by rw [hdp]; decide⟩ ?_
        try simp only [cq_lt, cq_le, cq_gt, cq_ge, cq_eq, cq_r1, cq_r2, ab_r32, ab_r64, ab_go, ab_stp, wp_z, ab_in, ab_rok, ab_wsum, ab_prm, ab_ret, ab_sw, ab_cd, ab_tg, ab_cat_i, ab_cat_l, ab_cat_r, ab_cl_n, ab_cl_i, ab_cl_l, ab_cl_r, ab_f2_0, ab_f2_1, ab_f4_0, ab_f4_1, ab_f4_2, ab_f4_3, ab_op_s, ab_b1_s, ab_b2_s, ab_l1_s, ab_l2_s, ab_li_s, ab_o1_s, ab_io_s, ab_lo1_s, ab_iio_s, ab_lio_s, ab_cp5_s, ab_d2_l, ab_d2_i, ab_d2_o, ex_iconst, ex_bipush, ex_sipush, ex_lconst, ex_ldc, ex_ldc_w, ex_ldc2_w, ex_iadd, ex_isub, ex_imul, ex_iand, ex_ior, ex_ixor, ex_ishl, ex_ishr, ex_iushr, ex_idiv, ex_irem, ex_ladd, ex_lsub, ex_lmul, ex_lor, ex_ldiv, ex_lrem, ex_lshl, ex_lcmp, ex_ineg, ex_lneg, ex_i2l, ex_l2i, ex_i2b, ex_dup, ex_pop, ex_dup2, ex_goto, ex_tableswitch, ex_aaload, ex_ireturn, ex_lreturn, ex_return_, List.map_cons, List.map_nil, List.sum_cons, List.sum_nil, List.drop_succ_cons, List.drop_zero, List.take_succ_cons, List.take_zero, List.reverse_cons, List.reverse_nil, List.nil_append, List.cons_append, List.length_cons, List.length_nil, true_and, and_true, cond_false, cond_true, Bool.false_or, Bool.or_false, Bool.or_true, Bool.true_or, true_or, or_true, false_or, or_false, if_true, if_false, reduceIte, ite_true, ite_false, implies_true, true_implies, false_implies, forall_const, not_true_eq_false, not_false_eq_true, Nat.reduceAdd, Nat.reduceMul, Nat.reduceSub, Nat.reduceBEq, Nat.reduceEqDiff, Nat.reduceLeDiff, Nat.reduceLT, Int.reduceAdd, Int.reduceSub, Int.reduceMul, Int.reduceNeg, Int.reduceToNat, Int.reduceLE, Int.reduceLT, Int.reduceEq, Int.reduceNe, Int.reduceNatCast, Nat.add_zero, Nat.zero_add, reduceCtorEq, Int.reduceNatCast', wp_c, wp_g, e2_ifCond, e2_if_icmp, ↓bq_t, ↓bq_f, ab_br, ↓ab_b1_s, ↓ab_b2_s, ↓ab_l1_s, ↓ab_l2_s, ↓ab_li_s, ↓ab_o1_s, ↓ab_io_s, ↓ab_lo1_s, ↓ab_iio_s, ↓ab_lio_s, ↓ab_cp5_s, moX1_leastWalk, dX1_leastWalk_0, kx1_108, dX1_leastWalk_3, dls_1, dX1_leastWalk_4, dX1_leastWalk_5, dis_3, dX1_leastWalk_6, dil_3, dX1_leastWalk_7, dal_0, dX1_leastWalk_8, dg1_1_38_88, dX1_leastWalk_11, dX1_leastWalk_14, dX1_leastWalk_15, dg1_1_65_88, dX1_leastWalk_18, dX1_leastWalk_19, dX1_leastWalk_20, dg1_1_15_88, dX1_leastWalk_23, dX1_leastWalk_24, dX1_leastWalk_25, dX1_leastWalk_26, dv1_1_114_88, moX1_cornerIn, dX1_leastWalk_29, dX1_leastWalk_30, dX1_leastWalk_31, dX1_leastWalk_34, dX1_leastWalk_35, dX1_leastWalk_36, dX1_leastWalk_37, dX1_leastWalk_40, dv1_1_179_76, moX10_toSpots, dX1_leastWalk_43, dls_4, dX1_leastWalk_45, dll_4, dX1_leastWalk_47, dX1_leastWalk_50, dX1_leastWalk_51, dX1_leastWalk_54, dll_1, dX1_leastWalk_55, dX1_leastWalk_58, dX1_leastWalk_59, dX1_leastWalk_62, dX1_leastWalk_64, dX1_leastWalk_65, dX1_leastWalk_66, dX1_leastWalk_69, dX1_leastWalk_71, dX1_leastWalk_72, dinc_3, dX1_leastWalk_75, dX1_leastWalk_78, dX1_leastWalk_79, dal1_90, e90]
        repeat' (with_reducible (first | apply And.intro | intro _))
        all_goals first | omega | skip
        rw [pe]
        refine r_cornerIn (z := -1) hT e3 ghr (Or.inr (Or.inl rfl)) ca cb (c := 0) ⟨by decide, by rw [hdp]; decide⟩ ?_
        try simp only [cq_lt, cq_le, cq_gt, cq_ge, cq_eq, cq_r1, cq_r2, ab_r32, ab_r64, ab_go, ab_stp, wp_z, ab_in, ab_rok, ab_wsum, ab_prm, ab_ret, ab_sw, ab_cd, ab_tg, ab_cat_i, ab_cat_l, ab_cat_r, ab_cl_n, ab_cl_i, ab_cl_l, ab_cl_r, ab_f2_0, ab_f2_1, ab_f4_0, ab_f4_1, ab_f4_2, ab_f4_3, ab_op_s, ab_b1_s, ab_b2_s, ab_l1_s, ab_l2_s, ab_li_s, ab_o1_s, ab_io_s, ab_lo1_s, ab_iio_s, ab_lio_s, ab_cp5_s, ab_d2_l, ab_d2_i, ab_d2_o, ex_iconst, ex_bipush, ex_sipush, ex_lconst, ex_ldc, ex_ldc_w, ex_ldc2_w, ex_iadd, ex_isub, ex_imul, ex_iand, ex_ior, ex_ixor, ex_ishl, ex_ishr, ex_iushr, ex_idiv, ex_irem, ex_ladd, ex_lsub, ex_lmul, ex_lor, ex_ldiv, ex_lrem, ex_lshl, ex_lcmp, ex_ineg, ex_lneg, ex_i2l, ex_l2i, ex_i2b, ex_dup, ex_pop, ex_dup2, ex_goto, ex_tableswitch, ex_aaload, ex_ireturn, ex_lreturn, ex_return_, List.map_cons, List.map_nil, List.sum_cons, List.sum_nil, List.drop_succ_cons, List.drop_zero, List.take_succ_cons, List.take_zero, List.reverse_cons, List.reverse_nil, List.nil_append, List.cons_append, List.length_cons, List.length_nil, true_and, and_true, cond_false, cond_true, Bool.false_or, Bool.or_false, Bool.or_true, Bool.true_or, true_or, or_true, false_or, or_false, if_true, if_false, reduceIte, ite_true, ite_false, implies_true, true_implies, false_implies, forall_const, not_true_eq_false, not_false_eq_true, Nat.reduceAdd, Nat.reduceMul, Nat.reduceSub, Nat.reduceBEq, Nat.reduceEqDiff, Nat.reduceLeDiff, Nat.reduceLT, Int.reduceAdd, Int.reduceSub, Int.reduceMul, Int.reduceNeg, Int.reduceToNat, Int.reduceLE, Int.reduceLT, Int.reduceEq, Int.reduceNe, Int.reduceNatCast, Nat.add_zero, Nat.zero_add, reduceCtorEq, Int.reduceNatCast', wp_c, wp_g, e2_ifCond, e2_if_icmp, ↓bq_t, ↓bq_f, ab_br, ↓ab_b1_s, ↓ab_b2_s, ↓ab_l1_s, ↓ab_l2_s, ↓ab_li_s, ↓ab_o1_s, ↓ab_io_s, ↓ab_lo1_s, ↓ab_iio_s, ↓ab_lio_s, ↓ab_cp5_s, moX1_leastWalk, dX1_leastWalk_0, kx1_108, dX1_leastWalk_3, dls_1, dX1_leastWalk_4, dX1_leastWalk_5, dis_3, dX1_leastWalk_6, dil_3, dX1_leastWalk_7, dal_0, dX1_leastWalk_8, dg1_1_38_88, dX1_leastWalk_11, dX1_leastWalk_14, dX1_leastWalk_15, dg1_1_65_88, dX1_leastWalk_18, dX1_leastWalk_19, dX1_leastWalk_20, dg1_1_15_88, dX1_leastWalk_23, dX1_leastWalk_24, dX1_leastWalk_25, dX1_leastWalk_26, dv1_1_114_88, moX1_cornerIn, dX1_leastWalk_29, dX1_leastWalk_30, dX1_leastWalk_31, dX1_leastWalk_34, dX1_leastWalk_35, dX1_leastWalk_36, dX1_leastWalk_37, dX1_leastWalk_40, dv1_1_179_76, moX10_toSpots, dX1_leastWalk_43, dls_4, dX1_leastWalk_45, dll_4, dX1_leastWalk_47, dX1_leastWalk_50, dX1_leastWalk_51, dX1_leastWalk_54, dll_1, dX1_leastWalk_55, dX1_leastWalk_58, dX1_leastWalk_59, dX1_leastWalk_62, dX1_leastWalk_64, dX1_leastWalk_65, dX1_leastWalk_66, dX1_leastWalk_69, dX1_leastWalk_71, dX1_leastWalk_72, dinc_3, dX1_leastWalk_75, dX1_leastWalk_78, dX1_leastWalk_79, dal1_90]
        repeat' (with_reducible (first | apply And.intro | intro _))
        all_goals first | omega | skip
        rw [show zpl a b 0 0 = a from rfl, show zpl a b 0 1 = b from rfl]
        refine l_toSpots hJ hD (zFr_k hF hk) (zQw_k hk hQ) sa (Or.inr sb) (by have := zSt_le hT sb; omega) (fun φ f1 => ?_)
        have fk := zFk_tr hk f1
        try simp only [cq_lt, cq_le, cq_gt, cq_ge, cq_eq, cq_r1, cq_r2, ab_r32, ab_r64, ab_go, ab_stp, wp_z, ab_in, ab_rok, ab_wsum, ab_prm, ab_ret, ab_sw, ab_cd, ab_tg, ab_cat_i, ab_cat_l, ab_cat_r, ab_cl_n, ab_cl_i, ab_cl_l, ab_cl_r, ab_f2_0, ab_f2_1, ab_f4_0, ab_f4_1, ab_f4_2, ab_f4_3, ab_op_s, ab_b1_s, ab_b2_s, ab_l1_s, ab_l2_s, ab_li_s, ab_o1_s, ab_io_s, ab_lo1_s, ab_iio_s, ab_lio_s, ab_cp5_s, ab_d2_l, ab_d2_i, ab_d2_o, ex_iconst, ex_bipush, ex_sipush, ex_lconst, ex_ldc, ex_ldc_w, ex_ldc2_w, ex_iadd, ex_isub, ex_imul, ex_iand, ex_ior, ex_ixor, ex_ishl, ex_ishr, ex_iushr, ex_idiv, ex_irem, ex_ladd, ex_lsub, ex_lmul, ex_lor, ex_ldiv, ex_lrem, ex_lshl, ex_lcmp, ex_ineg, ex_lneg, ex_i2l, ex_l2i, ex_i2b, ex_dup, ex_pop, ex_dup2, ex_goto, ex_tableswitch, ex_aaload, ex_ireturn, ex_lreturn, ex_return_, List.map_cons, List.map_nil, List.sum_cons, List.sum_nil, List.drop_succ_cons, List.drop_zero, List.take_succ_cons, List.take_zero, List.reverse_cons, List.reverse_nil, List.nil_append, List.cons_append, List.length_cons, List.length_nil, true_and, and_true, cond_false, cond_true, Bool.false_or, Bool.or_false, Bool.or_true, Bool.true_or, true_or, or_true, false_or, or_false, if_true, if_false, reduceIte, ite_true, ite_false, implies_true, true_implies, false_implies, forall_const, not_true_eq_false, not_false_eq_true, Nat.reduceAdd, Nat.reduceMul, Nat.reduceSub, Nat.reduceBEq, Nat.reduceEqDiff, Nat.reduceLeDiff, Nat.reduceLT, Int.reduceAdd, Int.reduceSub, Int.reduceMul, Int.reduceNeg, Int.reduceToNat, Int.reduceLE, Int.reduceLT, Int.reduceEq, Int.reduceNe, Int.reduceNatCast, Nat.add_zero, Nat.zero_add, reduceCtorEq, Int.reduceNatCast', wp_c, wp_g, e2_ifCond, e2_if_icmp, ↓bq_t, ↓bq_f, ab_br, ↓ab_b1_s, ↓ab_b2_s, ↓ab_l1_s, ↓ab_l2_s, ↓ab_li_s, ↓ab_o1_s, ↓ab_io_s, ↓ab_lo1_s, ↓ab_iio_s, ↓ab_lio_s, ↓ab_cp5_s, moX1_leastWalk, dX1_leastWalk_0, kx1_108, dX1_leastWalk_3, dls_1, dX1_leastWalk_4, dX1_leastWalk_5, dis_3, dX1_leastWalk_6, dil_3, dX1_leastWalk_7, dal_0, dX1_leastWalk_8, dg1_1_38_88, dX1_leastWalk_11, dX1_leastWalk_14, dX1_leastWalk_15, dg1_1_65_88, dX1_leastWalk_18, dX1_leastWalk_19, dX1_leastWalk_20, dg1_1_15_88, dX1_leastWalk_23, dX1_leastWalk_24, dX1_leastWalk_25, dX1_leastWalk_26, dv1_1_114_88, moX1_cornerIn, dX1_leastWalk_29, dX1_leastWalk_30, dX1_leastWalk_31, dX1_leastWalk_34, dX1_leastWalk_35, dX1_leastWalk_36, dX1_leastWalk_37, dX1_leastWalk_40, dv1_1_179_76, moX10_toSpots, dX1_leastWalk_43, dls_4, dX1_leastWalk_45, dll_4, dX1_leastWalk_47, dX1_leastWalk_50, dX1_leastWalk_51, dX1_leastWalk_54, dll_1, dX1_leastWalk_55, dX1_leastWalk_58, dX1_leastWalk_59, dX1_leastWalk_62, dX1_leastWalk_64, dX1_leastWalk_65, dX1_leastWalk_66, dX1_leastWalk_69, dX1_leastWalk_71, dX1_leastWalk_72, dinc_3, dX1_leastWalk_75, dX1_leastWalk_78, dX1_leastWalk_79, dal1_90]
        repeat' (with_reducible (first | apply And.intro | intro _))
        all_goals first | omega | exact no (by omega) φ _ _ fk | exact yes (by omega) φ _ _ fk
  apply hG [6] 20
  simp only [cq_lt, cq_le, cq_gt, cq_ge, cq_eq, cq_r1, cq_r2, ab_r32, ab_r64, ab_go, ab_stp, wp_z, ab_in, ab_rok, ab_wsum, ab_prm, ab_ret, ab_sw, ab_cd, ab_tg, ab_cat_i, ab_cat_l, ab_cat_r, ab_cl_n, ab_cl_i, ab_cl_l, ab_cl_r, ab_f2_0, ab_f2_1, ab_f4_0, ab_f4_1, ab_f4_2, ab_f4_3, ab_op_s, ab_b1_s, ab_b2_s, ab_l1_s, ab_l2_s, ab_li_s, ab_o1_s, ab_io_s, ab_lo1_s, ab_iio_s, ab_lio_s, ab_cp5_s, ab_d2_l, ab_d2_i, ab_d2_o, ex_iconst, ex_bipush, ex_sipush, ex_lconst, ex_ldc, ex_ldc_w, ex_ldc2_w, ex_iadd, ex_isub, ex_imul, ex_iand, ex_ior, ex_ixor, ex_ishl, ex_ishr, ex_iushr, ex_idiv, ex_irem, ex_ladd, ex_lsub, ex_lmul, ex_lor, ex_ldiv, ex_lrem, ex_lshl, ex_lcmp, ex_ineg, ex_lneg, ex_i2l, ex_l2i, ex_i2b, ex_dup, ex_pop, ex_dup2, ex_goto, ex_tableswitch, ex_aaload, ex_ireturn, ex_lreturn, ex_return_, List.map_cons, List.map_nil, List.sum_cons, List.sum_nil, List.drop_succ_cons, List.drop_zero, List.take_succ_cons, List.take_zero, List.reverse_cons, List.reverse_nil, List.nil_append, List.cons_append, List.length_cons, List.length_nil, true_and, and_true, cond_false, cond_true, Bool.false_or, Bool.or_false, Bool.or_true, Bool.true_or, true_or, or_true, false_or, or_false, if_true, if_false, reduceIte, ite_true, ite_false, implies_true, true_implies, false_implies, forall_const, not_true_eq_false, not_false_eq_true, Nat.reduceAdd, Nat.reduceMul, Nat.reduceSub, Nat.reduceBEq, Nat.reduceEqDiff, Nat.reduceLeDiff, Nat.reduceLT, Int.reduceAdd, Int.reduceSub, Int.reduceMul, Int.reduceNeg, Int.reduceToNat, Int.reduceLE, Int.reduceLT, Int.reduceEq, Int.reduceNe, Int.reduceNatCast, Nat.add_zero, Nat.zero_add, reduceCtorEq, Int.reduceNatCast', wp_c, wp_g, e2_ifCond, e2_if_icmp, ↓bq_t, ↓bq_f, ab_br, ↓ab_b1_s, ↓ab_b2_s, ↓ab_l1_s, ↓ab_l2_s, ↓ab_li_s, ↓ab_o1_s, ↓ab_io_s, ↓ab_lo1_s, ↓ab_iio_s, ↓ab_lio_s, ↓ab_cp5_s, moX1_leastWalk, dX1_leastWalk_0, kx1_108, dX1_leastWalk_3, dls_1, dX1_leastWalk_4, dX1_leastWalk_5, dis_3, dX1_leastWalk_6, dil_3, dX1_leastWalk_7, dal_0, dX1_leastWalk_8, dg1_1_38_88, dX1_leastWalk_11, dX1_leastWalk_14, dX1_leastWalk_15, dg1_1_65_88, dX1_leastWalk_18, dX1_leastWalk_19, dX1_leastWalk_20, dg1_1_15_88, dX1_leastWalk_23, dX1_leastWalk_24, dX1_leastWalk_25, dX1_leastWalk_26, dv1_1_114_88, moX1_cornerIn, dX1_leastWalk_29, dX1_leastWalk_30, dX1_leastWalk_31, dX1_leastWalk_34, dX1_leastWalk_35, dX1_leastWalk_36, dX1_leastWalk_37, dX1_leastWalk_40, dv1_1_179_76, moX10_toSpots, dX1_leastWalk_43, dls_4, dX1_leastWalk_45, dll_4, dX1_leastWalk_47, dX1_leastWalk_50, dX1_leastWalk_51, dX1_leastWalk_54, dll_1, dX1_leastWalk_55, dX1_leastWalk_58, dX1_leastWalk_59, dX1_leastWalk_62, dX1_leastWalk_64, dX1_leastWalk_65, dX1_leastWalk_66, dX1_leastWalk_69, dX1_leastWalk_71, dX1_leastWalk_72, dinc_3, dX1_leastWalk_75, dX1_leastWalk_78, dX1_leastWalk_79, dal1_90]
  refine key 1729 0 0 σ _ _ (by omega) (by omega) (by omega) (by omega) (fun hh => ?_) (fun j j0 j1 => by omega) (zFk_rf σ)
  exact (hP0 _ (go.2.1 0 (by decide) hh).1).1
/-- one law more -/
def zcs (c L N : Int) (st : Int × Int × Int) : Int × Int × Int := if L ≠ -1 ∧ (st.2.1 = -1 ∨ L < st.2.1) then (if c = -1 then 9 else c, L, N) else st
/-- what is chosen of the first k laws (of none first) -/
def zCr (ω : ab_S) (x y : Int) : Nat → Int × Int × Int → Prop
  | 0, st => st = (-1, -1, -1)
  | k + 1, st => ∃ st0 ρ T, zCr ω x y k st0 ∧ zFb2 ω ρ ∧ zLy ρ ((k : Int) - 1) T ∧ st = zcs ((k : Int) - 1) (zLv T x y) (zNr T x y) st0
theorem zBk_tr {ω ρ υ : ab_S} (h1 : zBk ω ρ) (h2 : zBk ρ υ) : zBk ω υ := by
  obtain ⟨a1, a2, a3⟩ := h1
  obtain ⟨b1, b2, b3⟩ := h2
  refine ⟨b1.trans a1, fun k k0 k1 => ?_, fun k k0 k1 => ?_⟩
  · obtain ⟨x1, x2, x3⟩ := a2 k k0 k1
    obtain ⟨y1, y2, y3⟩ := b2 k k0 (by rw [a1]; exact k1)
    exact ⟨y1.trans x1, y2.trans x2, y3.trans x3⟩
  · obtain ⟨x1, x2, x3⟩ := a3 k k0 k1
    obtain ⟨y1, y2, y3⟩ := b3 k k0 (by rw [a1]; exact k1)
    exact ⟨y1.trans x1, y2.trans x2, y3.trans x3⟩
theorem zBk_sy {ω ρ : ab_S} (h1 : zBk ω ρ) : zBk ρ ω := by
  obtain ⟨a1, a2, a3⟩ := h1
  refine ⟨a1.symm, fun k k0 k1 => ?_, fun k k0 k1 => ?_⟩
  · obtain ⟨x1, x2, x3⟩ := a2 k k0 (by rw [← a1]; exact k1)
    exact ⟨x1.symm, x2.symm, x3.symm⟩
  · obtain ⟨x1, x2, x3⟩ := a3 k k0 (by rw [← a1]; exact k1)
    exact ⟨x1.symm, x2.symm, x3.symm⟩
/-- it rests on town, bakers, laws alone -/
theorem zCr_cg {ω ω' : ab_S} {x y : Int} (h : ∀ o, (3 ≤ o ∧ o ≤ 11) ∨ (34 ≤ o ∧ o ≤ 39) → ω' o = ω o) (hk : zBk ω ω') : ∀ {k : Nat} {st : Int × Int × Int}, zCr ω x y k st → zCr ω' x y k st
  | 0, _, h0 => h0
  | k + 1, st, ⟨st0, ρ, T, h1, h2, h3, h4⟩ => ⟨st0, ρ, T, zCr_cg h hk h1, ⟨fun o ho => (h2.1 o ho).trans (h o ho).symm, zBk_tr (zBk_sy hk) h2.2⟩, h3, h4⟩
theorem zcs_in {c L N : Int} {st : Int × Int × Int} (hc : -1 ≤ c ∧ c < 9) (hL : -1 ≤ L ∧ L ≤ 1000000000000) (hN : 0 ≤ N ∧ N ≤ 144) (h : st = (-1, -1, -1) ∨ ((0 ≤ st.1 ∧ st.1 ≤ 9) ∧ (0 ≤ st.2.1 ∧ st.2.1 ≤ 1000000000000) ∧ (0 ≤ st.2.2 ∧ st.2.2 ≤ 144))) : zcs c L N st = (-1, -1, -1) ∨ ((0 ≤ (zcs c L N st).1 ∧ (zcs c L N st).1 ≤ 9) ∧ (0 ≤ (zcs c L N st).2.1 ∧ (zcs c L N st).2.1 ≤ 1000000000000) ∧ (0 ≤ (zcs c L N st).2.2 ∧ (zcs c L N st).2.2 ≤ 144)) := by
  unfold zcs
  by_cases z : L ≠ -1 ∧ (st.2.1 = -1 ∨ L < st.2.1)
  · rw [if_pos z]
    refine Or.inr ⟨?_, ?_, hN⟩
    · show 0 ≤ (if c = -1 then (9 : Int) else c) ∧ (if c = -1 then (9 : Int) else c) ≤ 9
      split <;> omega
    · show 0 ≤ L ∧ L ≤ 1000000000000
      omega
  · rw [if_neg z]
    exact h
