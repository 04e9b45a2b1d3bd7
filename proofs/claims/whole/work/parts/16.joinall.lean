-- CLASS: Roads.joinAll, fewest steps over every corner
/-- corner v as a stop on the way: rows before a, and of row a what lies before b, are done -/
def zpp (n v a b : Int) (d : Int → Int) : Int → Int := fun k => if 0 ≤ k ∧ k < 144 ∧ k % 12 < n ∧ k / 12 < n ∧ (k / 12 < a ∨ (k / 12 = a ∧ k % 12 < b)) then min (d k) (d (12 * (k / 12) + v) + d (12 * v + k % 12)) else d k
theorem zpp_00 (n v : Int) (d : Int → Int) : zpp n v 0 0 d = d := by
  funext k
  unfold zpp
  rw [if_neg (by omega)]
theorem zpp_row (n v a : Int) (d : Int → Int) : zpp n v a n d = zpp n v (a + 1) 0 d := by
  funext k
  unfold zpp
  by_cases h : 0 ≤ k ∧ k < 144 ∧ k % 12 < n ∧ k / 12 < n ∧ (k / 12 < a ∨ (k / 12 = a ∧ k % 12 < n))
  · rw [if_pos h, if_pos (by omega)]
  · rw [if_neg h, if_neg (by omega)]
theorem zpp_s {n v a b : Int} (d : Int → Int) (ha : 0 ≤ a ∧ a < n) (hb : 0 ≤ b ∧ b < n) (hn : n ≤ 12) : zu (zpp n v a b d) (12 * a + b) (min (d (12 * a + b)) (d (12 * a + v) + d (12 * v + b))) = zpp n v a (b + 1) d := by
  funext k
  unfold zu zpp
  by_cases h0 : k = 12 * a + b
  · have e1 : k / 12 = a := by omega
    have e2 : k % 12 = b := by omega
    rw [if_pos h0, if_pos (by omega), e1, e2, h0]
  · rw [if_neg h0]
    by_cases h : 0 ≤ k ∧ k < 144 ∧ k % 12 < n ∧ k / 12 < n ∧ (k / 12 < a ∨ (k / 12 = a ∧ k % 12 < b))
    · rw [if_pos h, if_pos (by omega)]
    · rw [if_neg h, if_neg (by omega)]
theorem zpp_col {n v a b i : Int} {d : Int → Int} (hv : d (13 * v) = 0) (h0 : 0 ≤ v ∧ v < 12) (hi : 0 ≤ i ∧ i < 12) : zpp n v a b d (12 * i + v) = d (12 * i + v) := by
  unfold zpp
  split
  · have e1 : (12 * i + v) / 12 = i := by omega
    have e2 : (12 * i + v) % 12 = v := by omega
    rw [e1, e2, show 12 * v + v = 13 * v by omega, hv]
    omega
  · rfl
theorem zpp_lin {n v a b j : Int} {d : Int → Int} (hv : d (13 * v) = 0) (h0 : 0 ≤ v ∧ v < 12) (hj : 0 ≤ j ∧ j < 12) : zpp n v a b d (12 * v + j) = d (12 * v + j) := by
  unfold zpp
  split
  · have e1 : (12 * v + j) / 12 = v := by omega
    have e2 : (12 * v + j) % 12 = j := by omega
    rw [e1, e2, show 12 * v + v = 13 * v by omega, hv]
    omega
  · rfl
theorem zpp_un {n v a b i j : Int} {d : Int → Int} (hi : 0 ≤ i ∧ i < 12) (hj : 0 ≤ j ∧ j < 12) (h : ¬ (i < a ∨ (i = a ∧ j < b))) : zpp n v a b d (12 * i + j) = d (12 * i + j) := by
  unfold zpp
  rw [if_neg (by omega)]
def zfw (n : Int) (d : Int → Int) : Nat → Int → Int
  | 0 => d
  | v + 1 => zpp n v n 0 (zfw n d v)
/-- steps of ways: none below 0, none above F; no way is longer than none -/
def zin (F : Int) (d : Int → Int) : Prop := ∀ k, 0 ≤ k → k < 144 → 0 ≤ d k ∧ d k ≤ F
theorem zpp_in {F n v a b : Int} {d : Int → Int} (h : zin F d) (hv : 0 ≤ v ∧ v < 12) : zin F (zpp n v a b d) := by
  intro k h1 h2
  have q1 := h k h1 h2
  have q2 := h (12 * (k / 12) + v) (by omega) (by omega)
  have q3 := h (12 * v + k % 12) (by omega) (by omega)
  unfold zpp
  split <;> omega
theorem zpp_dg {F n v a b i : Int} {d : Int → Int} (h : zin F d) (hv : 0 ≤ v ∧ v < 12) (hi : 0 ≤ i ∧ i < 12) (h0 : d (13 * i) = 0) : zpp n v a b d (13 * i) = 0 := by
  have q2 := h (12 * (13 * i / 12) + v) (by omega) (by omega)
  have q3 := h (12 * v + 13 * i % 12) (by omega) (by omega)
  unfold zpp
  split <;> omega
theorem zfw_in {F n : Int} {d : Int → Int} (h : zin F d) : ∀ v : Nat, v ≤ 12 → zin F (zfw n d v)
  | 0, _ => h
  | v + 1, hv => zpp_in (zfw_in h v (by omega)) (by omega)
theorem zfw_dg {F n i : Int} {d : Int → Int} (h : zin F d) (hi : 0 ≤ i ∧ i < 12) (h0 : d (13 * i) = 0) : ∀ v : Nat, v ≤ 12 → zfw n d v (13 * i) = 0
  | 0, _ => h0
  | v + 1, hv => zpp_dg (zfw_in h v (by omega)) (by omega) hi (zfw_dg h hi h0 v (by omega))
set_option maxRecDepth 100000 in
set_option maxHeartbeats 4000000 in
theorem r_joinAll {σ : ab_S} {K : ab_V → ab_S → Prop} (c1 : 0 ≤ σ 3 8) (c2 : σ 3 8 ≤ 12) (hin : zin 100000 (σ 29)) (hdg : ∀ i, 0 ≤ i → i < σ 3 8 → σ 29 (13 * i) = 0) (h : K (vI 0) (ab_set σ 29 (zfw (σ 3 8) (σ 29) (σ 3 8).toNat))) : ab_Runs ab_G1 mdX7_joinAll [vR 28] σ K := by
  refine ab_runs mwX7_joinAll (by decide +kernel) (Nat.le_of_ble_eq_true rfl) (fun G hG => ?_)
  show G 0 [some (vR 28), none, none, none, none, none] [] _
  have key : ∀ (m : Nat) (v : Nat) (z2 z3 z4 z5 : Option ab_V), (σ 3 8) - v < m → (v : Int) ≤ σ 3 8 → G 2 [some (vR 28), some (vI v), z2, z3, z4, z5] [] (ab_set σ 29 (zfw (σ 3 8) (σ 29) v)) := by
    intro m
    induction m with
    | zero => intro v z2 z3 z4 z5 h1 h3; omega
    | succ m ih =>
      intro v z2 z3 z4 z5 h1 h3
      have hn := zfw_in (n := σ 3 8) hin v (by omega)
      have hd0 : ∀ i, 0 ≤ i → i < σ 3 8 → zfw (σ 3 8) (σ 29) v (13 * i) = 0 := fun i p1 p2 => zfw_dg hin (by omega) (hdg i p1 p2) v (by omega)
      have ih' := fun z2 z3 z4 z5 => ih (v + 1) z2 z3 z4 z5
      clear ih
      simp only [zfw] at ih'
      generalize hdd : zfw (σ 3 8) (σ 29) v = d at hn hd0 ih'
      have keyB : (v : Int) < σ 3 8 → ∀ (m : Nat) (a : Int) (z3 z4 z5 : Option ab_V), (σ 3 8) - a < m → 0 ≤ a → a ≤ σ 3 8 → G 15 [some (vR 28), some (vI v), some (vI a), z3, z4, z5] [] (ab_set σ 29 (zpp (σ 3 8) v a 0 d)) := by
        intro hv m
        induction m with
        | zero => intro a z3 z4 z5 h1 h2 h3; omega
        | succ m ihB =>
          intro a z3 z4 z5 h1 h2 h3
          have keyC : a < σ 3 8 → ∀ (m : Nat) (b : Int) (z5 : Option ab_V), (σ 3 8) - b < m → 0 ≤ b → b ≤ σ 3 8 → (d (12 * a + v) < 100000 ∨ b = 0) → G 41 [some (vR 28), some (vI v), some (vI a), some (vI (d (12 * a + v))), some (vI b), z5] [] (ab_set σ 29 (zpp (σ 3 8) v a b d)) := by
            intro ha m
            induction m with
            | zero => intro b z5 h1 h2 h3 _; omega
            | succ m ihC =>
              intro b z5 h1 h2 h3 hb
              have q1 := hn (12 * a + v) (by omega) (by omega)
              apply hG [15, 41] 60
              simp only [cq_lt, cq_le, cq_gt, cq_ge, cq_eq, cq_r1, cq_r2, ab_r32, ab_r64, ab_go, ab_stp, wp_z, wp_s, ab_in, ab_gv, ab_psh, ab_rok, ab_wsum, ab_prm, ab_ret, ab_sw, ab_cd, ab_tg, ab_cat_i, ab_cat_l, ab_cat_r, ab_cl_n, ab_cl_i, ab_cl_l, ab_cl_r, ab_f2_0, ab_f2_1, ab_f4_0, ab_f4_1, ab_f4_2, ab_f4_3, ab_op_s, ab_gI_s, ab_gL_s, ab_gR_s, ab_b1_s, ab_b2_s, ab_l1_s, ab_l2_s, ab_li_s, ab_o1_s, ab_io_s, ab_lo1_s, ab_iio_s, ab_lio_s, ab_cp5_s, ab_d2_l, ab_d2_i, ab_d2_o, ex_iconst, ex_bipush, ex_sipush, ex_lconst, ex_ldc, ex_ldc_w, ex_ldc2_w, ex_iload_n, ex_iload, ex_lload_n, ex_lload, ex_aload_n, ex_aload, ex_istore_n, ex_istore, ex_lstore_n, ex_lstore, ex_iinc, ex_iadd, ex_isub, ex_imul, ex_iand, ex_ior, ex_ixor, ex_ishl, ex_ishr, ex_iushr, ex_idiv, ex_irem, ex_ladd, ex_lsub, ex_lmul, ex_lor, ex_ldiv, ex_lrem, ex_lshl, ex_lcmp, ex_ineg, ex_lneg, ex_i2l, ex_l2i, ex_i2b, ex_dup, ex_pop, ex_dup2, ex_goto, ex_ifCond, ex_if_icmp, ex_tableswitch, ex_getfield, ex_putfield, ex_iaload, ex_laload, ex_baload, ex_iastore, ex_lastore, ex_bastore, ex_aaload, ex_arraylength, ex_invokevirtual, ex_invokestatic, ex_ireturn, ex_lreturn, ex_return_, List.map_cons, List.map_nil, List.sum_cons, List.sum_nil, List.drop_succ_cons, List.drop_zero, List.take_succ_cons, List.take_zero, List.reverse_cons, List.reverse_nil, List.nil_append, List.cons_append, List.length_cons, List.length_nil, true_and, and_true, cond_false, cond_true, Bool.false_or, Bool.or_false, Bool.or_true, Bool.true_or, true_or, or_true, false_or, or_false, if_true, if_false, reduceIte, ite_true, ite_false, implies_true, true_implies, false_implies, forall_const, not_true_eq_false, not_false_eq_true, Nat.reduceAdd, Nat.reduceMul, Nat.reduceSub, Nat.reduceBEq, Nat.reduceEqDiff, Nat.reduceLeDiff, Nat.reduceLT, Int.reduceAdd, Int.reduceSub, Int.reduceMul, Int.reduceNeg, Int.reduceToNat, Int.reduceLE, Int.reduceLT, Int.reduceEq, Int.reduceNe, Int.reduceNatCast, Nat.add_zero, Nat.zero_add, reduceCtorEq, Int.reduceNatCast', moX7_joinAll, dX7_joinAll_0, dX7_joinAll_1, dX7_joinAll_2, dX7_joinAll_3, dX7_joinAll_4, gt1_7_38_28, dX7_joinAll_7, gt1_7_97_3, gt1_7_97_12, dX7_joinAll_10, dX7_joinAll_13, dX7_joinAll_14, dX7_joinAll_15, dX7_joinAll_16, dX7_joinAll_17, dX7_joinAll_20, dX7_joinAll_23, dX7_joinAll_26, dX7_joinAll_27, gt1_7_9_28, dX7_joinAll_30, dX7_joinAll_32, dX7_joinAll_33, dX7_joinAll_34, dX7_joinAll_35, dX7_joinAll_36, dX7_joinAll_37, dX7_joinAll_38, dX7_joinAll_39, dX7_joinAll_41, dX7_joinAll_42, kx7_90, dX7_joinAll_44, dX7_joinAll_47, dX7_joinAll_49, dX7_joinAll_50, dX7_joinAll_53, dX7_joinAll_56, dX7_joinAll_59, dX7_joinAll_60, dX7_joinAll_61, dX7_joinAll_64, dX7_joinAll_66, dX7_joinAll_67, dX7_joinAll_68, dX7_joinAll_70, dX7_joinAll_71, dX7_joinAll_72, dX7_joinAll_73, dX7_joinAll_75, dX7_joinAll_77, dX7_joinAll_78, dX7_joinAll_81, dX7_joinAll_83, dX7_joinAll_84, dX7_joinAll_85, dX7_joinAll_87, dX7_joinAll_88, dX7_joinAll_89, dX7_joinAll_92, dX7_joinAll_93, dX7_joinAll_96, dX7_joinAll_98, dX7_joinAll_99, dX7_joinAll_100, dX7_joinAll_102, dX7_joinAll_103, dX7_joinAll_105, dX7_joinAll_106, dX7_joinAll_109, dX7_joinAll_112, dX7_joinAll_115, dX7_joinAll_118, dX7_joinAll_121, dX7_joinAll_124, ar1_0, ar1_1, ar1_10, ar1_100, ar1_101, ar1_102, ar1_11, ar1_12, ar1_13, ar1_14, ar1_15, ar1_16, ar1_17, ar1_18, ar1_19, ar1_2, ar1_20, ar1_21, ar1_22, ar1_23, ar1_24, ar1_25, ar1_26, ar1_27, ar1_28, ar1_29, ar1_3, ar1_30, ar1_31, ar1_32, ar1_33, ar1_34, ar1_35, ar1_36, ar1_37, ar1_38, ar1_39, ar1_4, ar1_40, ar1_41, ar1_42, ar1_43, ar1_44, ar1_45, ar1_46, ar1_47, ar1_48, ar1_49, ar1_5, ar1_50, ar1_51, ar1_52, ar1_53, ar1_54, ar1_55, ar1_56, ar1_57, ar1_58, ar1_59, ar1_6, ar1_60, ar1_61, ar1_62, ar1_63, ar1_64, ar1_65, ar1_66, ar1_67, ar1_68, ar1_69, ar1_7, ar1_70, ar1_71, ar1_72, ar1_73, ar1_74, ar1_75, ar1_76, ar1_77, ar1_78, ar1_79, ar1_8, ar1_80, ar1_81, ar1_82, ar1_83, ar1_84, ar1_85, ar1_86, ar1_87, ar1_88, ar1_89, ar1_9, ar1_90, ar1_91, ar1_92, ar1_93, ar1_94, ar1_95, ar1_96, ar1_97, ar1_98, ar1_99, lk_0, lk_1, lk_2, lk_3, lk_4, lk_5, st1_1, st1_2, st1_3, st1_4, st1_5, ab_set]
              repeat' (with_reducible (first | apply And.intro | intro _))
              all_goals first | omega | skip
              · rename_i hc
                have e : b = 0 := by omega
                subst e
                have e2 : zpp (σ 3 8) v a 0 d = zpp (σ 3 8) v (a + 1) 0 d := by
                  funext k
                  unfold zpp
                  by_cases hk : 0 ≤ k ∧ k < 144 ∧ k % 12 < σ 3 8 ∧ k / 12 < σ 3 8 ∧ (k / 12 < a ∨ (k / 12 = a ∧ k % 12 < 0))
                  · rw [if_pos hk, if_pos (by omega)]
                  · rw [if_neg hk]
                    split
                    · rename_i hk2
                      have e3 : k / 12 = a := by omega
                      have q2 := hn k (by omega) (by omega)
                      have q3 := hn (12 * v + k % 12) (by omega) (by omega)
                      rw [e3]
                      omega
                    · rfl
                have := ihB (a + 1) (some (vI (d (12 * a + v)))) (some (vI 0)) z5 (by omega) (by omega) (by omega)
                rw [← e2] at this
                exact this
              · rename_i hc hc2
                have e : b = σ 3 8 := by omega
                subst e
                rw [zpp_row]
                exact ihB (a + 1) _ _ _ (by omega) (by omega) (by omega)
              all_goals (have q2 := hn (12 * v + b) (by omega) (by omega); have q3 := hn (12 * a + b) (by omega) (by omega); have w1 := zpp_lin (n := σ 3 8) (a := a) (b := b) (hd0 v (by omega) hv) (by omega : 0 ≤ (v : Int) ∧ (v : Int) < 12) (by omega : 0 ≤ b ∧ b < 12); have w2 := zpp_un (n := σ 3 8) (v := v) (a := a) (b := b) (i := a) (j := b) (d := d) (by omega) (by omega) (by omega))
              all_goals first | omega | skip
              · rename_i hc hc2 hc3
                rw [w1, w2] at hc3
                have := ihC (b + 1) (some (vI (d (12 * a + v) + d (12 * v + b)))) (by omega) (by omega) (by omega) (by omega)
                rw [← zpp_s d (by omega) (by omega) c2, show min (d (12 * a + b)) (d (12 * a + v) + d (12 * v + b)) = d (12 * a + b) by omega] at this
                rw [w1]
                have e4 : zu (zpp (σ 3 8) v a b d) (12 * a + b) (d (12 * a + b)) = zpp (σ 3 8) v a b d := by
                  funext k
                  unfold zu
                  split
                  · rename_i hk
                    rw [hk, w2]
                  · rfl
                rw [e4] at this
                exact this
              · rename_i hc hc2 hc3
                rw [w1, w2] at hc3
                have := ihC (b + 1) (some (vI (d (12 * a + v) + d (12 * v + b)))) (by omega) (by omega) (by omega) (by omega)
                rw [← zpp_s d (by omega) (by omega) c2, show min (d (12 * a + b)) (d (12 * a + v) + d (12 * v + b)) = d (12 * a + v) + d (12 * v + b) by omega, ← ab_up_set] at this
                rw [w1]
                exact this
          have q1 : a < σ 3 8 → zpp (σ 3 8) v a 0 d (12 * a + v) = d (12 * a + v) := fun ha => zpp_col (hd0 v (by omega) hv) (by omega) (by omega)
          apply hG [2, 15, 41] 60
          simp only [cq_lt, cq_le, cq_gt, cq_ge, cq_eq, cq_r1, cq_r2, ab_r32, ab_r64, ab_go, ab_stp, wp_z, wp_s, ab_in, ab_gv, ab_psh, ab_rok, ab_wsum, ab_prm, ab_ret, ab_sw, ab_cd, ab_tg, ab_cat_i, ab_cat_l, ab_cat_r, ab_cl_n, ab_cl_i, ab_cl_l, ab_cl_r, ab_f2_0, ab_f2_1, ab_f4_0, ab_f4_1, ab_f4_2, ab_f4_3, ab_op_s, ab_gI_s, ab_gL_s, ab_gR_s, ab_b1_s, ab_b2_s, ab_l1_s, ab_l2_s, ab_li_s, ab_o1_s, ab_io_s, ab_lo1_s, ab_iio_s, ab_lio_s, ab_cp5_s, ab_d2_l, ab_d2_i, ab_d2_o, ex_iconst, ex_bipush, ex_sipush, ex_lconst, ex_ldc, ex_ldc_w, ex_ldc2_w, ex_iload_n, ex_iload, ex_lload_n, ex_lload, ex_aload_n, ex_aload, ex_istore_n, ex_istore, ex_lstore_n, ex_lstore, ex_iinc, ex_iadd, ex_isub, ex_imul, ex_iand, ex_ior, ex_ixor, ex_ishl, ex_ishr, ex_iushr, ex_idiv, ex_irem, ex_ladd, ex_lsub, ex_lmul, ex_lor, ex_ldiv, ex_lrem, ex_lshl, ex_lcmp, ex_ineg, ex_lneg, ex_i2l, ex_l2i, ex_i2b, ex_dup, ex_pop, ex_dup2, ex_goto, ex_ifCond, ex_if_icmp, ex_tableswitch, ex_getfield, ex_putfield, ex_iaload, ex_laload, ex_baload, ex_iastore, ex_lastore, ex_bastore, ex_aaload, ex_arraylength, ex_invokevirtual, ex_invokestatic, ex_ireturn, ex_lreturn, ex_return_, List.map_cons, List.map_nil, List.sum_cons, List.sum_nil, List.drop_succ_cons, List.drop_zero, List.take_succ_cons, List.take_zero, List.reverse_cons, List.reverse_nil, List.nil_append, List.cons_append, List.length_cons, List.length_nil, true_and, and_true, cond_false, cond_true, Bool.false_or, Bool.or_false, Bool.or_true, Bool.true_or, true_or, or_true, false_or, or_false, if_true, if_false, reduceIte, ite_true, ite_false, implies_true, true_implies, false_implies, forall_const, not_true_eq_false, not_false_eq_true, Nat.reduceAdd, Nat.reduceMul, Nat.reduceSub, Nat.reduceBEq, Nat.reduceEqDiff, Nat.reduceLeDiff, Nat.reduceLT, Int.reduceAdd, Int.reduceSub, Int.reduceMul, Int.reduceNeg, Int.reduceToNat, Int.reduceLE, Int.reduceLT, Int.reduceEq, Int.reduceNe, Int.reduceNatCast, Nat.add_zero, Nat.zero_add, reduceCtorEq, Int.reduceNatCast', moX7_joinAll, dX7_joinAll_0, dX7_joinAll_1, dX7_joinAll_2, dX7_joinAll_3, dX7_joinAll_4, gt1_7_38_28, dX7_joinAll_7, gt1_7_97_3, gt1_7_97_12, dX7_joinAll_10, dX7_joinAll_13, dX7_joinAll_14, dX7_joinAll_15, dX7_joinAll_16, dX7_joinAll_17, dX7_joinAll_20, dX7_joinAll_23, dX7_joinAll_26, dX7_joinAll_27, gt1_7_9_28, dX7_joinAll_30, dX7_joinAll_32, dX7_joinAll_33, dX7_joinAll_34, dX7_joinAll_35, dX7_joinAll_36, dX7_joinAll_37, dX7_joinAll_38, dX7_joinAll_39, dX7_joinAll_41, dX7_joinAll_42, kx7_90, dX7_joinAll_44, dX7_joinAll_47, dX7_joinAll_49, dX7_joinAll_50, dX7_joinAll_53, dX7_joinAll_56, dX7_joinAll_59, dX7_joinAll_60, dX7_joinAll_61, dX7_joinAll_64, dX7_joinAll_66, dX7_joinAll_67, dX7_joinAll_68, dX7_joinAll_70, dX7_joinAll_71, dX7_joinAll_72, dX7_joinAll_73, dX7_joinAll_75, dX7_joinAll_77, dX7_joinAll_78, dX7_joinAll_81, dX7_joinAll_83, dX7_joinAll_84, dX7_joinAll_85, dX7_joinAll_87, dX7_joinAll_88, dX7_joinAll_89, dX7_joinAll_92, dX7_joinAll_93, dX7_joinAll_96, dX7_joinAll_98, dX7_joinAll_99, dX7_joinAll_100, dX7_joinAll_102, dX7_joinAll_103, dX7_joinAll_105, dX7_joinAll_106, dX7_joinAll_109, dX7_joinAll_112, dX7_joinAll_115, dX7_joinAll_118, dX7_joinAll_121, dX7_joinAll_124, ar1_0, ar1_1, ar1_10, ar1_100, ar1_101, ar1_102, ar1_11, ar1_12, ar1_13, ar1_14, ar1_15, ar1_16, ar1_17, ar1_18, ar1_19, ar1_2, ar1_20, ar1_21, ar1_22, ar1_23, ar1_24, ar1_25, ar1_26, ar1_27, ar1_28, ar1_29, ar1_3, ar1_30, ar1_31, ar1_32, ar1_33, ar1_34, ar1_35, ar1_36, ar1_37, ar1_38, ar1_39, ar1_4, ar1_40, ar1_41, ar1_42, ar1_43, ar1_44, ar1_45, ar1_46, ar1_47, ar1_48, ar1_49, ar1_5, ar1_50, ar1_51, ar1_52, ar1_53, ar1_54, ar1_55, ar1_56, ar1_57, ar1_58, ar1_59, ar1_6, ar1_60, ar1_61, ar1_62, ar1_63, ar1_64, ar1_65, ar1_66, ar1_67, ar1_68, ar1_69, ar1_7, ar1_70, ar1_71, ar1_72, ar1_73, ar1_74, ar1_75, ar1_76, ar1_77, ar1_78, ar1_79, ar1_8, ar1_80, ar1_81, ar1_82, ar1_83, ar1_84, ar1_85, ar1_86, ar1_87, ar1_88, ar1_89, ar1_9, ar1_90, ar1_91, ar1_92, ar1_93, ar1_94, ar1_95, ar1_96, ar1_97, ar1_98, ar1_99, lk_0, lk_1, lk_2, lk_3, lk_4, lk_5, st1_1, st1_2, st1_3, st1_4, st1_5, ab_set]
          repeat' (with_reducible (first | apply And.intro | intro _))
          all_goals first | omega | skip
          · rename_i hc
            have e : a = σ 3 8 := by omega
            subst e
            exact ih' _ _ _ _ (by omega) (by omega)
          · rename_i hc
            rw [q1 (by omega)]
            exact keyC (by omega) 13 0 _ (by omega) (by omega) (by omega) (Or.inr rfl)
      apply hG [2, 15] 60
      simp only [cq_lt, cq_le, cq_gt, cq_ge, cq_eq, cq_r1, cq_r2, ab_r32, ab_r64, ab_go, ab_stp, wp_z, wp_s, ab_in, ab_gv, ab_psh, ab_rok, ab_wsum, ab_prm, ab_ret, ab_sw, ab_cd, ab_tg, ab_cat_i, ab_cat_l, ab_cat_r, ab_cl_n, ab_cl_i, ab_cl_l, ab_cl_r, ab_f2_0, ab_f2_1, ab_f4_0, ab_f4_1, ab_f4_2, ab_f4_3, ab_op_s, ab_gI_s, ab_gL_s, ab_gR_s, ab_b1_s, ab_b2_s, ab_l1_s, ab_l2_s, ab_li_s, ab_o1_s, ab_io_s, ab_lo1_s, ab_iio_s, ab_lio_s, ab_cp5_s, ab_d2_l, ab_d2_i, ab_d2_o, ex_iconst, ex_bipush, ex_sipush, ex_lconst, ex_ldc, ex_ldc_w, ex_ldc2_w, ex_iload_n, ex_iload, ex_lload_n, ex_lload, ex_aload_n, ex_aload, ex_istore_n, ex_istore, ex_lstore_n, ex_lstore, ex_iinc, ex_iadd, ex_isub, ex_imul, ex_iand, ex_ior, ex_ixor, ex_ishl, ex_ishr, ex_iushr, ex_idiv, ex_irem, ex_ladd, ex_lsub, ex_lmul, ex_lor, ex_ldiv, ex_lrem, ex_lshl, ex_lcmp, ex_ineg, ex_lneg, ex_i2l, ex_l2i, ex_i2b, ex_dup, ex_pop, ex_dup2, ex_goto, ex_ifCond, ex_if_icmp, ex_tableswitch, ex_getfield, ex_putfield, ex_iaload, ex_laload, ex_baload, ex_iastore, ex_lastore, ex_bastore, ex_aaload, ex_arraylength, ex_invokevirtual, ex_invokestatic, ex_ireturn, ex_lreturn, ex_return_, List.map_cons, List.map_nil, List.sum_cons, List.sum_nil, List.drop_succ_cons, List.drop_zero, List.take_succ_cons, List.take_zero, List.reverse_cons, List.reverse_nil, List.nil_append, List.cons_append, List.length_cons, List.length_nil, true_and, and_true, cond_false, cond_true, Bool.false_or, Bool.or_false, Bool.or_true, Bool.true_or, true_or, or_true, false_or, or_false, if_true, if_false, reduceIte, ite_true, ite_false, implies_true, true_implies, false_implies, forall_const, not_true_eq_false, not_false_eq_true, Nat.reduceAdd, Nat.reduceMul, Nat.reduceSub, Nat.reduceBEq, Nat.reduceEqDiff, Nat.reduceLeDiff, Nat.reduceLT, Int.reduceAdd, Int.reduceSub, Int.reduceMul, Int.reduceNeg, Int.reduceToNat, Int.reduceLE, Int.reduceLT, Int.reduceEq, Int.reduceNe, Int.reduceNatCast, Nat.add_zero, Nat.zero_add, reduceCtorEq, Int.reduceNatCast', moX7_joinAll, dX7_joinAll_0, dX7_joinAll_1, dX7_joinAll_2, dX7_joinAll_3, dX7_joinAll_4, gt1_7_38_28, dX7_joinAll_7, gt1_7_97_3, gt1_7_97_12, dX7_joinAll_10, dX7_joinAll_13, dX7_joinAll_14, dX7_joinAll_15, dX7_joinAll_16, dX7_joinAll_17, dX7_joinAll_20, dX7_joinAll_23, dX7_joinAll_26, dX7_joinAll_27, gt1_7_9_28, dX7_joinAll_30, dX7_joinAll_32, dX7_joinAll_33, dX7_joinAll_34, dX7_joinAll_35, dX7_joinAll_36, dX7_joinAll_37, dX7_joinAll_38, dX7_joinAll_39, dX7_joinAll_41, dX7_joinAll_42, kx7_90, dX7_joinAll_44, dX7_joinAll_47, dX7_joinAll_49, dX7_joinAll_50, dX7_joinAll_53, dX7_joinAll_56, dX7_joinAll_59, dX7_joinAll_60, dX7_joinAll_61, dX7_joinAll_64, dX7_joinAll_66, dX7_joinAll_67, dX7_joinAll_68, dX7_joinAll_70, dX7_joinAll_71, dX7_joinAll_72, dX7_joinAll_73, dX7_joinAll_75, dX7_joinAll_77, dX7_joinAll_78, dX7_joinAll_81, dX7_joinAll_83, dX7_joinAll_84, dX7_joinAll_85, dX7_joinAll_87, dX7_joinAll_88, dX7_joinAll_89, dX7_joinAll_92, dX7_joinAll_93, dX7_joinAll_96, dX7_joinAll_98, dX7_joinAll_99, dX7_joinAll_100, dX7_joinAll_102, dX7_joinAll_103, dX7_joinAll_105, dX7_joinAll_106, dX7_joinAll_109, dX7_joinAll_112, dX7_joinAll_115, dX7_joinAll_118, dX7_joinAll_121, dX7_joinAll_124, ar1_0, ar1_1, ar1_10, ar1_100, ar1_101, ar1_102, ar1_11, ar1_12, ar1_13, ar1_14, ar1_15, ar1_16, ar1_17, ar1_18, ar1_19, ar1_2, ar1_20, ar1_21, ar1_22, ar1_23, ar1_24, ar1_25, ar1_26, ar1_27, ar1_28, ar1_29, ar1_3, ar1_30, ar1_31, ar1_32, ar1_33, ar1_34, ar1_35, ar1_36, ar1_37, ar1_38, ar1_39, ar1_4, ar1_40, ar1_41, ar1_42, ar1_43, ar1_44, ar1_45, ar1_46, ar1_47, ar1_48, ar1_49, ar1_5, ar1_50, ar1_51, ar1_52, ar1_53, ar1_54, ar1_55, ar1_56, ar1_57, ar1_58, ar1_59, ar1_6, ar1_60, ar1_61, ar1_62, ar1_63, ar1_64, ar1_65, ar1_66, ar1_67, ar1_68, ar1_69, ar1_7, ar1_70, ar1_71, ar1_72, ar1_73, ar1_74, ar1_75, ar1_76, ar1_77, ar1_78, ar1_79, ar1_8, ar1_80, ar1_81, ar1_82, ar1_83, ar1_84, ar1_85, ar1_86, ar1_87, ar1_88, ar1_89, ar1_9, ar1_90, ar1_91, ar1_92, ar1_93, ar1_94, ar1_95, ar1_96, ar1_97, ar1_98, ar1_99, lk_0, lk_1, lk_2, lk_3, lk_4, lk_5, st1_1, st1_2, st1_3, st1_4, st1_5, ab_set]
      repeat' (with_reducible (first | apply And.intro | intro _))
      all_goals first | omega | skip
      · rename_i hc
        have e : (σ 3 8).toNat = v := by omega
        rw [e, hdd] at h
        exact h
      · have := keyB (by omega) 13 0 z3 z4 z5 (by omega) (by omega) (by omega)
        rw [zpp_00] at this
        exact this
  apply hG [2] 60
  simp only [cq_lt, cq_le, cq_gt, cq_ge, cq_eq, cq_r1, cq_r2, ab_r32, ab_r64, ab_go, ab_stp, wp_z, wp_s, ab_in, ab_gv, ab_psh, ab_rok, ab_wsum, ab_prm, ab_ret, ab_sw, ab_cd, ab_tg, ab_cat_i, ab_cat_l, ab_cat_r, ab_cl_n, ab_cl_i, ab_cl_l, ab_cl_r, ab_f2_0, ab_f2_1, ab_f4_0, ab_f4_1, ab_f4_2, ab_f4_3, ab_op_s, ab_gI_s, ab_gL_s, ab_gR_s, ab_b1_s, ab_b2_s, ab_l1_s, ab_l2_s, ab_li_s, ab_o1_s, ab_io_s, ab_lo1_s, ab_iio_s, ab_lio_s, ab_cp5_s, ab_d2_l, ab_d2_i, ab_d2_o, ex_iconst, ex_bipush, ex_sipush, ex_lconst, ex_ldc, ex_ldc_w, ex_ldc2_w, ex_iload_n, ex_iload, ex_lload_n, ex_lload, ex_aload_n, ex_aload, ex_istore_n, ex_istore, ex_lstore_n, ex_lstore, ex_iinc, ex_iadd, ex_isub, ex_imul, ex_iand, ex_ior, ex_ixor, ex_ishl, ex_ishr, ex_iushr, ex_idiv, ex_irem, ex_ladd, ex_lsub, ex_lmul, ex_lor, ex_ldiv, ex_lrem, ex_lshl, ex_lcmp, ex_ineg, ex_lneg, ex_i2l, ex_l2i, ex_i2b, ex_dup, ex_pop, ex_dup2, ex_goto, ex_ifCond, ex_if_icmp, ex_tableswitch, ex_getfield, ex_putfield, ex_iaload, ex_laload, ex_baload, ex_iastore, ex_lastore, ex_bastore, ex_aaload, ex_arraylength, ex_invokevirtual, ex_invokestatic, ex_ireturn, ex_lreturn, ex_return_, List.map_cons, List.map_nil, List.sum_cons, List.sum_nil, List.drop_succ_cons, List.drop_zero, List.take_succ_cons, List.take_zero, List.reverse_cons, List.reverse_nil, List.nil_append, List.cons_append, List.length_cons, List.length_nil, true_and, and_true, cond_false, cond_true, Bool.false_or, Bool.or_false, Bool.or_true, Bool.true_or, true_or, or_true, false_or, or_false, if_true, if_false, reduceIte, ite_true, ite_false, implies_true, true_implies, false_implies, forall_const, not_true_eq_false, not_false_eq_true, Nat.reduceAdd, Nat.reduceMul, Nat.reduceSub, Nat.reduceBEq, Nat.reduceEqDiff, Nat.reduceLeDiff, Nat.reduceLT, Int.reduceAdd, Int.reduceSub, Int.reduceMul, Int.reduceNeg, Int.reduceToNat, Int.reduceLE, Int.reduceLT, Int.reduceEq, Int.reduceNe, Int.reduceNatCast, Nat.add_zero, Nat.zero_add, reduceCtorEq, Int.reduceNatCast', moX7_joinAll, dX7_joinAll_0, dX7_joinAll_1, dX7_joinAll_2, dX7_joinAll_3, dX7_joinAll_4, gt1_7_38_28, dX7_joinAll_7, gt1_7_97_3, gt1_7_97_12, dX7_joinAll_10, dX7_joinAll_13, dX7_joinAll_14, dX7_joinAll_15, dX7_joinAll_16, dX7_joinAll_17, dX7_joinAll_20, dX7_joinAll_23, dX7_joinAll_26, dX7_joinAll_27, gt1_7_9_28, dX7_joinAll_30, dX7_joinAll_32, dX7_joinAll_33, dX7_joinAll_34, dX7_joinAll_35, dX7_joinAll_36, dX7_joinAll_37, dX7_joinAll_38, dX7_joinAll_39, dX7_joinAll_41, dX7_joinAll_42, kx7_90, dX7_joinAll_44, dX7_joinAll_47, dX7_joinAll_49, dX7_joinAll_50, dX7_joinAll_53, dX7_joinAll_56, dX7_joinAll_59, dX7_joinAll_60, dX7_joinAll_61, dX7_joinAll_64, dX7_joinAll_66, dX7_joinAll_67, dX7_joinAll_68, dX7_joinAll_70, dX7_joinAll_71, dX7_joinAll_72, dX7_joinAll_73, dX7_joinAll_75, dX7_joinAll_77, dX7_joinAll_78, dX7_joinAll_81, dX7_joinAll_83, dX7_joinAll_84, dX7_joinAll_85, dX7_joinAll_87, dX7_joinAll_88, dX7_joinAll_89, dX7_joinAll_92, dX7_joinAll_93, dX7_joinAll_96, dX7_joinAll_98, dX7_joinAll_99, dX7_joinAll_100, dX7_joinAll_102, dX7_joinAll_103, dX7_joinAll_105, dX7_joinAll_106, dX7_joinAll_109, dX7_joinAll_112, dX7_joinAll_115, dX7_joinAll_118, dX7_joinAll_121, dX7_joinAll_124, ar1_0, ar1_1, ar1_10, ar1_100, ar1_101, ar1_102, ar1_11, ar1_12, ar1_13, ar1_14, ar1_15, ar1_16, ar1_17, ar1_18, ar1_19, ar1_2, ar1_20, ar1_21, ar1_22, ar1_23, ar1_24, ar1_25, ar1_26, ar1_27, ar1_28, ar1_29, ar1_3, ar1_30, ar1_31, ar1_32, ar1_33, ar1_34, ar1_35, ar1_36, ar1_37, ar1_38, ar1_39, ar1_4, ar1_40, ar1_41, ar1_42, ar1_43, ar1_44, ar1_45, ar1_46, ar1_47, ar1_48, ar1_49, ar1_5, ar1_50, ar1_51, ar1_52, ar1_53, ar1_54, ar1_55, ar1_56, ar1_57, ar1_58, ar1_59, ar1_6, ar1_60, ar1_61, ar1_62, ar1_63, ar1_64, ar1_65, ar1_66, ar1_67, ar1_68, ar1_69, ar1_7, ar1_70, ar1_71, ar1_72, ar1_73, ar1_74, ar1_75, ar1_76, ar1_77, ar1_78, ar1_79, ar1_8, ar1_80, ar1_81, ar1_82, ar1_83, ar1_84, ar1_85, ar1_86, ar1_87, ar1_88, ar1_89, ar1_9, ar1_90, ar1_91, ar1_92, ar1_93, ar1_94, ar1_95, ar1_96, ar1_97, ar1_98, ar1_99, lk_0, lk_1, lk_2, lk_3, lk_4, lk_5, st1_1, st1_2, st1_3, st1_4, st1_5]
  have := key 13 0 none none none none (by omega) (by omega)
  rw [show zfw (σ 3 8) (σ 29) 0 = σ 29 from rfl, ab_set_self] at this
  exact this
