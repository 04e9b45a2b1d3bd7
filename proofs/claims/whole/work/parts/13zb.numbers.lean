-- CLASS: Reader.takeEnd, takeNumber, begin
/-- the number that n digits spell -/
def zNm (t : Int → Int) (f : Int) : Nat → Int
  | 0 => 0
  | n + 1 => 10 * zNm t f n + t (f + n) - 48
def zP10 : Nat → Int
  | 0 => 1
  | n + 1 => 10 * zP10 n
theorem zNm_in {t : Int → Int} {f : Int} : ∀ {n : Nat}, (∀ i, f ≤ i → i < f + n → zDi (t i)) → 0 ≤ zNm t f n ∧ zNm t f n < zP10 n
  | 0, _ => by simp [zNm, zP10]
  | n + 1, h => by
    have ih := zNm_in (t := t) (f := f) (n := n) (fun i h1 h2 => h i h1 (by omega))
    have q := h (f + n) (by omega) (by omega)
    unfold zDi at q
    rw [zNm, zP10]
    omega
theorem zNm_4 {t : Int → Int} {f : Int} {n : Nat} (hn : n ≤ 4) (h : ∀ i, f ≤ i → i < f + n → zDi (t i)) : 0 ≤ zNm t f n ∧ zNm t f n ≤ 9999 := by
  have q := zNm_in h
  have : zP10 n ≤ 10000 := by
    rcases (show n = 0 ∨ n = 1 ∨ n = 2 ∨ n = 3 ∨ n = 4 by omega) with rfl | rfl | rfl | rfl | rfl <;> decide
  omega
/-- the reader stands at a token -/
def zRr (σ : ab_S) : Prop := zTp8 (σ 2) (σ 1 2) ∧ ∃ p, 0 ≤ p ∧ zTkn (σ 2) (σ 1 2) p (σ 1 5) (σ 1 4) (σ 1 3)
theorem zRr_in {σ : ab_S} (h : zRr σ) : (0 ≤ σ 1 5 ∧ σ 1 5 ≤ σ 1 3 ∧ σ 1 3 ≤ σ 1 2 ∧ σ 1 2 ≤ 900) ∧ 0 ≤ σ 1 4 ∧ σ 1 4 ≤ 4 := by
  obtain ⟨h1, p, h2, h3⟩ := h
  have := zTkn_in h3
  have := h1.1
  omega
/-- the reader went on by a token -/
def zAv (σ : ab_S) (g : Int → Int) : Prop := (∀ k, k ≠ 3 → k ≠ 4 → k ≠ 5 → k ≠ 6 → g k = σ 1 k) ∧ zTkn (σ 2) (σ 1 2) (σ 1 3) (g 5) (g 4) (g 3)
theorem zRr_av {σ : ab_S} {g : Int → Int} (h : zRr σ) (hg : zAv σ g) : zRr (ab_set σ 1 g) := by
  have q := zRr_in h
  refine ⟨?_, σ 1 3, by omega, ?_⟩
  · show zTp8 (σ 2) (g 2)
    rw [hg.1 2 (by decide) (by decide) (by decide) (by decide)]
    exact h.1
  · show zTkn (σ 2) (g 2) _ (g 5) (g 4) (g 3)
    rw [hg.1 2 (by decide) (by decide) (by decide) (by decide)]
    exact hg.2
theorem r_adv {σ : ab_S} {K : ab_V → ab_S → Prop} (hR : zRr σ) (h : ∀ g : Int → Int, zAv σ g → g 6 = σ 1 6 → zRr (ab_set σ 1 g) → K (vI 0) (ab_set σ 1 g)) : ab_Runs ab_G1 mdX6_advance [vR 1] σ K := by
  have q := zRr_in hR
  refine r_advance hR.1 (by omega) (fun g g1 g2 => ?_)
  have ha : zAv σ g := ⟨fun k a b c _ => g1 k a b c, g2⟩
  exact h g ha (g1 6 (by decide) (by decide) (by decide)) (zRr_av hR ha)
set_option maxRecDepth 100000 in
set_option maxHeartbeats 4000000 in
theorem r_takeEnd {σ : ab_S} {K : ab_V → ab_S → Prop} (hR : zRr σ) (h0 : σ 1 4 ≠ 3 → K (vI 0) σ) (h1 : ∀ g : Int → Int, σ 1 4 = 3 → zAv σ g → zRr (ab_set σ 1 g) → K (vI 1) (ab_set σ 1 g)) : ab_Runs ab_G1 mdX6_takeEnd [vR 1] σ K := by
  refine ab_runs mwX6_takeEnd (by decide +kernel) (Nat.le_of_ble_eq_true rfl) (fun G hG => ?_)
  show G 0 [some (vR 1)] [] _
  have q := zRr_in hR
  apply hG [9999] 20
  simp only [cq_lt, cq_le, cq_gt, cq_ge, cq_eq, cq_r1, cq_r2, ab_r32, ab_r64, ab_go, ab_stp, wp_z, ab_in, ab_rok, ab_wsum, ab_prm, ab_ret, ab_sw, ab_cd, ab_tg, ab_cat_i, ab_cat_l, ab_cat_r, ab_cl_n, ab_cl_i, ab_cl_l, ab_cl_r, ab_f2_0, ab_f2_1, ab_f4_0, ab_f4_1, ab_f4_2, ab_f4_3, ab_op_s, ab_b1_s, ab_b2_s, ab_l1_s, ab_l2_s, ab_li_s, ab_o1_s, ab_io_s, ab_lo1_s, ab_iio_s, ab_lio_s, ab_cp5_s, ab_d2_l, ab_d2_i, ab_d2_o, ex_iconst, ex_bipush, ex_sipush, ex_lconst, ex_ldc, ex_ldc_w, ex_ldc2_w, ex_iadd, ex_isub, ex_imul, ex_iand, ex_ior, ex_ixor, ex_ishl, ex_ishr, ex_iushr, ex_idiv, ex_irem, ex_ladd, ex_lsub, ex_lmul, ex_lor, ex_ldiv, ex_lrem, ex_lshl, ex_lcmp, ex_ineg, ex_lneg, ex_i2l, ex_l2i, ex_i2b, ex_dup, ex_pop, ex_dup2, ex_goto, ex_tableswitch, ex_aaload, ex_ireturn, ex_lreturn, ex_return_, List.map_cons, List.map_nil, List.sum_cons, List.sum_nil, List.drop_succ_cons, List.drop_zero, List.take_succ_cons, List.take_zero, List.reverse_cons, List.reverse_nil, List.nil_append, List.cons_append, List.length_cons, List.length_nil, true_and, and_true, cond_false, cond_true, Bool.false_or, Bool.or_false, Bool.or_true, Bool.true_or, true_or, or_true, false_or, or_false, if_true, if_false, reduceIte, ite_true, ite_false, implies_true, true_implies, false_implies, forall_const, not_true_eq_false, not_false_eq_true, Nat.reduceAdd, Nat.reduceMul, Nat.reduceSub, Nat.reduceBEq, Nat.reduceEqDiff, Nat.reduceLeDiff, Nat.reduceLT, Int.reduceAdd, Int.reduceSub, Int.reduceMul, Int.reduceNeg, Int.reduceToNat, Int.reduceLE, Int.reduceLT, Int.reduceEq, Int.reduceNe, Int.reduceNatCast, Nat.add_zero, Nat.zero_add, reduceCtorEq, Int.reduceNatCast', wp_c, wp_g, e2_ifCond, e2_if_icmp, ↓bq_t, ↓bq_f, ab_br, ↓ab_b1_s, ↓ab_b2_s, ↓ab_l1_s, ↓ab_l2_s, ↓ab_li_s, ↓ab_o1_s, ↓ab_io_s, ↓ab_lo1_s, ↓ab_iio_s, ↓ab_lio_s, ↓ab_cp5_s, moX6_takeEnd, dX6_takeEnd_0, dal_0, dX6_takeEnd_1, dg1_6_25_1, dX6_takeEnd_4, dX6_takeEnd_5, dX6_takeEnd_8, dX6_takeEnd_9, dX6_takeEnd_10, dX6_takeEnd_11, dv1_6_74_1, moX6_advance, dX6_takeEnd_14, dX6_takeEnd_15]
  repeat' (with_reducible (first | apply And.intro | intro _))
  all_goals first | omega | skip
  · rename_i w
    refine r_adv hR (fun g g1 g2 g3 => ?_)
    try simp only [cq_lt, cq_le, cq_gt, cq_ge, cq_eq, cq_r1, cq_r2, ab_r32, ab_r64, ab_go, ab_stp, wp_z, ab_in, ab_rok, ab_wsum, ab_prm, ab_ret, ab_sw, ab_cd, ab_tg, ab_cat_i, ab_cat_l, ab_cat_r, ab_cl_n, ab_cl_i, ab_cl_l, ab_cl_r, ab_f2_0, ab_f2_1, ab_f4_0, ab_f4_1, ab_f4_2, ab_f4_3, ab_op_s, ab_b1_s, ab_b2_s, ab_l1_s, ab_l2_s, ab_li_s, ab_o1_s, ab_io_s, ab_lo1_s, ab_iio_s, ab_lio_s, ab_cp5_s, ab_d2_l, ab_d2_i, ab_d2_o, ex_iconst, ex_bipush, ex_sipush, ex_lconst, ex_ldc, ex_ldc_w, ex_ldc2_w, ex_iadd, ex_isub, ex_imul, ex_iand, ex_ior, ex_ixor, ex_ishl, ex_ishr, ex_iushr, ex_idiv, ex_irem, ex_ladd, ex_lsub, ex_lmul, ex_lor, ex_ldiv, ex_lrem, ex_lshl, ex_lcmp, ex_ineg, ex_lneg, ex_i2l, ex_l2i, ex_i2b, ex_dup, ex_pop, ex_dup2, ex_goto, ex_tableswitch, ex_aaload, ex_ireturn, ex_lreturn, ex_return_, List.map_cons, List.map_nil, List.sum_cons, List.sum_nil, List.drop_succ_cons, List.drop_zero, List.take_succ_cons, List.take_zero, List.reverse_cons, List.reverse_nil, List.nil_append, List.cons_append, List.length_cons, List.length_nil, true_and, and_true, cond_false, cond_true, Bool.false_or, Bool.or_false, Bool.or_true, Bool.true_or, true_or, or_true, false_or, or_false, if_true, if_false, reduceIte, ite_true, ite_false, implies_true, true_implies, false_implies, forall_const, not_true_eq_false, not_false_eq_true, Nat.reduceAdd, Nat.reduceMul, Nat.reduceSub, Nat.reduceBEq, Nat.reduceEqDiff, Nat.reduceLeDiff, Nat.reduceLT, Int.reduceAdd, Int.reduceSub, Int.reduceMul, Int.reduceNeg, Int.reduceToNat, Int.reduceLE, Int.reduceLT, Int.reduceEq, Int.reduceNe, Int.reduceNatCast, Nat.add_zero, Nat.zero_add, reduceCtorEq, Int.reduceNatCast', wp_c, wp_g, e2_ifCond, e2_if_icmp, ↓bq_t, ↓bq_f, ab_br, ↓ab_b1_s, ↓ab_b2_s, ↓ab_l1_s, ↓ab_l2_s, ↓ab_li_s, ↓ab_o1_s, ↓ab_io_s, ↓ab_lo1_s, ↓ab_iio_s, ↓ab_lio_s, ↓ab_cp5_s, moX6_takeEnd, dX6_takeEnd_0, dal_0, dX6_takeEnd_1, dg1_6_25_1, dX6_takeEnd_4, dX6_takeEnd_5, dX6_takeEnd_8, dX6_takeEnd_9, dX6_takeEnd_10, dX6_takeEnd_11, dv1_6_74_1, moX6_advance, dX6_takeEnd_14, dX6_takeEnd_15]
    repeat' (with_reducible (first | apply And.intro | intro _))
    all_goals first | omega | exact h1 g w g1 g3
  · rename_i w
    exact h0 w
/-- a number from lo to hi stands there -/
def zNo (σ : ab_S) (lo hi : Int) : Prop := σ 1 4 = 2 ∧ σ 1 3 - σ 1 5 ≤ 4 ∧ lo ≤ zNm (σ 2) (σ 1 5) (σ 1 3 - σ 1 5).toNat ∧ zNm (σ 2) (σ 1 5) (σ 1 3 - σ 1 5).toNat ≤ hi
theorem zTkn_dg {t : Int → Int} {n p f k b : Int} (h : zTkn t n p f k b) (hk : k = 2) : ∀ i, f ≤ i → i < f + ((b - f).toNat : Int) → zDi (t i) := by
  have q := zTkn_in h
  obtain ⟨h1, -, -, h⟩ := h
  rcases h with h | ⟨h, -⟩ | ⟨h, ⟨h2, h3, -⟩⟩ | h | ⟨h, -⟩
  · omega
  · omega
  · intro i i1 i2
    exact h3 i i1 (by omega)
  · omega
  · omega
set_option maxRecDepth 100000 in
set_option maxHeartbeats 4000000 in
theorem r_takeNumber {σ : ab_S} {lo hi : Int} {K : ab_V → ab_S → Prop} (hR : zRr σ) (hlo : 0 ≤ lo ∧ lo ≤ 99999) (hhi : 0 ≤ hi ∧ hi ≤ 99999)
    (h0 : ∀ g : Int → Int, (∀ k, k ≠ 6 → g k = σ 1 k) → ¬ zNo σ lo hi → (0 ≤ σ 1 6 ∧ σ 1 6 ≤ 9999 → 0 ≤ g 6 ∧ g 6 ≤ 9999) → zRr (ab_set σ 1 g) → K (vI 0) (ab_set σ 1 g))
    (h1 : ∀ g : Int → Int, zNo σ lo hi → zAv σ g → g 6 = zNm (σ 2) (σ 1 5) (σ 1 3 - σ 1 5).toNat → zRr (ab_set σ 1 g) → K (vI 1) (ab_set σ 1 g)) : ab_Runs ab_G1 mdX6_takeNumber [vR 1, vI lo, vI hi] σ K := by
  refine ab_runs mwX6_takeNumber (by decide +kernel) (Nat.le_of_ble_eq_true rfl) (fun G hG => ?_)
  show G 0 [some (vR 1), some (vI lo), some (vI hi), none] [] _
  have q := zRr_in hR
  obtain ⟨ht, p, hp, hk⟩ := id hR
  have hkeep : ∀ g : Int → Int, (∀ k, k ≠ 6 → g k = σ 1 k) → zRr (ab_set σ 1 g) := by
    intro g hg
    refine ⟨?_, p, hp, ?_⟩
    · show zTp8 (σ 2) (g 2)
      rw [hg 2 (by decide)]
      exact ht
    · show zTkn (σ 2) (g 2) p (g 5) (g 4) (g 3)
      rw [hg 2 (by decide), hg 3 (by decide), hg 4 (by decide), hg 5 (by decide)]
      exact hk
  have no : ¬ zNo σ lo hi → K (vI 0) σ := by
    intro z
    have := h0 (σ 1) (fun _ _ => rfl) z (fun z => z) (by rw [ab_set_self]; exact hR)
    rw [ab_set_self] at this
    exact this
  have key : σ 1 4 = 2 → σ 1 3 - σ 1 5 ≤ 4 → ∀ (n : Nat) (i : Nat) (g : Int → Int), σ 1 3 - σ 1 5 - i < n → (i : Int) ≤ σ 1 3 - σ 1 5 → (∀ k, k ≠ 6 → g k = σ 1 k) → g 6 = zNm (σ 2) (σ 1 5) i → G 33 [some (vR 1), some (vI lo), some (vI hi), some (vI (σ 1 5 + i))] [] (ab_set σ 1 g) := by
    intro hk2 h4 n
    induction n with
    | zero => intro i g a1 a2; omega
    | succ n ih =>
      intro i g a1 a2 hg hv
      have e3 : g 3 = σ 1 3 := hg 3 (by decide)
      have e5 : g 5 = σ 1 5 := hg 5 (by decide)
      have hd := zTkn_dg hk hk2
      have hi4 := zNm_4 (t := σ 2) (f := σ 1 5) (n := i) (by omega) (fun j j1 j2 => hd j j1 (by omega))
      have htp : (i : Int) < σ 1 3 - σ 1 5 → 0 ≤ σ 2 (σ 1 5 + i) ∧ σ 2 (σ 1 5 + i) ≤ 255 := fun z => ht.2 _ (by omega) (by omega)
      apply hG [33] 40
      simp only [cq_lt, cq_le, cq_gt, cq_ge, cq_eq, cq_r1, cq_r2, ab_r32, ab_r64, ab_go, ab_stp, wp_z, ab_in, ab_rok, ab_wsum, ab_prm, ab_ret, ab_sw, ab_cd, ab_tg, ab_cat_i, ab_cat_l, ab_cat_r, ab_cl_n, ab_cl_i, ab_cl_l, ab_cl_r, ab_f2_0, ab_f2_1, ab_f4_0, ab_f4_1, ab_f4_2, ab_f4_3, ab_op_s, ab_b1_s, ab_b2_s, ab_l1_s, ab_l2_s, ab_li_s, ab_o1_s, ab_io_s, ab_lo1_s, ab_iio_s, ab_lio_s, ab_cp5_s, ab_d2_l, ab_d2_i, ab_d2_o, ex_iconst, ex_bipush, ex_sipush, ex_lconst, ex_ldc, ex_ldc_w, ex_ldc2_w, ex_iadd, ex_isub, ex_imul, ex_iand, ex_ior, ex_ixor, ex_ishl, ex_ishr, ex_iushr, ex_idiv, ex_irem, ex_ladd, ex_lsub, ex_lmul, ex_lor, ex_ldiv, ex_lrem, ex_lshl, ex_lcmp, ex_ineg, ex_lneg, ex_i2l, ex_l2i, ex_i2b, ex_dup, ex_pop, ex_dup2, ex_goto, ex_tableswitch, ex_aaload, ex_ireturn, ex_lreturn, ex_return_, List.map_cons, List.map_nil, List.sum_cons, List.sum_nil, List.drop_succ_cons, List.drop_zero, List.take_succ_cons, List.take_zero, List.reverse_cons, List.reverse_nil, List.nil_append, List.cons_append, List.length_cons, List.length_nil, true_and, and_true, cond_false, cond_true, Bool.false_or, Bool.or_false, Bool.or_true, Bool.true_or, true_or, or_true, false_or, or_false, if_true, if_false, reduceIte, ite_true, ite_false, implies_true, true_implies, false_implies, forall_const, not_true_eq_false, not_false_eq_true, Nat.reduceAdd, Nat.reduceMul, Nat.reduceSub, Nat.reduceBEq, Nat.reduceEqDiff, Nat.reduceLeDiff, Nat.reduceLT, Int.reduceAdd, Int.reduceSub, Int.reduceMul, Int.reduceNeg, Int.reduceToNat, Int.reduceLE, Int.reduceLT, Int.reduceEq, Int.reduceNe, Int.reduceNatCast, Nat.add_zero, Nat.zero_add, reduceCtorEq, Int.reduceNatCast', wp_c, wp_g, e2_ifCond, e2_if_icmp, ↓bq_t, ↓bq_f, ab_br, ↓ab_b1_s, ↓ab_b2_s, ↓ab_l1_s, ↓ab_l2_s, ↓ab_li_s, ↓ab_o1_s, ↓ab_io_s, ↓ab_lo1_s, ↓ab_iio_s, ↓ab_lio_s, ↓ab_cp5_s, moX6_takeNumber, dX6_takeNumber_0, dal_0, dX6_takeNumber_1, dg1_6_25_1, dX6_takeNumber_4, dX6_takeNumber_5, dX6_takeNumber_8, dX6_takeNumber_9, dg1_6_22_1, dX6_takeNumber_12, dX6_takeNumber_13, dg1_6_28_1, dX6_takeNumber_16, dX6_takeNumber_17, dX6_takeNumber_18, dX6_takeNumber_21, dX6_takeNumber_22, dX6_takeNumber_23, dX6_takeNumber_24, dX6_takeNumber_25, dp1_6_31_1, dX6_takeNumber_28, dX6_takeNumber_29, dX6_takeNumber_32, dis_3, dX6_takeNumber_33, dil_3, dX6_takeNumber_34, dX6_takeNumber_35, dX6_takeNumber_38, dX6_takeNumber_41, dX6_takeNumber_42, dX6_takeNumber_44, dX6_takeNumber_45, dg1_6_31_1, dX6_takeNumber_48, dX6_takeNumber_49, dX6_takeNumber_50, dg1_6_9_1, dX6_takeNumber_53, dX6_takeNumber_54, dX6_takeNumber_55, dX6_takeNumber_56, dX6_takeNumber_58, dX6_takeNumber_59, dX6_takeNumber_62, dinc_3, dX6_takeNumber_65, dX6_takeNumber_68, dX6_takeNumber_69, dX6_takeNumber_72, dil_1, dX6_takeNumber_73, dX6_takeNumber_76, dX6_takeNumber_77, dX6_takeNumber_80, dil_2, dX6_takeNumber_81, dX6_takeNumber_84, dX6_takeNumber_85, dX6_takeNumber_86, dX6_takeNumber_87, dv1_6_74_1, moX6_advance, dX6_takeNumber_90, dX6_takeNumber_91, dal1_2, s1_1, s1_2, ab_up_1, zu_e, e3, e5, hv]
      repeat' (with_reducible (first | apply And.intro | intro _))
      all_goals first | omega | skip
      · rename_i w1 w2
        have ei : (σ 1 3 - σ 1 5).toNat = i := by omega
        exact h0 g hg (fun z => by have := z.2.2.1; rw [ei] at this; omega) (fun _ => by omega) (hkeep g hg)
      · rename_i w1 w2 w3
        have ei : (σ 1 3 - σ 1 5).toNat = i := by omega
        refine r_adv (hkeep g hg) (fun g' g1 g2 g3 => ?_)
        rw [ab_set_set] at g3
        try simp only [cq_lt, cq_le, cq_gt, cq_ge, cq_eq, cq_r1, cq_r2, ab_r32, ab_r64, ab_go, ab_stp, wp_z, ab_in, ab_rok, ab_wsum, ab_prm, ab_ret, ab_sw, ab_cd, ab_tg, ab_cat_i, ab_cat_l, ab_cat_r, ab_cl_n, ab_cl_i, ab_cl_l, ab_cl_r, ab_f2_0, ab_f2_1, ab_f4_0, ab_f4_1, ab_f4_2, ab_f4_3, ab_op_s, ab_b1_s, ab_b2_s, ab_l1_s, ab_l2_s, ab_li_s, ab_o1_s, ab_io_s, ab_lo1_s, ab_iio_s, ab_lio_s, ab_cp5_s, ab_d2_l, ab_d2_i, ab_d2_o, ex_iconst, ex_bipush, ex_sipush, ex_lconst, ex_ldc, ex_ldc_w, ex_ldc2_w, ex_iadd, ex_isub, ex_imul, ex_iand, ex_ior, ex_ixor, ex_ishl, ex_ishr, ex_iushr, ex_idiv, ex_irem, ex_ladd, ex_lsub, ex_lmul, ex_lor, ex_ldiv, ex_lrem, ex_lshl, ex_lcmp, ex_ineg, ex_lneg, ex_i2l, ex_l2i, ex_i2b, ex_dup, ex_pop, ex_dup2, ex_goto, ex_tableswitch, ex_aaload, ex_ireturn, ex_lreturn, ex_return_, List.map_cons, List.map_nil, List.sum_cons, List.sum_nil, List.drop_succ_cons, List.drop_zero, List.take_succ_cons, List.take_zero, List.reverse_cons, List.reverse_nil, List.nil_append, List.cons_append, List.length_cons, List.length_nil, true_and, and_true, cond_false, cond_true, Bool.false_or, Bool.or_false, Bool.or_true, Bool.true_or, true_or, or_true, false_or, or_false, if_true, if_false, reduceIte, ite_true, ite_false, implies_true, true_implies, false_implies, forall_const, not_true_eq_false, not_false_eq_true, Nat.reduceAdd, Nat.reduceMul, Nat.reduceSub, Nat.reduceBEq, Nat.reduceEqDiff, Nat.reduceLeDiff, Nat.reduceLT, Int.reduceAdd, Int.reduceSub, Int.reduceMul, Int.reduceNeg, Int.reduceToNat, Int.reduceLE, Int.reduceLT, Int.reduceEq, Int.reduceNe, Int.reduceNatCast, Nat.add_zero, Nat.zero_add, reduceCtorEq, Int.reduceNatCast', wp_c, wp_g, e2_ifCond, e2_if_icmp, ↓bq_t, ↓bq_f, ab_br, ↓ab_b1_s, ↓ab_b2_s, ↓ab_l1_s, ↓ab_l2_s, ↓ab_li_s, ↓ab_o1_s, ↓ab_io_s, ↓ab_lo1_s, ↓ab_iio_s, ↓ab_lio_s, ↓ab_cp5_s, moX6_takeNumber, dX6_takeNumber_0, dal_0, dX6_takeNumber_1, dg1_6_25_1, dX6_takeNumber_4, dX6_takeNumber_5, dX6_takeNumber_8, dX6_takeNumber_9, dg1_6_22_1, dX6_takeNumber_12, dX6_takeNumber_13, dg1_6_28_1, dX6_takeNumber_16, dX6_takeNumber_17, dX6_takeNumber_18, dX6_takeNumber_21, dX6_takeNumber_22, dX6_takeNumber_23, dX6_takeNumber_24, dX6_takeNumber_25, dp1_6_31_1, dX6_takeNumber_28, dX6_takeNumber_29, dX6_takeNumber_32, dis_3, dX6_takeNumber_33, dil_3, dX6_takeNumber_34, dX6_takeNumber_35, dX6_takeNumber_38, dX6_takeNumber_41, dX6_takeNumber_42, dX6_takeNumber_44, dX6_takeNumber_45, dg1_6_31_1, dX6_takeNumber_48, dX6_takeNumber_49, dX6_takeNumber_50, dg1_6_9_1, dX6_takeNumber_53, dX6_takeNumber_54, dX6_takeNumber_55, dX6_takeNumber_56, dX6_takeNumber_58, dX6_takeNumber_59, dX6_takeNumber_62, dinc_3, dX6_takeNumber_65, dX6_takeNumber_68, dX6_takeNumber_69, dX6_takeNumber_72, dil_1, dX6_takeNumber_73, dX6_takeNumber_76, dX6_takeNumber_77, dX6_takeNumber_80, dil_2, dX6_takeNumber_81, dX6_takeNumber_84, dX6_takeNumber_85, dX6_takeNumber_86, dX6_takeNumber_87, dv1_6_74_1, moX6_advance, dX6_takeNumber_90, dX6_takeNumber_91, dal1_2, ab_set_set]
        repeat' (with_reducible (first | apply And.intro | intro _))
        all_goals first | omega | skip
        have g11 : ∀ k, k ≠ 3 → k ≠ 4 → k ≠ 5 → k ≠ 6 → g' k = g k := g1.1
        have g12 : zTkn (σ 2) (g 2) (g 3) (g' 5) (g' 4) (g' 3) := g1.2
        rw [hg 2 (by decide), hg 3 (by decide)] at g12
        have g26 : g' 6 = g 6 := g2
        refine h1 g' ⟨hk2, h4, by rw [ei]; omega, by rw [ei]; omega⟩ ⟨fun k b1 b2 b3 b4 => by rw [g11 k b1 b2 b3 b4, hg k b4], g12⟩ ?_ g3
        rw [g26, hv, ei]
      · rename_i w1 w2 w3
        have ei : (σ 1 3 - σ 1 5).toNat = i := by omega
        exact h0 g hg (fun z => by have := z.2.2.2; rw [ei] at this; omega) (fun _ => by omega) (hkeep g hg)
      · rename_i w1
        have := ih (i + 1) (zu g 6 (10 * zNm (σ 2) (σ 1 5) i + σ 2 (σ 1 5 + i) - 48)) (by omega) (by omega) (fun k b1 => by rw [zu_ne _ _ b1]; exact hg k b1) (by rw [zu_at]; rfl)
        rw [show σ 1 5 + ((i + 1 : Nat) : Int) = σ 1 5 + (i : Int) + 1 by omega] at this
        exact this
  apply hG [33] 40
  simp only [cq_lt, cq_le, cq_gt, cq_ge, cq_eq, cq_r1, cq_r2, ab_r32, ab_r64, ab_go, ab_stp, wp_z, ab_in, ab_rok, ab_wsum, ab_prm, ab_ret, ab_sw, ab_cd, ab_tg, ab_cat_i, ab_cat_l, ab_cat_r, ab_cl_n, ab_cl_i, ab_cl_l, ab_cl_r, ab_f2_0, ab_f2_1, ab_f4_0, ab_f4_1, ab_f4_2, ab_f4_3, ab_op_s, ab_b1_s, ab_b2_s, ab_l1_s, ab_l2_s, ab_li_s, ab_o1_s, ab_io_s, ab_lo1_s, ab_iio_s, ab_lio_s, ab_cp5_s, ab_d2_l, ab_d2_i, ab_d2_o, ex_iconst, ex_bipush, ex_sipush, ex_lconst, ex_ldc, ex_ldc_w, ex_ldc2_w, ex_iadd, ex_isub, ex_imul, ex_iand, ex_ior, ex_ixor, ex_ishl, ex_ishr, ex_iushr, ex_idiv, ex_irem, ex_ladd, ex_lsub, ex_lmul, ex_lor, ex_ldiv, ex_lrem, ex_lshl, ex_lcmp, ex_ineg, ex_lneg, ex_i2l, ex_l2i, ex_i2b, ex_dup, ex_pop, ex_dup2, ex_goto, ex_tableswitch, ex_aaload, ex_ireturn, ex_lreturn, ex_return_, List.map_cons, List.map_nil, List.sum_cons, List.sum_nil, List.drop_succ_cons, List.drop_zero, List.take_succ_cons, List.take_zero, List.reverse_cons, List.reverse_nil, List.nil_append, List.cons_append, List.length_cons, List.length_nil, true_and, and_true, cond_false, cond_true, Bool.false_or, Bool.or_false, Bool.or_true, Bool.true_or, true_or, or_true, false_or, or_false, if_true, if_false, reduceIte, ite_true, ite_false, implies_true, true_implies, false_implies, forall_const, not_true_eq_false, not_false_eq_true, Nat.reduceAdd, Nat.reduceMul, Nat.reduceSub, Nat.reduceBEq, Nat.reduceEqDiff, Nat.reduceLeDiff, Nat.reduceLT, Int.reduceAdd, Int.reduceSub, Int.reduceMul, Int.reduceNeg, Int.reduceToNat, Int.reduceLE, Int.reduceLT, Int.reduceEq, Int.reduceNe, Int.reduceNatCast, Nat.add_zero, Nat.zero_add, reduceCtorEq, Int.reduceNatCast', wp_c, wp_g, e2_ifCond, e2_if_icmp, ↓bq_t, ↓bq_f, ab_br, ↓ab_b1_s, ↓ab_b2_s, ↓ab_l1_s, ↓ab_l2_s, ↓ab_li_s, ↓ab_o1_s, ↓ab_io_s, ↓ab_lo1_s, ↓ab_iio_s, ↓ab_lio_s, ↓ab_cp5_s, moX6_takeNumber, dX6_takeNumber_0, dal_0, dX6_takeNumber_1, dg1_6_25_1, dX6_takeNumber_4, dX6_takeNumber_5, dX6_takeNumber_8, dX6_takeNumber_9, dg1_6_22_1, dX6_takeNumber_12, dX6_takeNumber_13, dg1_6_28_1, dX6_takeNumber_16, dX6_takeNumber_17, dX6_takeNumber_18, dX6_takeNumber_21, dX6_takeNumber_22, dX6_takeNumber_23, dX6_takeNumber_24, dX6_takeNumber_25, dp1_6_31_1, dX6_takeNumber_28, dX6_takeNumber_29, dX6_takeNumber_32, dis_3, dX6_takeNumber_33, dil_3, dX6_takeNumber_34, dX6_takeNumber_35, dX6_takeNumber_38, dX6_takeNumber_41, dX6_takeNumber_42, dX6_takeNumber_44, dX6_takeNumber_45, dg1_6_31_1, dX6_takeNumber_48, dX6_takeNumber_49, dX6_takeNumber_50, dg1_6_9_1, dX6_takeNumber_53, dX6_takeNumber_54, dX6_takeNumber_55, dX6_takeNumber_56, dX6_takeNumber_58, dX6_takeNumber_59, dX6_takeNumber_62, dinc_3, dX6_takeNumber_65, dX6_takeNumber_68, dX6_takeNumber_69, dX6_takeNumber_72, dil_1, dX6_takeNumber_73, dX6_takeNumber_76, dX6_takeNumber_77, dX6_takeNumber_80, dil_2, dX6_takeNumber_81, dX6_takeNumber_84, dX6_takeNumber_85, dX6_takeNumber_86, dX6_takeNumber_87, dv1_6_74_1, moX6_advance, dX6_takeNumber_90, dX6_takeNumber_91, dal1_2]
  repeat' (with_reducible (first | apply And.intro | intro _))
  all_goals first | omega | skip
  · exact no (fun z => by have := z.1; omega)
  · rename_i w1 w2
    have := key (by omega) (by omega) 901 0 (zu (σ 1) 6 0) (by omega) (by omega) (fun k b1 => by rw [zu_ne _ _ b1]) (by rw [zu_at]; rfl)
    rw [ab_up_eq]
    rw [show σ 1 5 + ((0 : Nat) : Int) = σ 1 5 by omega] at this
    exact this
  · exact no (fun z => by have := z.2.1; omega)
set_option maxRecDepth 100000 in
set_option maxHeartbeats 4000000 in
theorem r_begin {σ : ab_S} {n : Int} {K : ab_V → ab_S → Prop} (hn : 0 ≤ n ∧ n ≤ σ 1 1) (ht : zTp8 (σ 2) (σ 1 1)) (h : ∀ g : Int → Int, g 1 = σ 1 1 → g 2 = n → g 6 = σ 1 6 → zTkn (σ 2) n 0 (g 5) (g 4) (g 3) → zRr (ab_set σ 1 g) → K (vI 0) (ab_set σ 1 g)) : ab_Runs ab_G1 mdX6_begin [vR 1, vI n] σ K := by
  refine ab_runs mwX6_begin (by decide +kernel) (Nat.le_of_ble_eq_true rfl) (fun G hG => ?_)
  show G 0 [some (vR 1), some (vI n)] [] _
  have t1 := ht.1
  have em : min n (σ 1 1) = n := Int.min_eq_left hn.2
  have ht2 : zTp8 (σ 2) n := ⟨by omega, fun i i1 i2 => ht.2 i i1 (by omega)⟩
  apply hG [9999] 20
  simp only [cq_lt, cq_le, cq_gt, cq_ge, cq_eq, cq_r1, cq_r2, ab_r32, ab_r64, ab_go, ab_stp, wp_z, ab_in, ab_rok, ab_wsum, ab_prm, ab_ret, ab_sw, ab_cd, ab_tg, ab_cat_i, ab_cat_l, ab_cat_r, ab_cl_n, ab_cl_i, ab_cl_l, ab_cl_r, ab_f2_0, ab_f2_1, ab_f4_0, ab_f4_1, ab_f4_2, ab_f4_3, ab_op_s, ab_b1_s, ab_b2_s, ab_l1_s, ab_l2_s, ab_li_s, ab_o1_s, ab_io_s, ab_lo1_s, ab_iio_s, ab_lio_s, ab_cp5_s, ab_d2_l, ab_d2_i, ab_d2_o, ex_iconst, ex_bipush, ex_sipush, ex_lconst, ex_ldc, ex_ldc_w, ex_ldc2_w, ex_iadd, ex_isub, ex_imul, ex_iand, ex_ior, ex_ixor, ex_ishl, ex_ishr, ex_iushr, ex_idiv, ex_irem, ex_ladd, ex_lsub, ex_lmul, ex_lor, ex_ldiv, ex_lrem, ex_lshl, ex_lcmp, ex_ineg, ex_lneg, ex_i2l, ex_l2i, ex_i2b, ex_dup, ex_pop, ex_dup2, ex_goto, ex_tableswitch, ex_aaload, ex_ireturn, ex_lreturn, ex_return_, List.map_cons, List.map_nil, List.sum_cons, List.sum_nil, List.drop_succ_cons, List.drop_zero, List.take_succ_cons, List.take_zero, List.reverse_cons, List.reverse_nil, List.nil_append, List.cons_append, List.length_cons, List.length_nil, true_and, and_true, cond_false, cond_true, Bool.false_or, Bool.or_false, Bool.or_true, Bool.true_or, true_or, or_true, false_or, or_false, if_true, if_false, reduceIte, ite_true, ite_false, implies_true, true_implies, false_implies, forall_const, not_true_eq_false, not_false_eq_true, Nat.reduceAdd, Nat.reduceMul, Nat.reduceSub, Nat.reduceBEq, Nat.reduceEqDiff, Nat.reduceLeDiff, Nat.reduceLT, Int.reduceAdd, Int.reduceSub, Int.reduceMul, Int.reduceNeg, Int.reduceToNat, Int.reduceLE, Int.reduceLT, Int.reduceEq, Int.reduceNe, Int.reduceNatCast, Nat.add_zero, Nat.zero_add, reduceCtorEq, Int.reduceNatCast', wp_c, wp_g, e2_ifCond, e2_if_icmp, ↓bq_t, ↓bq_f, ab_br, ↓ab_b1_s, ↓ab_b2_s, ↓ab_l1_s, ↓ab_l2_s, ↓ab_li_s, ↓ab_o1_s, ↓ab_io_s, ↓ab_lo1_s, ↓ab_iio_s, ↓ab_lio_s, ↓ab_cp5_s, moX6_begin, dX6_begin_0, dal_0, dX6_begin_1, dil_1, dX6_begin_2, dX6_begin_3, dg1_6_15_1, dX6_begin_6, dq6_68, dX6_begin_9, dp1_6_19_1, dX6_begin_12, dX6_begin_13, dX6_begin_14, dp1_6_22_1, dX6_begin_17, dX6_begin_18, dv1_6_74_1, moX6_advance, dX6_begin_21, em]
  repeat' (with_reducible (first | apply And.intro | intro _))
  all_goals first | omega | skip
  rw [ab_up_eq σ, ab_up_set]
  refine r_advance (σ := ab_set σ 1 (zu (zu (σ 1) 2 n) 3 0)) ht2 ⟨by show (0 : Int) ≤ 0; omega, hn.1⟩ (fun g g1 g2 => ?_)
  try simp only [cq_lt, cq_le, cq_gt, cq_ge, cq_eq, cq_r1, cq_r2, ab_r32, ab_r64, ab_go, ab_stp, wp_z, ab_in, ab_rok, ab_wsum, ab_prm, ab_ret, ab_sw, ab_cd, ab_tg, ab_cat_i, ab_cat_l, ab_cat_r, ab_cl_n, ab_cl_i, ab_cl_l, ab_cl_r, ab_f2_0, ab_f2_1, ab_f4_0, ab_f4_1, ab_f4_2, ab_f4_3, ab_op_s, ab_b1_s, ab_b2_s, ab_l1_s, ab_l2_s, ab_li_s, ab_o1_s, ab_io_s, ab_lo1_s, ab_iio_s, ab_lio_s, ab_cp5_s, ab_d2_l, ab_d2_i, ab_d2_o, ex_iconst, ex_bipush, ex_sipush, ex_lconst, ex_ldc, ex_ldc_w, ex_ldc2_w, ex_iadd, ex_isub, ex_imul, ex_iand, ex_ior, ex_ixor, ex_ishl, ex_ishr, ex_iushr, ex_idiv, ex_irem, ex_ladd, ex_lsub, ex_lmul, ex_lor, ex_ldiv, ex_lrem, ex_lshl, ex_lcmp, ex_ineg, ex_lneg, ex_i2l, ex_l2i, ex_i2b, ex_dup, ex_pop, ex_dup2, ex_goto, ex_tableswitch, ex_aaload, ex_ireturn, ex_lreturn, ex_return_, List.map_cons, List.map_nil, List.sum_cons, List.sum_nil, List.drop_succ_cons, List.drop_zero, List.take_succ_cons, List.take_zero, List.reverse_cons, List.reverse_nil, List.nil_append, List.cons_append, List.length_cons, List.length_nil, true_and, and_true, cond_false, cond_true, Bool.false_or, Bool.or_false, Bool.or_true, Bool.true_or, true_or, or_true, false_or, or_false, if_true, if_false, reduceIte, ite_true, ite_false, implies_true, true_implies, false_implies, forall_const, not_true_eq_false, not_false_eq_true, Nat.reduceAdd, Nat.reduceMul, Nat.reduceSub, Nat.reduceBEq, Nat.reduceEqDiff, Nat.reduceLeDiff, Nat.reduceLT, Int.reduceAdd, Int.reduceSub, Int.reduceMul, Int.reduceNeg, Int.reduceToNat, Int.reduceLE, Int.reduceLT, Int.reduceEq, Int.reduceNe, Int.reduceNatCast, Nat.add_zero, Nat.zero_add, reduceCtorEq, Int.reduceNatCast', wp_c, wp_g, e2_ifCond, e2_if_icmp, ↓bq_t, ↓bq_f, ab_br, ↓ab_b1_s, ↓ab_b2_s, ↓ab_l1_s, ↓ab_l2_s, ↓ab_li_s, ↓ab_o1_s, ↓ab_io_s, ↓ab_lo1_s, ↓ab_iio_s, ↓ab_lio_s, ↓ab_cp5_s, moX6_begin, dX6_begin_0, dal_0, dX6_begin_1, dil_1, dX6_begin_2, dX6_begin_3, dg1_6_15_1, dX6_begin_6, dq6_68, dX6_begin_9, dp1_6_19_1, dX6_begin_12, dX6_begin_13, dX6_begin_14, dp1_6_22_1, dX6_begin_17, dX6_begin_18, dv1_6_74_1, moX6_advance, dX6_begin_21, ab_set_set]
  have g12 : g 2 = n := g1 2 (by decide) (by decide) (by decide)
  have g22 : zTkn (σ 2) n 0 (g 5) (g 4) (g 3) := g2
  refine h g (g1 1 (by decide) (by decide) (by decide)) g12 (g1 6 (by decide) (by decide) (by decide)) g22 ⟨?_, 0, by omega, ?_⟩
  · show zTp8 (σ 2) (g 2)
    rw [g12]
    exact ht2
  · show zTkn (σ 2) (g 2) 0 (g 5) (g 4) (g 3)
    rw [g12]
    exact g22
