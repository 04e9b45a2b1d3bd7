-- MODEL: errs, ends, number, words; held against the class's reader
set_option maxRecDepth 100000 in
set_option maxHeartbeats 4000000 in
theorem y_errs {τ : ab_S} {K : ab_V → ab_S → Prop} (hw : τ 0 37 = 0) (h : K (vI 0) (ab_set τ 0 (zu (zu (τ 0) 37 1) 30 (τ 0 33)))) : ab_Runs ab_G2 mdX12_errs [vR 0] τ K := by
  refine ab_runs mwX12_errs (by decide +kernel) (Nat.le_of_ble_eq_true rfl) (fun G hG => ?_)
  show G 0 [some (vR 0)] [] _
  have e : ab_up (ab_up τ 0 37 1) 0 30 (ab_up τ 0 37 1 0 33) = ab_set τ 0 (zu (zu (τ 0) 37 1) 30 (τ 0 33)) := by
    rw [ab_up_eq τ, ab_up_set, ab_set_at]
    rfl
  apply hG [9999] 30
  simp only [cq_lt, cq_le, cq_gt, cq_ge, cq_eq, cq_r1, cq_r2, ab_r32, ab_r64, ab_go, ab_stp, wp_z, ab_in, ab_rok, ab_wsum, ab_prm, ab_ret, ab_sw, ab_cd, ab_tg, ab_cat_i, ab_cat_l, ab_cat_r, ab_cl_n, ab_cl_i, ab_cl_l, ab_cl_r, ab_f2_0, ab_f2_1, ab_f4_0, ab_f4_1, ab_f4_2, ab_f4_3, ab_op_s, ab_b1_s, ab_b2_s, ab_l1_s, ab_l2_s, ab_li_s, ab_o1_s, ab_io_s, ab_lo1_s, ab_iio_s, ab_lio_s, ab_cp5_s, ab_d2_l, ab_d2_i, ab_d2_o, ex_iconst, ex_bipush, ex_sipush, ex_lconst, ex_ldc, ex_ldc_w, ex_ldc2_w, ex_iadd, ex_isub, ex_imul, ex_iand, ex_ior, ex_ixor, ex_ishl, ex_ishr, ex_iushr, ex_idiv, ex_irem, ex_ladd, ex_lsub, ex_lmul, ex_lor, ex_ldiv, ex_lrem, ex_lshl, ex_lcmp, ex_ineg, ex_lneg, ex_i2l, ex_l2i, ex_i2b, ex_dup, ex_pop, ex_dup2, ex_goto, ex_tableswitch, ex_aaload, ex_ireturn, ex_lreturn, ex_return_, List.map_cons, List.map_nil, List.sum_cons, List.sum_nil, List.drop_succ_cons, List.drop_zero, List.take_succ_cons, List.take_zero, List.reverse_cons, List.reverse_nil, List.nil_append, List.cons_append, List.length_cons, List.length_nil, true_and, and_true, cond_false, cond_true, Bool.false_or, Bool.or_false, Bool.or_true, Bool.true_or, true_or, or_true, false_or, or_false, if_true, if_false, reduceIte, ite_true, ite_false, implies_true, true_implies, false_implies, forall_const, not_true_eq_false, not_false_eq_true, Nat.reduceAdd, Nat.reduceMul, Nat.reduceSub, Nat.reduceBEq, Nat.reduceEqDiff, Nat.reduceLeDiff, Nat.reduceLT, Int.reduceAdd, Int.reduceSub, Int.reduceMul, Int.reduceNeg, Int.reduceToNat, Int.reduceLE, Int.reduceLT, Int.reduceEq, Int.reduceNe, Int.reduceNatCast, Nat.add_zero, Nat.zero_add, reduceCtorEq, Int.reduceNatCast', wp_c, wp_g, e2_ifCond, e2_if_icmp, ↓bq_t, ↓bq_f, ab_br, ↓ab_b1_s, ↓ab_b2_s, ↓ab_l1_s, ↓ab_l2_s, ↓ab_li_s, ↓ab_o1_s, ↓ab_io_s, ↓ab_lo1_s, ↓ab_iio_s, ↓ab_lio_s, ↓ab_cp5_s, moX12_errs, dX12_errs_0, dal_0, dX12_errs_1, dg2_12_227_0, dX12_errs_4, dX12_errs_7, dX12_errs_8, dX12_errs_9, dX12_errs_10, dp2_12_227_0, dX12_errs_13, dX12_errs_14, dX12_errs_15, dg2_12_201_0, dX12_errs_18, dp2_12_70_0, dX12_errs_21, hw]
  repeat' (with_reducible (first | apply And.intro | intro _))
  all_goals first | omega | skip
  rw [e]
  exact h
set_option maxRecDepth 100000 in
set_option maxHeartbeats 4000000 in
theorem y_errs1 {τ : ab_S} {K : ab_V → ab_S → Prop} (hw : τ 0 37 = 1) (h : K (vI 0) τ) : ab_Runs ab_G2 mdX12_errs [vR 0] τ K := by
  refine ab_runs mwX12_errs (by decide +kernel) (Nat.le_of_ble_eq_true rfl) (fun G hG => ?_)
  show G 0 [some (vR 0)] [] _
  apply hG [9999] 30
  simp only [cq_lt, cq_le, cq_gt, cq_ge, cq_eq, cq_r1, cq_r2, ab_r32, ab_r64, ab_go, ab_stp, wp_z, ab_in, ab_rok, ab_wsum, ab_prm, ab_ret, ab_sw, ab_cd, ab_tg, ab_cat_i, ab_cat_l, ab_cat_r, ab_cl_n, ab_cl_i, ab_cl_l, ab_cl_r, ab_f2_0, ab_f2_1, ab_f4_0, ab_f4_1, ab_f4_2, ab_f4_3, ab_op_s, ab_b1_s, ab_b2_s, ab_l1_s, ab_l2_s, ab_li_s, ab_o1_s, ab_io_s, ab_lo1_s, ab_iio_s, ab_lio_s, ab_cp5_s, ab_d2_l, ab_d2_i, ab_d2_o, ex_iconst, ex_bipush, ex_sipush, ex_lconst, ex_ldc, ex_ldc_w, ex_ldc2_w, ex_iadd, ex_isub, ex_imul, ex_iand, ex_ior, ex_ixor, ex_ishl, ex_ishr, ex_iushr, ex_idiv, ex_irem, ex_ladd, ex_lsub, ex_lmul, ex_lor, ex_ldiv, ex_lrem, ex_lshl, ex_lcmp, ex_ineg, ex_lneg, ex_i2l, ex_l2i, ex_i2b, ex_dup, ex_pop, ex_dup2, ex_goto, ex_tableswitch, ex_aaload, ex_ireturn, ex_lreturn, ex_return_, List.map_cons, List.map_nil, List.sum_cons, List.sum_nil, List.drop_succ_cons, List.drop_zero, List.take_succ_cons, List.take_zero, List.reverse_cons, List.reverse_nil, List.nil_append, List.cons_append, List.length_cons, List.length_nil, true_and, and_true, cond_false, cond_true, Bool.false_or, Bool.or_false, Bool.or_true, Bool.true_or, true_or, or_true, false_or, or_false, if_true, if_false, reduceIte, ite_true, ite_false, implies_true, true_implies, false_implies, forall_const, not_true_eq_false, not_false_eq_true, Nat.reduceAdd, Nat.reduceMul, Nat.reduceSub, Nat.reduceBEq, Nat.reduceEqDiff, Nat.reduceLeDiff, Nat.reduceLT, Int.reduceAdd, Int.reduceSub, Int.reduceMul, Int.reduceNeg, Int.reduceToNat, Int.reduceLE, Int.reduceLT, Int.reduceEq, Int.reduceNe, Int.reduceNatCast, Nat.add_zero, Nat.zero_add, reduceCtorEq, Int.reduceNatCast', wp_c, wp_g, e2_ifCond, e2_if_icmp, ↓bq_t, ↓bq_f, ab_br, ↓ab_b1_s, ↓ab_b2_s, ↓ab_l1_s, ↓ab_l2_s, ↓ab_li_s, ↓ab_o1_s, ↓ab_io_s, ↓ab_lo1_s, ↓ab_iio_s, ↓ab_lio_s, ↓ab_cp5_s, moX12_errs, dX12_errs_0, dal_0, dX12_errs_1, dg2_12_227_0, dX12_errs_4, dX12_errs_7, dX12_errs_8, dX12_errs_9, dX12_errs_10, dp2_12_227_0, dX12_errs_13, dX12_errs_14, dX12_errs_15, dg2_12_201_0, dX12_errs_18, dp2_12_70_0, dX12_errs_21, hw]
  repeat' (with_reducible (first | apply And.intro | intro _))
  all_goals first | omega | exact h
theorem zCd7_inj {t s : Int → Int} {f e : Int} : ∀ {n m : Nat}, (∀ i, f ≤ i → i < f + n → zLtr (t i)) → (∀ i, e ≤ i → i < e + m → zLtr (s i)) → zCd7 t f n = zCd7 s e m → n = m ∧ ∀ i : Nat, i < n → t (f + i) = s (e + i)
  | 0, 0, _, _, _ => ⟨rfl, fun i h => absurd h (by omega)⟩
  | 0, m + 1, _, h2, h => by
    have := (zCd7_0 h2).2 (by omega)
    rw [← h] at this
    simp [zCd7] at this
  | n + 1, 0, h1, _, h => by
    have := (zCd7_0 h1).2 (by omega)
    rw [h] at this
    simp [zCd7] at this
  | n + 1, m + 1, h1, h2, h => by
    have a := h1 (f + n) (by omega) (by omega)
    have b := h2 (e + m) (by omega) (by omega)
    unfold zLtr at a b
    rw [zCd7, zCd7] at h
    have ih := zCd7_inj (t := t) (s := s) (f := f) (e := e) (n := n) (m := m) (fun i i1 i2 => h1 i i1 (by omega)) (fun i i1 i2 => h2 i i1 (by omega)) (by omega)
    obtain ⟨rfl, ih⟩ := ih
    refine ⟨rfl, fun i hi => ?_⟩
    by_cases q : i = n
    · rw [q]
      omega
    · exact ih i (by omega)
theorem zCd7_congr {t s : Int → Int} {f e : Int} : ∀ {n : Nat}, (∀ i : Nat, i < n → t (f + i) = s (e + i)) → zCd7 t f n = zCd7 s e n
  | 0, _ => rfl
  | n + 1, h => by
    rw [zCd7, zCd7, zCd7_congr (n := n) (fun i hi => h i (by omega)), h n (by omega)]
/-- the codes of the constant texts -/
def zWc : List Int := [51382989, 232546955, 243059, 283616147, 388708, 168755, 1253, 12387713, 1428746, 13802, 847604, 380396, 307058, 8863997]
theorem zWc_ok : ∀ i : Nat, i < 14 → zCd7 (fun j => zTx i j.toNat) 0 (ab_sl.getD i 0) = zWc.getD i 0 := by decide +kernel
theorem zSl_6 : ∀ i : Nat, i < 14 → 1 ≤ ab_sl.getD i 0 ∧ ab_sl.getD i 0 ≤ 6 := by decide +kernel
theorem zWc_in : ∀ i : Nat, i < 14 → 0 < zWc.getD i 0 := by decide +kernel
/-- class and model stand at the same token -/
def yAt (ω τ : ab_S) : Prop := zRr ω ∧ yTp τ (ω 2) ∧ τ 0 31 = ω 1 2 ∧ τ 0 32 = ω 1 3 ∧ τ 0 33 = ω 1 5 ∧ yTok (ω 2) (ω 1 5) (ω 1 4) (ω 1 3) (τ 0 34) (τ 0 35) (τ 0 36)
theorem zTkn_lt {t : Int → Int} {n p f k b : Int} (h : zTkn t n p f k b) (hk : k = 1) : ∀ i, f ≤ i → i < f + ((b - f).toNat : Int) → zLtr (t i) := by
  have q := zTkn_in h
  obtain ⟨h1, -, -, h⟩ := h
  rcases h with h | ⟨h, ⟨h2, h3, -⟩⟩ | ⟨h, -⟩ | h | ⟨h, -⟩
  · omega
  · intro i i1 i2
    exact h3 i i1 (by omega)
  · omega
  · omega
  · omega
/-- a word of at most six letters: the model's text is its code -/
theorem yAt_tx {ω τ : ab_S} (h : yAt ω τ) : (ω 1 4 = 1 ∧ ω 1 3 - ω 1 5 ≤ 6 ∧ τ 0 34 = 1 ∧ τ 0 36 = zCd7 (ω 2) (ω 1 5) (ω 1 3 - ω 1 5).toNat ∧ 0 < τ 0 36 ∧ τ 0 36 < 387420489) ∨ ((ω 1 4 = 1 → 6 < ω 1 3 - ω 1 5) ∧ τ 0 36 = -1 ∧ (τ 0 34 = 1 → ω 1 4 = 1)) := by
  obtain ⟨⟨-, p, hp, hk⟩, -, -, -, -, ht⟩ := h
  have q := zTkn_in hk
  rcases ht with ⟨a, b, c, d⟩ | ⟨a, b, c, d, e⟩ | ⟨a, b, c, d, e⟩ | ⟨a, b, c, d⟩ | ⟨a, b, c, d⟩ | ⟨a, b, c, d⟩
  · right; omega
  · by_cases z : ω 1 3 - ω 1 5 ≤ 6
    · left
      have l := zTkn_lt hk a
      have l0 := (zCd7_0 l).2 (by omega)
      have d := d z
      refine ⟨a, z, b, d, by rw [d]; exact l0, ?_⟩
      have up : ∀ n : Nat, n ≤ (ω 1 3 - ω 1 5).toNat → zCd7 (ω 2) (ω 1 5) n < 27 ^ n := by
        intro n
        induction n with
        | zero => intro _; simp [zCd7]
        | succ n ih =>
          intro hn
          have ih := ih (by omega)
          have x := l (ω 1 5 + n) (by omega) (by omega)
          unfold zLtr at x
          rw [zCd7, Int.pow_succ]
          omega
      have u := up _ (Nat.le_refl _)
      have u6 : (27 : Int) ^ (ω 1 3 - ω 1 5).toNat ≤ 387420489 := by
        have h6 : (ω 1 3 - ω 1 5).toNat ≤ 6 := by omega
        have : ∀ n : Nat, n ≤ 6 → (27 : Int) ^ n ≤ 387420489 := by decide
        exact this _ h6
      rw [d]
      omega
    · right
      exact ⟨fun _ => by omega, e (by omega), fun _ => a⟩
  · right; omega
  · right; omega
  · right; omega
  · right; omega
theorem yAt_is {ω τ : ab_S} (h : yAt ω τ) {i : Nat} (hi : i < 14) : zIs ω i ↔ (τ 0 34 = 1 ∧ τ 0 36 = zWc.getD i 0) := by
  have hs := zSl_6 i hi
  have hw := zWc_in i hi
  obtain ⟨⟨-, p, hp, hk⟩, -, -, -, -, -⟩ := id h
  have q := zTkn_in hk
  rcases yAt_tx h with ⟨a, b, c, d, -⟩ | ⟨a, b, c⟩
  · have l := zTkn_lt hk a
    have l2 : ∀ j : Int, 0 ≤ j → j < 0 + ((ab_sl.getD i 0 : Nat) : Int) → zLtr (zTx i j.toNat) := by
      intro j j1 j2
      have := zTx_in i hi j.toNat (by omega)
      exact this
    constructor
    · rintro ⟨z1, z2, z3⟩
      refine ⟨c, ?_⟩
      rw [d, ← zWc_ok i hi, show (ω 1 3 - ω 1 5).toNat = ab_sl.getD i 0 by omega]
      refine zCd7_congr (fun j hj => ?_)
      rw [z3 j hj, show (0 : Int) + j = j by omega, Int.toNat_natCast]
    · rintro ⟨-, z⟩
      rw [d, ← zWc_ok i hi] at z
      obtain ⟨z1, z2⟩ := zCd7_inj l l2 z
      refine ⟨a, by omega, fun j hj => ?_⟩
      have := z2 j (by omega)
      rw [show (0 : Int) + j = j by omega, Int.toNat_natCast] at this
      exact this
  · constructor
    · rintro ⟨z1, z2, z3⟩
      have := a z1
      omega
    · rintro ⟨-, z⟩
      omega
def yWf (x : Int) : Int := if x = 51382989 then 0 else if x = 283616147 then 1 else if x = 388708 then 2 else if x = 168755 then 3 else if x = 1253 then 4 else if x = 232546955 then 5 else if x = 243059 then 6 else if x = 12387713 then 7 else if x = 1428746 then 8 else if x = 13802 then 9 else if x = 847604 then 10 else if x = 380396 then 11 else if x = 307058 then 12 else if x = 8863997 then 13 else -1
set_option maxRecDepth 100000 in
set_option maxHeartbeats 4000000 in
theorem y_wordOf {τ : ab_S} {x : Int} {K : ab_V → ab_S → Prop} (hx : -1 ≤ x ∧ x ≤ 387420489) (h : K (vI (yWf x)) τ) : ab_Runs ab_G2 mdX12_wordOf [vR 0, vJ x] τ K := by
  refine ab_runs mwX12_wordOf (by decide +kernel) (Nat.le_of_ble_eq_true rfl) (fun G hG => ?_)
  show G 0 [some (vR 0), some (vJ x), none] [] _
  by_cases e0 : x = 51382989
  · subst e0
    apply hG [9999] 120
    simp only [cq_lt, cq_le, cq_gt, cq_ge, cq_eq, cq_r1, cq_r2, ab_r32, ab_r64, ab_go, ab_stp, wp_z, ab_in, ab_rok, ab_wsum, ab_prm, ab_ret, ab_sw, ab_cd, ab_tg, ab_cat_i, ab_cat_l, ab_cat_r, ab_cl_n, ab_cl_i, ab_cl_l, ab_cl_r, ab_f2_0, ab_f2_1, ab_f4_0, ab_f4_1, ab_f4_2, ab_f4_3, ab_op_s, ab_b1_s, ab_b2_s, ab_l1_s, ab_l2_s, ab_li_s, ab_o1_s, ab_io_s, ab_lo1_s, ab_iio_s, ab_lio_s, ab_cp5_s, ab_d2_l, ab_d2_i, ab_d2_o, ex_iconst, ex_bipush, ex_sipush, ex_lconst, ex_ldc, ex_ldc_w, ex_ldc2_w, ex_iadd, ex_isub, ex_imul, ex_iand, ex_ior, ex_ixor, ex_ishl, ex_ishr, ex_iushr, ex_idiv, ex_irem, ex_ladd, ex_lsub, ex_lmul, ex_lor, ex_ldiv, ex_lrem, ex_lshl, ex_lcmp, ex_ineg, ex_lneg, ex_i2l, ex_l2i, ex_i2b, ex_dup, ex_pop, ex_dup2, ex_goto, ex_tableswitch, ex_aaload, ex_ireturn, ex_lreturn, ex_return_, List.map_cons, List.map_nil, List.sum_cons, List.sum_nil, List.drop_succ_cons, List.drop_zero, List.take_succ_cons, List.take_zero, List.reverse_cons, List.reverse_nil, List.nil_append, List.cons_append, List.length_cons, List.length_nil, true_and, and_true, cond_false, cond_true, Bool.false_or, Bool.or_false, Bool.or_true, Bool.true_or, true_or, or_true, false_or, or_false, if_true, if_false, reduceIte, ite_true, ite_false, implies_true, true_implies, false_implies, forall_const, not_true_eq_false, not_false_eq_true, Nat.reduceAdd, Nat.reduceMul, Nat.reduceSub, Nat.reduceBEq, Nat.reduceEqDiff, Nat.reduceLeDiff, Nat.reduceLT, Int.reduceAdd, Int.reduceSub, Int.reduceMul, Int.reduceNeg, Int.reduceToNat, Int.reduceLE, Int.reduceLT, Int.reduceEq, Int.reduceNe, Int.reduceNatCast, Nat.add_zero, Nat.zero_add, reduceCtorEq, Int.reduceNatCast', wp_c, wp_g, e2_ifCond, e2_if_icmp, ↓bq_t, ↓bq_f, ab_br, ↓ab_b1_s, ↓ab_b2_s, ↓ab_l1_s, ↓ab_l2_s, ↓ab_li_s, ↓ab_o1_s, ↓ab_io_s, ↓ab_lo1_s, ↓ab_iio_s, ↓ab_lio_s, ↓ab_cp5_s, moX12_wordOf, dX12_wordOf_0, dll_1, dX12_wordOf_1, kx12_231, dX12_wordOf_4, dX12_wordOf_5, dX12_wordOf_8, dX12_wordOf_9, dX12_wordOf_10, dX12_wordOf_11, kx12_233, dX12_wordOf_14, dX12_wordOf_15, dX12_wordOf_18, dX12_wordOf_19, dX12_wordOf_20, dX12_wordOf_21, kx12_235, dX12_wordOf_24, dX12_wordOf_25, dX12_wordOf_28, dX12_wordOf_29, dX12_wordOf_30, dX12_wordOf_31, kx12_237, dX12_wordOf_34, dX12_wordOf_35, dX12_wordOf_38, dX12_wordOf_39, dX12_wordOf_40, dX12_wordOf_41, kx12_239, dX12_wordOf_44, dX12_wordOf_45, dX12_wordOf_48, dX12_wordOf_49, dX12_wordOf_50, dX12_wordOf_51, kx12_241, dX12_wordOf_54, dX12_wordOf_55, dX12_wordOf_58, dX12_wordOf_59, dX12_wordOf_60, dX12_wordOf_61, kx12_243, dX12_wordOf_64, dX12_wordOf_65, dX12_wordOf_68, dX12_wordOf_70, dX12_wordOf_71, dX12_wordOf_72, kx12_245, dX12_wordOf_75, dX12_wordOf_76, dX12_wordOf_79, dX12_wordOf_81, dX12_wordOf_82, dX12_wordOf_83, kx12_247, dX12_wordOf_86, dX12_wordOf_87, dX12_wordOf_90, dX12_wordOf_92, dX12_wordOf_93, dX12_wordOf_94, kx12_249, dX12_wordOf_97, dX12_wordOf_98, dX12_wordOf_101, dX12_wordOf_103, dX12_wordOf_104, dX12_wordOf_105, kx12_251, dX12_wordOf_108, dX12_wordOf_109, dX12_wordOf_112, dX12_wordOf_114, dX12_wordOf_115, dX12_wordOf_116, kx12_253, dX12_wordOf_119, dX12_wordOf_120, dX12_wordOf_123, dX12_wordOf_125, dX12_wordOf_126, dX12_wordOf_127, kx12_255, dX12_wordOf_130, dX12_wordOf_131, dX12_wordOf_134, dX12_wordOf_136, dX12_wordOf_137, dX12_wordOf_138, kx12_257, dX12_wordOf_141, dX12_wordOf_142, dX12_wordOf_145, dX12_wordOf_147, dX12_wordOf_148, dX12_wordOf_149]
    repeat' (with_reducible (first | apply And.intro | intro _))
    all_goals first | omega | exact h
  by_cases e1 : x = 283616147
  · subst e1
    apply hG [9999] 120
    simp only [cq_lt, cq_le, cq_gt, cq_ge, cq_eq, cq_r1, cq_r2, ab_r32, ab_r64, ab_go, ab_stp, wp_z, ab_in, ab_rok, ab_wsum, ab_prm, ab_ret, ab_sw, ab_cd, ab_tg, ab_cat_i, ab_cat_l, ab_cat_r, ab_cl_n, ab_cl_i, ab_cl_l, ab_cl_r, ab_f2_0, ab_f2_1, ab_f4_0, ab_f4_1, ab_f4_2, ab_f4_3, ab_op_s, ab_b1_s, ab_b2_s, ab_l1_s, ab_l2_s, ab_li_s, ab_o1_s, ab_io_s, ab_lo1_s, ab_iio_s, ab_lio_s, ab_cp5_s, ab_d2_l, ab_d2_i, ab_d2_o, ex_iconst, ex_bipush, ex_sipush, ex_lconst, ex_ldc, ex_ldc_w, ex_ldc2_w, ex_iadd, ex_isub, ex_imul, ex_iand, ex_ior, ex_ixor, ex_ishl, ex_ishr, ex_iushr, ex_idiv, ex_irem, ex_ladd, ex_lsub, ex_lmul, ex_lor, ex_ldiv, ex_lrem, ex_lshl, ex_lcmp, ex_ineg, ex_lneg, ex_i2l, ex_l2i, ex_i2b, ex_dup, ex_pop, ex_dup2, ex_goto, ex_tableswitch, ex_aaload, ex_ireturn, ex_lreturn, ex_return_, List.map_cons, List.map_nil, List.sum_cons, List.sum_nil, List.drop_succ_cons, List.drop_zero, List.take_succ_cons, List.take_zero, List.reverse_cons, List.reverse_nil, List.nil_append, List.cons_append, List.length_cons, List.length_nil, true_and, and_true, cond_false, cond_true, Bool.false_or, Bool.or_false, Bool.or_true, Bool.true_or, true_or, or_true, false_or, or_false, if_true, if_false, reduceIte, ite_true, ite_false, implies_true, true_implies, false_implies, forall_const, not_true_eq_false, not_false_eq_true, Nat.reduceAdd, Nat.reduceMul, Nat.reduceSub, Nat.reduceBEq, Nat.reduceEqDiff, Nat.reduceLeDiff, Nat.reduceLT, Int.reduceAdd, Int.reduceSub, Int.reduceMul, Int.reduceNeg, Int.reduceToNat, Int.reduceLE, Int.reduceLT, Int.reduceEq, Int.reduceNe, Int.reduceNatCast, Nat.add_zero, Nat.zero_add, reduceCtorEq, Int.reduceNatCast', wp_c, wp_g, e2_ifCond, e2_if_icmp, ↓bq_t, ↓bq_f, ab_br, ↓ab_b1_s, ↓ab_b2_s, ↓ab_l1_s, ↓ab_l2_s, ↓ab_li_s, ↓ab_o1_s, ↓ab_io_s, ↓ab_lo1_s, ↓ab_iio_s, ↓ab_lio_s, ↓ab_cp5_s, moX12_wordOf, dX12_wordOf_0, dll_1, dX12_wordOf_1, kx12_231, dX12_wordOf_4, dX12_wordOf_5, dX12_wordOf_8, dX12_wordOf_9, dX12_wordOf_10, dX12_wordOf_11, kx12_233, dX12_wordOf_14, dX12_wordOf_15, dX12_wordOf_18, dX12_wordOf_19, dX12_wordOf_20, dX12_wordOf_21, kx12_235, dX12_wordOf_24, dX12_wordOf_25, dX12_wordOf_28, dX12_wordOf_29, dX12_wordOf_30, dX12_wordOf_31, kx12_237, dX12_wordOf_34, dX12_wordOf_35, dX12_wordOf_38, dX12_wordOf_39, dX12_wordOf_40, dX12_wordOf_41, kx12_239, dX12_wordOf_44, dX12_wordOf_45, dX12_wordOf_48, dX12_wordOf_49, dX12_wordOf_50, dX12_wordOf_51, kx12_241, dX12_wordOf_54, dX12_wordOf_55, dX12_wordOf_58, dX12_wordOf_59, dX12_wordOf_60, dX12_wordOf_61, kx12_243, dX12_wordOf_64, dX12_wordOf_65, dX12_wordOf_68, dX12_wordOf_70, dX12_wordOf_71, dX12_wordOf_72, kx12_245, dX12_wordOf_75, dX12_wordOf_76, dX12_wordOf_79, dX12_wordOf_81, dX12_wordOf_82, dX12_wordOf_83, kx12_247, dX12_wordOf_86, dX12_wordOf_87, dX12_wordOf_90, dX12_wordOf_92, dX12_wordOf_93, dX12_wordOf_94, kx12_249, dX12_wordOf_97, dX12_wordOf_98, dX12_wordOf_101, dX12_wordOf_103, dX12_wordOf_104, dX12_wordOf_105, kx12_251, dX12_wordOf_108, dX12_wordOf_109, dX12_wordOf_112, dX12_wordOf_114, dX12_wordOf_115, dX12_wordOf_116, kx12_253, dX12_wordOf_119, dX12_wordOf_120, dX12_wordOf_123, dX12_wordOf_125, dX12_wordOf_126, dX12_wordOf_127, kx12_255, dX12_wordOf_130, dX12_wordOf_131, dX12_wordOf_134, dX12_wordOf_136, dX12_wordOf_137, dX12_wordOf_138, kx12_257, dX12_wordOf_141, dX12_wordOf_142, dX12_wordOf_145, dX12_wordOf_147, dX12_wordOf_148, dX12_wordOf_149]
    repeat' (with_reducible (first | apply And.intro | intro _))
    all_goals first | omega | exact h
  by_cases e2 : x = 388708
  · subst e2
    apply hG [9999] 120
    simp only [cq_lt, cq_le, cq_gt, cq_ge, cq_eq, cq_r1, cq_r2, ab_r32, ab_r64, ab_go, ab_stp, wp_z, ab_in, ab_rok, ab_wsum, ab_prm, ab_ret, ab_sw, ab_cd, ab_tg, ab_cat_i, ab_cat_l, ab_cat_r, ab_cl_n, ab_cl_i, ab_cl_l, ab_cl_r, ab_f2_0, ab_f2_1, ab_f4_0, ab_f4_1, ab_f4_2, ab_f4_3, ab_op_s, ab_b1_s, ab_b2_s, ab_l1_s, ab_l2_s, ab_li_s, ab_o1_s, ab_io_s, ab_lo1_s, ab_iio_s, ab_lio_s, ab_cp5_s, ab_d2_l, ab_d2_i, ab_d2_o, ex_iconst, ex_bipush, ex_sipush, ex_lconst, ex_ldc, ex_ldc_w, ex_ldc2_w, ex_iadd, ex_isub, ex_imul, ex_iand, ex_ior, ex_ixor, ex_ishl, ex_ishr, ex_iushr, ex_idiv, ex_irem, ex_ladd, ex_lsub, ex_lmul, ex_lor, ex_ldiv, ex_lrem, ex_lshl, ex_lcmp, ex_ineg, ex_lneg, ex_i2l, ex_l2i, ex_i2b, ex_dup, ex_pop, ex_dup2, ex_goto, ex_tableswitch, ex_aaload, ex_ireturn, ex_lreturn, ex_return_, List.map_cons, List.map_nil, List.sum_cons, List.sum_nil, List.drop_succ_cons, List.drop_zero, List.take_succ_cons, List.take_zero, List.reverse_cons, List.reverse_nil, List.nil_append, List.cons_append, List.length_cons, List.length_nil, true_and, and_true, cond_false, cond_true, Bool.false_or, Bool.or_false, Bool.or_true, Bool.true_or, true_or, or_true, false_or, or_false, if_true, if_false, reduceIte, ite_true, ite_false, implies_true, true_implies, false_implies, forall_const, not_true_eq_false, not_false_eq_true, Nat.reduceAdd, Nat.reduceMul, Nat.reduceSub, Nat.reduceBEq, Nat.reduceEqDiff, Nat.reduceLeDiff, Nat.reduceLT, Int.reduceAdd, Int.reduceSub, Int.reduceMul, Int.reduceNeg, Int.reduceToNat, Int.reduceLE, Int.reduceLT, Int.reduceEq, Int.reduceNe, Int.reduceNatCast, Nat.add_zero, Nat.zero_add, reduceCtorEq, Int.reduceNatCast', wp_c, wp_g, e2_ifCond, e2_if_icmp, ↓bq_t, ↓bq_f, ab_br, ↓ab_b1_s, ↓ab_b2_s, ↓ab_l1_s, ↓ab_l2_s, ↓ab_li_s, ↓ab_o1_s, ↓ab_io_s, ↓ab_lo1_s, ↓ab_iio_s, ↓ab_lio_s, ↓ab_cp5_s, moX12_wordOf, dX12_wordOf_0, dll_1, dX12_wordOf_1, kx12_231, dX12_wordOf_4, dX12_wordOf_5, dX12_wordOf_8, dX12_wordOf_9, dX12_wordOf_10, dX12_wordOf_11, kx12_233, dX12_wordOf_14, dX12_wordOf_15, dX12_wordOf_18, dX12_wordOf_19, dX12_wordOf_20, dX12_wordOf_21, kx12_235, dX12_wordOf_24, dX12_wordOf_25, dX12_wordOf_28, dX12_wordOf_29, dX12_wordOf_30, dX12_wordOf_31, kx12_237, dX12_wordOf_34, dX12_wordOf_35, dX12_wordOf_38, dX12_wordOf_39, dX12_wordOf_40, dX12_wordOf_41, kx12_239, dX12_wordOf_44, dX12_wordOf_45, dX12_wordOf_48, dX12_wordOf_49, dX12_wordOf_50, dX12_wordOf_51, kx12_241, dX12_wordOf_54, dX12_wordOf_55, dX12_wordOf_58, dX12_wordOf_59, dX12_wordOf_60, dX12_wordOf_61, kx12_243, dX12_wordOf_64, dX12_wordOf_65, dX12_wordOf_68, dX12_wordOf_70, dX12_wordOf_71, dX12_wordOf_72, kx12_245, dX12_wordOf_75, dX12_wordOf_76, dX12_wordOf_79, dX12_wordOf_81, dX12_wordOf_82, dX12_wordOf_83, kx12_247, dX12_wordOf_86, dX12_wordOf_87, dX12_wordOf_90, dX12_wordOf_92, dX12_wordOf_93, dX12_wordOf_94, kx12_249, dX12_wordOf_97, dX12_wordOf_98, dX12_wordOf_101, dX12_wordOf_103, dX12_wordOf_104, dX12_wordOf_105, kx12_251, dX12_wordOf_108, dX12_wordOf_109, dX12_wordOf_112, dX12_wordOf_114, dX12_wordOf_115, dX12_wordOf_116, kx12_253, dX12_wordOf_119, dX12_wordOf_120, dX12_wordOf_123, dX12_wordOf_125, dX12_wordOf_126, dX12_wordOf_127, kx12_255, dX12_wordOf_130, dX12_wordOf_131, dX12_wordOf_134, dX12_wordOf_136, dX12_wordOf_137, dX12_wordOf_138, kx12_257, dX12_wordOf_141, dX12_wordOf_142, dX12_wordOf_145, dX12_wordOf_147, dX12_wordOf_148, dX12_wordOf_149]
    repeat' (with_reducible (first | apply And.intro | intro _))
    all_goals first | omega | exact h
  by_cases e3 : x = 168755
  · subst e3
    apply hG [9999] 120
    simp only [cq_lt, cq_le, cq_gt, cq_ge, cq_eq, cq_r1, cq_r2, ab_r32, ab_r64, ab_go, ab_stp, wp_z, ab_in, ab_rok, ab_wsum, ab_prm, ab_ret, ab_sw, ab_cd, ab_tg, ab_cat_i, ab_cat_l, ab_cat_r, ab_cl_n, ab_cl_i, ab_cl_l, ab_cl_r, ab_f2_0, ab_f2_1, ab_f4_0, ab_f4_1, ab_f4_2, ab_f4_3, ab_op_s, ab_b1_s, ab_b2_s, ab_l1_s, ab_l2_s, ab_li_s, ab_o1_s, ab_io_s, ab_lo1_s, ab_iio_s, ab_lio_s, ab_cp5_s, ab_d2_l, ab_d2_i, ab_d2_o, ex_iconst, ex_bipush, ex_sipush, ex_lconst, ex_ldc, ex_ldc_w, ex_ldc2_w, ex_iadd, ex_isub, ex_imul, ex_iand, ex_ior, ex_ixor, ex_ishl, ex_ishr, ex_iushr, ex_idiv, ex_irem, ex_ladd, ex_lsub, ex_lmul, ex_lor, ex_ldiv, ex_lrem, ex_lshl, ex_lcmp, ex_ineg, ex_lneg, ex_i2l, ex_l2i, ex_i2b, ex_dup, ex_pop, ex_dup2, ex_goto, ex_tableswitch, ex_aaload, ex_ireturn, ex_lreturn, ex_return_, List.map_cons, List.map_nil, List.sum_cons, List.sum_nil, List.drop_succ_cons, List.drop_zero, List.take_succ_cons, List.take_zero, List.reverse_cons, List.reverse_nil, List.nil_append, List.cons_append, List.length_cons, List.length_nil, true_and, and_true, cond_false, cond_true, Bool.false_or, Bool.or_false, Bool.or_true, Bool.true_or, true_or, or_true, false_or, or_false, if_true, if_false, reduceIte, ite_true, ite_false, implies_true, true_implies, false_implies, forall_const, not_true_eq_false, not_false_eq_true, Nat.reduceAdd, Nat.reduceMul, Nat.reduceSub, Nat.reduceBEq, Nat.reduceEqDiff, Nat.reduceLeDiff, Nat.reduceLT, Int.reduceAdd, Int.reduceSub, Int.reduceMul, Int.reduceNeg, Int.reduceToNat, Int.reduceLE, Int.reduceLT, Int.reduceEq, Int.reduceNe, Int.reduceNatCast, Nat.add_zero, Nat.zero_add, reduceCtorEq, Int.reduceNatCast', wp_c, wp_g, e2_ifCond, e2_if_icmp, ↓bq_t, ↓bq_f, ab_br, ↓ab_b1_s, ↓ab_b2_s, ↓ab_l1_s, ↓ab_l2_s, ↓ab_li_s, ↓ab_o1_s, ↓ab_io_s, ↓ab_lo1_s, ↓ab_iio_s, ↓ab_lio_s, ↓ab_cp5_s, moX12_wordOf, dX12_wordOf_0, dll_1, dX12_wordOf_1, kx12_231, dX12_wordOf_4, dX12_wordOf_5, dX12_wordOf_8, dX12_wordOf_9, dX12_wordOf_10, dX12_wordOf_11, kx12_233, dX12_wordOf_14, dX12_wordOf_15, dX12_wordOf_18, dX12_wordOf_19, dX12_wordOf_20, dX12_wordOf_21, kx12_235, dX12_wordOf_24, dX12_wordOf_25, dX12_wordOf_28, dX12_wordOf_29, dX12_wordOf_30, dX12_wordOf_31, kx12_237, dX12_wordOf_34, dX12_wordOf_35, dX12_wordOf_38, dX12_wordOf_39, dX12_wordOf_40, dX12_wordOf_41, kx12_239, dX12_wordOf_44, dX12_wordOf_45, dX12_wordOf_48, dX12_wordOf_49, dX12_wordOf_50, dX12_wordOf_51, kx12_241, dX12_wordOf_54, dX12_wordOf_55, dX12_wordOf_58, dX12_wordOf_59, dX12_wordOf_60, dX12_wordOf_61, kx12_243, dX12_wordOf_64, dX12_wordOf_65, dX12_wordOf_68, dX12_wordOf_70, dX12_wordOf_71, dX12_wordOf_72, kx12_245, dX12_wordOf_75, dX12_wordOf_76, dX12_wordOf_79, dX12_wordOf_81, dX12_wordOf_82, dX12_wordOf_83, kx12_247, dX12_wordOf_86, dX12_wordOf_87, dX12_wordOf_90, dX12_wordOf_92, dX12_wordOf_93, dX12_wordOf_94, kx12_249, dX12_wordOf_97, dX12_wordOf_98, dX12_wordOf_101, dX12_wordOf_103, dX12_wordOf_104, dX12_wordOf_105, kx12_251, dX12_wordOf_108, dX12_wordOf_109, dX12_wordOf_112, dX12_wordOf_114, dX12_wordOf_115, dX12_wordOf_116, kx12_253, dX12_wordOf_119, dX12_wordOf_120, dX12_wordOf_123, dX12_wordOf_125, dX12_wordOf_126, dX12_wordOf_127, kx12_255, dX12_wordOf_130, dX12_wordOf_131, dX12_wordOf_134, dX12_wordOf_136, dX12_wordOf_137, dX12_wordOf_138, kx12_257, dX12_wordOf_141, dX12_wordOf_142, dX12_wordOf_145, dX12_wordOf_147, dX12_wordOf_148, dX12_wordOf_149]
    repeat' (with_reducible (first | apply And.intro | intro _))
    all_goals first | omega | exact h
  by_cases e4 : x = 1253
  · subst e4
    apply hG [9999] 120
    simp only [cq_lt, cq_le, cq_gt, cq_ge, cq_eq, cq_r1, cq_r2, ab_r32, ab_r64, ab_go, ab_stp, wp_z, ab_in, ab_rok, ab_wsum, ab_prm, ab_ret, ab_sw, ab_cd, ab_tg, ab_cat_i, ab_cat_l, ab_cat_r, ab_cl_n, ab_cl_i, ab_cl_l, ab_cl_r, ab_f2_0, ab_f2_1, ab_f4_0, ab_f4_1, ab_f4_2, ab_f4_3, ab_op_s, ab_b1_s, ab_b2_s, ab_l1_s, ab_l2_s, ab_li_s, ab_o1_s, ab_io_s, ab_lo1_s, ab_iio_s, ab_lio_s, ab_cp5_s, ab_d2_l, ab_d2_i, ab_d2_o, ex_iconst, ex_bipush, ex_sipush, ex_lconst, ex_ldc, ex_ldc_w, ex_ldc2_w, ex_iadd, ex_isub, ex_imul, ex_iand, ex_ior, ex_ixor, ex_ishl, ex_ishr, ex_iushr, ex_idiv, ex_irem, ex_ladd, ex_lsub, ex_lmul, ex_lor, ex_ldiv, ex_lrem, ex_lshl, ex_lcmp, ex_ineg, ex_lneg, ex_i2l, ex_l2i, ex_i2b, ex_dup, ex_pop, ex_dup2, ex_goto, ex_tableswitch, ex_aaload, ex_ireturn, ex_lreturn, ex_return_, List.map_cons, List.map_nil, List.sum_cons, List.sum_nil, List.drop_succ_cons, List.drop_zero, List.take_succ_cons, List.take_zero, List.reverse_cons, List.reverse_nil, List.nil_append, List.cons_append, List.length_cons, List.length_nil, true_and, and_true, cond_false, cond_true, Bool.false_or, Bool.or_false, Bool.or_true, Bool.true_or, true_or, or_true, false_or, or_false, if_true, if_false, reduceIte, ite_true, ite_false, implies_true, true_implies, false_implies, forall_const, not_true_eq_false, not_false_eq_true, Nat.reduceAdd, Nat.reduceMul, Nat.reduceSub, Nat.reduceBEq, Nat.reduceEqDiff, Nat.reduceLeDiff, Nat.reduceLT, Int.reduceAdd, Int.reduceSub, Int.reduceMul, Int.reduceNeg, Int.reduceToNat, Int.reduceLE, Int.reduceLT, Int.reduceEq, Int.reduceNe, Int.reduceNatCast, Nat.add_zero, Nat.zero_add, reduceCtorEq, Int.reduceNatCast', wp_c, wp_g, e2_ifCond, e2_if_icmp, ↓bq_t, ↓bq_f, ab_br, ↓ab_b1_s, ↓ab_b2_s, ↓ab_l1_s, ↓ab_l2_s, ↓ab_li_s, ↓ab_o1_s, ↓ab_io_s, ↓ab_lo1_s, ↓ab_iio_s, ↓ab_lio_s, ↓ab_cp5_s, moX12_wordOf, dX12_wordOf_0, dll_1, dX12_wordOf_1, kx12_231, dX12_wordOf_4, dX12_wordOf_5, dX12_wordOf_8, dX12_wordOf_9, dX12_wordOf_10, dX12_wordOf_11, kx12_233, dX12_wordOf_14, dX12_wordOf_15, dX12_wordOf_18, dX12_wordOf_19, dX12_wordOf_20, dX12_wordOf_21, kx12_235, dX12_wordOf_24, dX12_wordOf_25, dX12_wordOf_28, dX12_wordOf_29, dX12_wordOf_30, dX12_wordOf_31, kx12_237, dX12_wordOf_34, dX12_wordOf_35, dX12_wordOf_38, dX12_wordOf_39, dX12_wordOf_40, dX12_wordOf_41, kx12_239, dX12_wordOf_44, dX12_wordOf_45, dX12_wordOf_48, dX12_wordOf_49, dX12_wordOf_50, dX12_wordOf_51, kx12_241, dX12_wordOf_54, dX12_wordOf_55, dX12_wordOf_58, dX12_wordOf_59, dX12_wordOf_60, dX12_wordOf_61, kx12_243, dX12_wordOf_64, dX12_wordOf_65, dX12_wordOf_68, dX12_wordOf_70, dX12_wordOf_71, dX12_wordOf_72, kx12_245, dX12_wordOf_75, dX12_wordOf_76, dX12_wordOf_79, dX12_wordOf_81, dX12_wordOf_82, dX12_wordOf_83, kx12_247, dX12_wordOf_86, dX12_wordOf_87, dX12_wordOf_90, dX12_wordOf_92, dX12_wordOf_93, dX12_wordOf_94, kx12_249, dX12_wordOf_97, dX12_wordOf_98, dX12_wordOf_101, dX12_wordOf_103, dX12_wordOf_104, dX12_wordOf_105, kx12_251, dX12_wordOf_108, dX12_wordOf_109, dX12_wordOf_112, dX12_wordOf_114, dX12_wordOf_115, dX12_wordOf_116, kx12_253, dX12_wordOf_119, dX12_wordOf_120, dX12_wordOf_123, dX12_wordOf_125, dX12_wordOf_126, dX12_wordOf_127, kx12_255, dX12_wordOf_130, dX12_wordOf_131, dX12_wordOf_134, dX12_wordOf_136, dX12_wordOf_137, dX12_wordOf_138, kx12_257, dX12_wordOf_141, dX12_wordOf_142, dX12_wordOf_145, dX12_wordOf_147, dX12_wordOf_148, dX12_wordOf_149]
    repeat' (with_reducible (first | apply And.intro | intro _))
    all_goals first | omega | exact h
  by_cases e5 : x = 232546955
  · subst e5
    apply hG [9999] 120
    simp only [cq_lt, cq_le, cq_gt, cq_ge, cq_eq, cq_r1, cq_r2, ab_r32, ab_r64, ab_go, ab_stp, wp_z, ab_in, ab_rok, ab_wsum, ab_prm, ab_ret, ab_sw, ab_cd, ab_tg, ab_cat_i, ab_cat_l, ab_cat_r, ab_cl_n, ab_cl_i, ab_cl_l, ab_cl_r, ab_f2_0, ab_f2_1, ab_f4_0, ab_f4_1, ab_f4_2, ab_f4_3, ab_op_s, ab_b1_s, ab_b2_s, ab_l1_s, ab_l2_s, ab_li_s, ab_o1_s, ab_io_s, ab_lo1_s, ab_iio_s, ab_lio_s, ab_cp5_s, ab_d2_l, ab_d2_i, ab_d2_o, ex_iconst, ex_bipush, ex_sipush, ex_lconst, ex_ldc, ex_ldc_w, ex_ldc2_w, ex_iadd, ex_isub, ex_imul, ex_iand, ex_ior, ex_ixor, ex_ishl, ex_ishr, ex_iushr, ex_idiv, ex_irem, ex_ladd, ex_lsub, ex_lmul, ex_lor, ex_ldiv, ex_lrem, ex_lshl, ex_lcmp, ex_ineg, ex_lneg, ex_i2l, ex_l2i, ex_i2b, ex_dup, ex_pop, ex_dup2, ex_goto, ex_tableswitch, ex_aaload, ex_ireturn, ex_lreturn, ex_return_, List.map_cons, List.map_nil, List.sum_cons, List.sum_nil, List.drop_succ_cons, List.drop_zero, List.take_succ_cons, List.take_zero, List.reverse_cons, List.reverse_nil, List.nil_append, List.cons_append, List.length_cons, List.length_nil, true_and, and_true, cond_false, cond_true, Bool.false_or, Bool.or_false, Bool.or_true, Bool.true_or, true_or, or_true, false_or, or_false, if_true, if_false, reduceIte, ite_true, ite_false, implies_true, true_implies, false_implies, forall_const, not_true_eq_false, not_false_eq_true, Nat.reduceAdd, Nat.reduceMul, Nat.reduceSub, Nat.reduceBEq, Nat.reduceEqDiff, Nat.reduceLeDiff, Nat.reduceLT, Int.reduceAdd, Int.reduceSub, Int.reduceMul, Int.reduceNeg, Int.reduceToNat, Int.reduceLE, Int.reduceLT, Int.reduceEq, Int.reduceNe, Int.reduceNatCast, Nat.add_zero, Nat.zero_add, reduceCtorEq, Int.reduceNatCast', wp_c, wp_g, e2_ifCond, e2_if_icmp, ↓bq_t, ↓bq_f, ab_br, ↓ab_b1_s, ↓ab_b2_s, ↓ab_l1_s, ↓ab_l2_s, ↓ab_li_s, ↓ab_o1_s, ↓ab_io_s, ↓ab_lo1_s, ↓ab_iio_s, ↓ab_lio_s, ↓ab_cp5_s, moX12_wordOf, dX12_wordOf_0, dll_1, dX12_wordOf_1, kx12_231, dX12_wordOf_4, dX12_wordOf_5, dX12_wordOf_8, dX12_wordOf_9, dX12_wordOf_10, dX12_wordOf_11, kx12_233, dX12_wordOf_14, dX12_wordOf_15, dX12_wordOf_18, dX12_wordOf_19, dX12_wordOf_20, dX12_wordOf_21, kx12_235, dX12_wordOf_24, dX12_wordOf_25, dX12_wordOf_28, dX12_wordOf_29, dX12_wordOf_30, dX12_wordOf_31, kx12_237, dX12_wordOf_34, dX12_wordOf_35, dX12_wordOf_38, dX12_wordOf_39, dX12_wordOf_40, dX12_wordOf_41, kx12_239, dX12_wordOf_44, dX12_wordOf_45, dX12_wordOf_48, dX12_wordOf_49, dX12_wordOf_50, dX12_wordOf_51, kx12_241, dX12_wordOf_54, dX12_wordOf_55, dX12_wordOf_58, dX12_wordOf_59, dX12_wordOf_60, dX12_wordOf_61, kx12_243, dX12_wordOf_64, dX12_wordOf_65, dX12_wordOf_68, dX12_wordOf_70, dX12_wordOf_71, dX12_wordOf_72, kx12_245, dX12_wordOf_75, dX12_wordOf_76, dX12_wordOf_79, dX12_wordOf_81, dX12_wordOf_82, dX12_wordOf_83, kx12_247, dX12_wordOf_86, dX12_wordOf_87, dX12_wordOf_90, dX12_wordOf_92, dX12_wordOf_93, dX12_wordOf_94, kx12_249, dX12_wordOf_97, dX12_wordOf_98, dX12_wordOf_101, dX12_wordOf_103, dX12_wordOf_104, dX12_wordOf_105, kx12_251, dX12_wordOf_108, dX12_wordOf_109, dX12_wordOf_112, dX12_wordOf_114, dX12_wordOf_115, dX12_wordOf_116, kx12_253, dX12_wordOf_119, dX12_wordOf_120, dX12_wordOf_123, dX12_wordOf_125, dX12_wordOf_126, dX12_wordOf_127, kx12_255, dX12_wordOf_130, dX12_wordOf_131, dX12_wordOf_134, dX12_wordOf_136, dX12_wordOf_137, dX12_wordOf_138, kx12_257, dX12_wordOf_141, dX12_wordOf_142, dX12_wordOf_145, dX12_wordOf_147, dX12_wordOf_148, dX12_wordOf_149]
    repeat' (with_reducible (first | apply And.intro | intro _))
    all_goals first | omega | exact h
  by_cases e6 : x = 243059
  · subst e6
    apply hG [9999] 120
    simp only [cq_lt, cq_le, cq_gt, cq_ge, cq_eq, cq_r1, cq_r2, ab_r32, ab_r64, ab_go, ab_stp, wp_z, ab_in, ab_rok, ab_wsum, ab_prm, ab_ret, ab_sw, ab_cd, ab_tg, ab_cat_i, ab_cat_l, ab_cat_r, ab_cl_n, ab_cl_i, ab_cl_l, ab_cl_r, ab_f2_0, ab_f2_1, ab_f4_0, ab_f4_1, ab_f4_2, ab_f4_3, ab_op_s, ab_b1_s, ab_b2_s, ab_l1_s, ab_l2_s, ab_li_s, ab_o1_s, ab_io_s, ab_lo1_s, ab_iio_s, ab_lio_s, ab_cp5_s, ab_d2_l, ab_d2_i, ab_d2_o, ex_iconst, ex_bipush, ex_sipush, ex_lconst, ex_ldc, ex_ldc_w, ex_ldc2_w, ex_iadd, ex_isub, ex_imul, ex_iand, ex_ior, ex_ixor, ex_ishl, ex_ishr, ex_iushr, ex_idiv, ex_irem, ex_ladd, ex_lsub, ex_lmul, ex_lor, ex_ldiv, ex_lrem, ex_lshl, ex_lcmp, ex_ineg, ex_lneg, ex_i2l, ex_l2i, ex_i2b, ex_dup, ex_pop, ex_dup2, ex_goto, ex_tableswitch, ex_aaload, ex_ireturn, ex_lreturn, ex_return_, List.map_cons, List.map_nil, List.sum_cons, List.sum_nil, List.drop_succ_cons, List.drop_zero, List.take_succ_cons, List.take_zero, List.reverse_cons, List.reverse_nil, List.nil_append, List.cons_append, List.length_cons, List.length_nil, true_and, and_true, cond_false, cond_true, Bool.false_or, Bool.or_false, Bool.or_true, Bool.true_or, true_or, or_true, false_or, or_false, if_true, if_false, reduceIte, ite_true, ite_false, implies_true, true_implies, false_implies, forall_const, not_true_eq_false, not_false_eq_true, Nat.reduceAdd, Nat.reduceMul, Nat.reduceSub, Nat.reduceBEq, Nat.reduceEqDiff, Nat.reduceLeDiff, Nat.reduceLT, Int.reduceAdd, Int.reduceSub, Int.reduceMul, Int.reduceNeg, Int.reduceToNat, Int.reduceLE, Int.reduceLT, Int.reduceEq, Int.reduceNe, Int.reduceNatCast, Nat.add_zero, Nat.zero_add, reduceCtorEq, Int.reduceNatCast', wp_c, wp_g, e2_ifCond, e2_if_icmp, ↓bq_t, ↓bq_f, ab_br, ↓ab_b1_s, ↓ab_b2_s, ↓ab_l1_s, ↓ab_l2_s, ↓ab_li_s, ↓ab_o1_s, ↓ab_io_s, ↓ab_lo1_s, ↓ab_iio_s, ↓ab_lio_s, ↓ab_cp5_s, moX12_wordOf, dX12_wordOf_0, dll_1, dX12_wordOf_1, kx12_231, dX12_wordOf_4, dX12_wordOf_5, dX12_wordOf_8, dX12_wordOf_9, dX12_wordOf_10, dX12_wordOf_11, kx12_233, dX12_wordOf_14, dX12_wordOf_15, dX12_wordOf_18, dX12_wordOf_19, dX12_wordOf_20, dX12_wordOf_21, kx12_235, dX12_wordOf_24, dX12_wordOf_25, dX12_wordOf_28, dX12_wordOf_29, dX12_wordOf_30, dX12_wordOf_31, kx12_237, dX12_wordOf_34, dX12_wordOf_35, dX12_wordOf_38, dX12_wordOf_39, dX12_wordOf_40, dX12_wordOf_41, kx12_239, dX12_wordOf_44, dX12_wordOf_45, dX12_wordOf_48, dX12_wordOf_49, dX12_wordOf_50, dX12_wordOf_51, kx12_241, dX12_wordOf_54, dX12_wordOf_55, dX12_wordOf_58, dX12_wordOf_59, dX12_wordOf_60, dX12_wordOf_61, kx12_243, dX12_wordOf_64, dX12_wordOf_65, dX12_wordOf_68, dX12_wordOf_70, dX12_wordOf_71, dX12_wordOf_72, kx12_245, dX12_wordOf_75, dX12_wordOf_76, dX12_wordOf_79, dX12_wordOf_81, dX12_wordOf_82, dX12_wordOf_83, kx12_247, dX12_wordOf_86, dX12_wordOf_87, dX12_wordOf_90, dX12_wordOf_92, dX12_wordOf_93, dX12_wordOf_94, kx12_249, dX12_wordOf_97, dX12_wordOf_98, dX12_wordOf_101, dX12_wordOf_103, dX12_wordOf_104, dX12_wordOf_105, kx12_251, dX12_wordOf_108, dX12_wordOf_109, dX12_wordOf_112, dX12_wordOf_114, dX12_wordOf_115, dX12_wordOf_116, kx12_253, dX12_wordOf_119, dX12_wordOf_120, dX12_wordOf_123, dX12_wordOf_125, dX12_wordOf_126, dX12_wordOf_127, kx12_255, dX12_wordOf_130, dX12_wordOf_131, dX12_wordOf_134, dX12_wordOf_136, dX12_wordOf_137, dX12_wordOf_138, kx12_257, dX12_wordOf_141, dX12_wordOf_142, dX12_wordOf_145, dX12_wordOf_147, dX12_wordOf_148, dX12_wordOf_149]
    repeat' (with_reducible (first | apply And.intro | intro _))
    all_goals first | omega | exact h
  by_cases e7 : x = 12387713
  · subst e7
    apply hG [9999] 120
    simp only [cq_lt, cq_le, cq_gt, cq_ge, cq_eq, cq_r1, cq_r2, ab_r32, ab_r64, ab_go, ab_stp, wp_z, ab_in, ab_rok, ab_wsum, ab_prm, ab_ret, ab_sw, ab_cd, ab_tg, ab_cat_i, ab_cat_l, ab_cat_r, ab_cl_n, ab_cl_i, ab_cl_l, ab_cl_r, ab_f2_0, ab_f2_1, ab_f4_0, ab_f4_1, ab_f4_2, ab_f4_3, ab_op_s, ab_b1_s, ab_b2_s, ab_l1_s, ab_l2_s, ab_li_s, ab_o1_s, ab_io_s, ab_lo1_s, ab_iio_s, ab_lio_s, ab_cp5_s, ab_d2_l, ab_d2_i, ab_d2_o, ex_iconst, ex_bipush, ex_sipush, ex_lconst, ex_ldc, ex_ldc_w, ex_ldc2_w, ex_iadd, ex_isub, ex_imul, ex_iand, ex_ior, ex_ixor, ex_ishl, ex_ishr, ex_iushr, ex_idiv, ex_irem, ex_ladd, ex_lsub, ex_lmul, ex_lor, ex_ldiv, ex_lrem, ex_lshl, ex_lcmp, ex_ineg, ex_lneg, ex_i2l, ex_l2i, ex_i2b, ex_dup, ex_pop, ex_dup2, ex_goto, ex_tableswitch, ex_aaload, ex_ireturn, ex_lreturn, ex_return_, List.map_cons, List.map_nil, List.sum_cons, List.sum_nil, List.drop_succ_cons, List.drop_zero, List.take_succ_cons, List.take_zero, List.reverse_cons, List.reverse_nil, List.nil_append, List.cons_append, List.length_cons, List.length_nil, true_and, and_true, cond_false, cond_true, Bool.false_or, Bool.or_false, Bool.or_true, Bool.true_or, true_or, or_true, false_or, or_false, if_true, if_false, reduceIte, ite_true, ite_false, implies_true, true_implies, false_implies, forall_const, not_true_eq_false, not_false_eq_true, Nat.reduceAdd, Nat.reduceMul, Nat.reduceSub, Nat.reduceBEq, Nat.reduceEqDiff, Nat.reduceLeDiff, Nat.reduceLT, Int.reduceAdd, Int.reduceSub, Int.reduceMul, Int.reduceNeg, Int.reduceToNat, Int.reduceLE, Int.reduceLT, Int.reduceEq, Int.reduceNe, Int.reduceNatCast, Nat.add_zero, Nat.zero_add, reduceCtorEq, Int.reduceNatCast', wp_c, wp_g, e2_ifCond, e2_if_icmp, ↓bq_t, ↓bq_f, ab_br, ↓ab_b1_s, ↓ab_b2_s, ↓ab_l1_s, ↓ab_l2_s, ↓ab_li_s, ↓ab_o1_s, ↓ab_io_s, ↓ab_lo1_s, ↓ab_iio_s, ↓ab_lio_s, ↓ab_cp5_s, moX12_wordOf, dX12_wordOf_0, dll_1, dX12_wordOf_1, kx12_231, dX12_wordOf_4, dX12_wordOf_5, dX12_wordOf_8, dX12_wordOf_9, dX12_wordOf_10, dX12_wordOf_11, kx12_233, dX12_wordOf_14, dX12_wordOf_15, dX12_wordOf_18, dX12_wordOf_19, dX12_wordOf_20, dX12_wordOf_21, kx12_235, dX12_wordOf_24, dX12_wordOf_25, dX12_wordOf_28, dX12_wordOf_29, dX12_wordOf_30, dX12_wordOf_31, kx12_237, dX12_wordOf_34, dX12_wordOf_35, dX12_wordOf_38, dX12_wordOf_39, dX12_wordOf_40, dX12_wordOf_41, kx12_239, dX12_wordOf_44, dX12_wordOf_45, dX12_wordOf_48, dX12_wordOf_49, dX12_wordOf_50, dX12_wordOf_51, kx12_241, dX12_wordOf_54, dX12_wordOf_55, dX12_wordOf_58, dX12_wordOf_59, dX12_wordOf_60, dX12_wordOf_61, kx12_243, dX12_wordOf_64, dX12_wordOf_65, dX12_wordOf_68, dX12_wordOf_70, dX12_wordOf_71, dX12_wordOf_72, kx12_245, dX12_wordOf_75, dX12_wordOf_76, dX12_wordOf_79, dX12_wordOf_81, dX12_wordOf_82, dX12_wordOf_83, kx12_247, dX12_wordOf_86, dX12_wordOf_87, dX12_wordOf_90, dX12_wordOf_92, dX12_wordOf_93, dX12_wordOf_94, kx12_249, dX12_wordOf_97, dX12_wordOf_98, dX12_wordOf_101, dX12_wordOf_103, dX12_wordOf_104, dX12_wordOf_105, kx12_251, dX12_wordOf_108, dX12_wordOf_109, dX12_wordOf_112, dX12_wordOf_114, dX12_wordOf_115, dX12_wordOf_116, kx12_253, dX12_wordOf_119, dX12_wordOf_120, dX12_wordOf_123, dX12_wordOf_125, dX12_wordOf_126, dX12_wordOf_127, kx12_255, dX12_wordOf_130, dX12_wordOf_131, dX12_wordOf_134, dX12_wordOf_136, dX12_wordOf_137, dX12_wordOf_138, kx12_257, dX12_wordOf_141, dX12_wordOf_142, dX12_wordOf_145, dX12_wordOf_147, dX12_wordOf_148, dX12_wordOf_149]
    repeat' (with_reducible (first | apply And.intro | intro _))
    all_goals first | omega | exact h
  by_cases e8 : x = 1428746
  · subst e8
    apply hG [9999] 120
    simp only [cq_lt, cq_le, cq_gt, cq_ge, cq_eq, cq_r1, cq_r2, ab_r32, ab_r64, ab_go, ab_stp, wp_z, ab_in, ab_rok, ab_wsum, ab_prm, ab_ret, ab_sw, ab_cd, ab_tg, ab_cat_i, ab_cat_l, ab_cat_r, ab_cl_n, ab_cl_i, ab_cl_l, ab_cl_r, ab_f2_0, ab_f2_1, ab_f4_0, ab_f4_1, ab_f4_2, ab_f4_3, ab_op_s, ab_b1_s, ab_b2_s, ab_l1_s, ab_l2_s, ab_li_s, ab_o1_s, ab_io_s, ab_lo1_s, ab_iio_s, ab_lio_s, ab_cp5_s, ab_d2_l, ab_d2_i, ab_d2_o, ex_iconst, ex_bipush, ex_sipush, ex_lconst, ex_ldc, ex_ldc_w, ex_ldc2_w, ex_iadd, ex_isub, ex_imul, ex_iand, ex_ior, ex_ixor, ex_ishl, ex_ishr, ex_iushr, ex_idiv, ex_irem, ex_ladd, ex_lsub, ex_lmul, ex_lor, ex_ldiv, ex_lrem, ex_lshl, ex_lcmp, ex_ineg, ex_lneg, ex_i2l, ex_l2i, ex_i2b, ex_dup, ex_pop, ex_dup2, ex_goto, ex_tableswitch, ex_aaload, ex_ireturn, ex_lreturn, ex_return_, List.map_cons, List.map_nil, List.sum_cons, List.sum_nil, List.drop_succ_cons, List.drop_zero, List.take_succ_cons, List.take_zero, List.reverse_cons, List.reverse_nil, List.nil_append, List.cons_append, List.length_cons, List.length_nil, true_and, and_true, cond_false, cond_true, Bool.false_or, Bool.or_false, Bool.or_true, Bool.true_or, true_or, or_true, false_or, or_false, if_true, if_false, reduceIte, ite_true, ite_false, implies_true, true_implies, false_implies, forall_const, not_true_eq_false, not_false_eq_true, Nat.reduceAdd, Nat.reduceMul, Nat.reduceSub, Nat.reduceBEq, Nat.reduceEqDiff, Nat.reduceLeDiff, Nat.reduceLT, Int.reduceAdd, Int.reduceSub, Int.reduceMul, Int.reduceNeg, Int.reduceToNat, Int.reduceLE, Int.reduceLT, Int.reduceEq, Int.reduceNe, Int.reduceNatCast, Nat.add_zero, Nat.zero_add, reduceCtorEq, Int.reduceNatCast', wp_c, wp_g, e2_ifCond, e2_if_icmp, ↓bq_t, ↓bq_f, ab_br, ↓ab_b1_s, ↓ab_b2_s, ↓ab_l1_s, ↓ab_l2_s, ↓ab_li_s, ↓ab_o1_s, ↓ab_io_s, ↓ab_lo1_s, ↓ab_iio_s, ↓ab_lio_s, ↓ab_cp5_s, moX12_wordOf, dX12_wordOf_0, dll_1, dX12_wordOf_1, kx12_231, dX12_wordOf_4, dX12_wordOf_5, dX12_wordOf_8, dX12_wordOf_9, dX12_wordOf_10, dX12_wordOf_11, kx12_233, dX12_wordOf_14, dX12_wordOf_15, dX12_wordOf_18, dX12_wordOf_19, dX12_wordOf_20, dX12_wordOf_21, kx12_235, dX12_wordOf_24, dX12_wordOf_25, dX12_wordOf_28, dX12_wordOf_29, dX12_wordOf_30, dX12_wordOf_31, kx12_237, dX12_wordOf_34, dX12_wordOf_35, dX12_wordOf_38, dX12_wordOf_39, dX12_wordOf_40, dX12_wordOf_41, kx12_239, dX12_wordOf_44, dX12_wordOf_45, dX12_wordOf_48, dX12_wordOf_49, dX12_wordOf_50, dX12_wordOf_51, kx12_241, dX12_wordOf_54, dX12_wordOf_55, dX12_wordOf_58, dX12_wordOf_59, dX12_wordOf_60, dX12_wordOf_61, kx12_243, dX12_wordOf_64, dX12_wordOf_65, dX12_wordOf_68, dX12_wordOf_70, dX12_wordOf_71, dX12_wordOf_72, kx12_245, dX12_wordOf_75, dX12_wordOf_76, dX12_wordOf_79, dX12_wordOf_81, dX12_wordOf_82, dX12_wordOf_83, kx12_247, dX12_wordOf_86, dX12_wordOf_87, dX12_wordOf_90, dX12_wordOf_92, dX12_wordOf_93, dX12_wordOf_94, kx12_249, dX12_wordOf_97, dX12_wordOf_98, dX12_wordOf_101, dX12_wordOf_103, dX12_wordOf_104, dX12_wordOf_105, kx12_251, dX12_wordOf_108, dX12_wordOf_109, dX12_wordOf_112, dX12_wordOf_114, dX12_wordOf_115, dX12_wordOf_116, kx12_253, dX12_wordOf_119, dX12_wordOf_120, dX12_wordOf_123, dX12_wordOf_125, dX12_wordOf_126, dX12_wordOf_127, kx12_255, dX12_wordOf_130, dX12_wordOf_131, dX12_wordOf_134, dX12_wordOf_136, dX12_wordOf_137, dX12_wordOf_138, kx12_257, dX12_wordOf_141, dX12_wordOf_142, dX12_wordOf_145, dX12_wordOf_147, dX12_wordOf_148, dX12_wordOf_149]
    repeat' (with_reducible (first | apply And.intro | intro _))
    all_goals first | omega | exact h
  by_cases e9 : x = 13802
  · subst e9
    apply hG [9999] 120
    simp only [cq_lt, cq_le, cq_gt, cq_ge, cq_eq, cq_r1, cq_r2, ab_r32, ab_r64, ab_go, ab_stp, wp_z, ab_in, ab_rok, ab_wsum, ab_prm, ab_ret, ab_sw, ab_cd, ab_tg, ab_cat_i, ab_cat_l, ab_cat_r, ab_cl_n, ab_cl_i, ab_cl_l, ab_cl_r, ab_f2_0, ab_f2_1, ab_f4_0, ab_f4_1, ab_f4_2, ab_f4_3, ab_op_s, ab_b1_s, ab_b2_s, ab_l1_s, ab_l2_s, ab_li_s, ab_o1_s, ab_io_s, ab_lo1_s, ab_iio_s, ab_lio_s, ab_cp5_s, ab_d2_l, ab_d2_i, ab_d2_o, ex_iconst, ex_bipush, ex_sipush, ex_lconst, ex_ldc, ex_ldc_w, ex_ldc2_w, ex_iadd, ex_isub, ex_imul, ex_iand, ex_ior, ex_ixor, ex_ishl, ex_ishr, ex_iushr, ex_idiv, ex_irem, ex_ladd, ex_lsub, ex_lmul, ex_lor, ex_ldiv, ex_lrem, ex_lshl, ex_lcmp, ex_ineg, ex_lneg, ex_i2l, ex_l2i, ex_i2b, ex_dup, ex_pop, ex_dup2, ex_goto, ex_tableswitch, ex_aaload, ex_ireturn, ex_lreturn, ex_return_, List.map_cons, List.map_nil, List.sum_cons, List.sum_nil, List.drop_succ_cons, List.drop_zero, List.take_succ_cons, List.take_zero, List.reverse_cons, List.reverse_nil, List.nil_append, List.cons_append, List.length_cons, List.length_nil, true_and, and_true, cond_false, cond_true, Bool.false_or, Bool.or_false, Bool.or_true, Bool.true_or, true_or, or_true, false_or, or_false, if_true, if_false, reduceIte, ite_true, ite_false, implies_true, true_implies, false_implies, forall_const, not_true_eq_false, not_false_eq_true, Nat.reduceAdd, Nat.reduceMul, Nat.reduceSub, Nat.reduceBEq, Nat.reduceEqDiff, Nat.reduceLeDiff, Nat.reduceLT, Int.reduceAdd, Int.reduceSub, Int.reduceMul, Int.reduceNeg, Int.reduceToNat, Int.reduceLE, Int.reduceLT, Int.reduceEq, Int.reduceNe, Int.reduceNatCast, Nat.add_zero, Nat.zero_add, reduceCtorEq, Int.reduceNatCast', wp_c, wp_g, e2_ifCond, e2_if_icmp, ↓bq_t, ↓bq_f, ab_br, ↓ab_b1_s, ↓ab_b2_s, ↓ab_l1_s, ↓ab_l2_s, ↓ab_li_s, ↓ab_o1_s, ↓ab_io_s, ↓ab_lo1_s, ↓ab_iio_s, ↓ab_lio_s, ↓ab_cp5_s, moX12_wordOf, dX12_wordOf_0, dll_1, dX12_wordOf_1, kx12_231, dX12_wordOf_4, dX12_wordOf_5, dX12_wordOf_8, dX12_wordOf_9, dX12_wordOf_10, dX12_wordOf_11, kx12_233, dX12_wordOf_14, dX12_wordOf_15, dX12_wordOf_18, dX12_wordOf_19, dX12_wordOf_20, dX12_wordOf_21, kx12_235, dX12_wordOf_24, dX12_wordOf_25, dX12_wordOf_28, dX12_wordOf_29, dX12_wordOf_30, dX12_wordOf_31, kx12_237, dX12_wordOf_34, dX12_wordOf_35, dX12_wordOf_38, dX12_wordOf_39, dX12_wordOf_40, dX12_wordOf_41, kx12_239, dX12_wordOf_44, dX12_wordOf_45, dX12_wordOf_48, dX12_wordOf_49, dX12_wordOf_50, dX12_wordOf_51, kx12_241, dX12_wordOf_54, dX12_wordOf_55, dX12_wordOf_58, dX12_wordOf_59, dX12_wordOf_60, dX12_wordOf_61, kx12_243, dX12_wordOf_64, dX12_wordOf_65, dX12_wordOf_68, dX12_wordOf_70, dX12_wordOf_71, dX12_wordOf_72, kx12_245, dX12_wordOf_75, dX12_wordOf_76, dX12_wordOf_79, dX12_wordOf_81, dX12_wordOf_82, dX12_wordOf_83, kx12_247, dX12_wordOf_86, dX12_wordOf_87, dX12_wordOf_90, dX12_wordOf_92, dX12_wordOf_93, dX12_wordOf_94, kx12_249, dX12_wordOf_97, dX12_wordOf_98, dX12_wordOf_101, dX12_wordOf_103, dX12_wordOf_104, dX12_wordOf_105, kx12_251, dX12_wordOf_108, dX12_wordOf_109, dX12_wordOf_112, dX12_wordOf_114, dX12_wordOf_115, dX12_wordOf_116, kx12_253, dX12_wordOf_119, dX12_wordOf_120, dX12_wordOf_123, dX12_wordOf_125, dX12_wordOf_126, dX12_wordOf_127, kx12_255, dX12_wordOf_130, dX12_wordOf_131, dX12_wordOf_134, dX12_wordOf_136, dX12_wordOf_137, dX12_wordOf_138, kx12_257, dX12_wordOf_141, dX12_wordOf_142, dX12_wordOf_145, dX12_wordOf_147, dX12_wordOf_148, dX12_wordOf_149]
    repeat' (with_reducible (first | apply And.intro | intro _))
    all_goals first | omega | exact h
  by_cases e10 : x = 847604
  · subst e10
    apply hG [9999] 120
    simp only [cq_lt, cq_le, cq_gt, cq_ge, cq_eq, cq_r1, cq_r2, ab_r32, ab_r64, ab_go, ab_stp, wp_z, ab_in, ab_rok, ab_wsum, ab_prm, ab_ret, ab_sw, ab_cd, ab_tg, ab_cat_i, ab_cat_l, ab_cat_r, ab_cl_n, ab_cl_i, ab_cl_l, ab_cl_r, ab_f2_0, ab_f2_1, ab_f4_0, ab_f4_1, ab_f4_2, ab_f4_3, ab_op_s, ab_b1_s, ab_b2_s, ab_l1_s, ab_l2_s, ab_li_s, ab_o1_s, ab_io_s, ab_lo1_s, ab_iio_s, ab_lio_s, ab_cp5_s, ab_d2_l, ab_d2_i, ab_d2_o, ex_iconst, ex_bipush, ex_sipush, ex_lconst, ex_ldc, ex_ldc_w, ex_ldc2_w, ex_iadd, ex_isub, ex_imul, ex_iand, ex_ior, ex_ixor, ex_ishl, ex_ishr, ex_iushr, ex_idiv, ex_irem, ex_ladd, ex_lsub, ex_lmul, ex_lor, ex_ldiv, ex_lrem, ex_lshl, ex_lcmp, ex_ineg, ex_lneg, ex_i2l, ex_l2i, ex_i2b, ex_dup, ex_pop, ex_dup2, ex_goto, ex_tableswitch, ex_aaload, ex_ireturn, ex_lreturn, ex_return_, List.map_cons, List.map_nil, List.sum_cons, List.sum_nil, List.drop_succ_cons, List.drop_zero, List.take_succ_cons, List.take_zero, List.reverse_cons, List.reverse_nil, List.nil_append, List.cons_append, List.length_cons, List.length_nil, true_and, and_true, cond_false, cond_true, Bool.false_or, Bool.or_false, Bool.or_true, Bool.true_or, true_or, or_true, false_or, or_false, if_true, if_false, reduceIte, ite_true, ite_false, implies_true, true_implies, false_implies, forall_const, not_true_eq_false, not_false_eq_true, Nat.reduceAdd, Nat.reduceMul, Nat.reduceSub, Nat.reduceBEq, Nat.reduceEqDiff, Nat.reduceLeDiff, Nat.reduceLT, Int.reduceAdd, Int.reduceSub, Int.reduceMul, Int.reduceNeg, Int.reduceToNat, Int.reduceLE, Int.reduceLT, Int.reduceEq, Int.reduceNe, Int.reduceNatCast, Nat.add_zero, Nat.zero_add, reduceCtorEq, Int.reduceNatCast', wp_c, wp_g, e2_ifCond, e2_if_icmp, ↓bq_t, ↓bq_f, ab_br, ↓ab_b1_s, ↓ab_b2_s, ↓ab_l1_s, ↓ab_l2_s, ↓ab_li_s, ↓ab_o1_s, ↓ab_io_s, ↓ab_lo1_s, ↓ab_iio_s, ↓ab_lio_s, ↓ab_cp5_s, moX12_wordOf, dX12_wordOf_0, dll_1, dX12_wordOf_1, kx12_231, dX12_wordOf_4, dX12_wordOf_5, dX12_wordOf_8, dX12_wordOf_9, dX12_wordOf_10, dX12_wordOf_11, kx12_233, dX12_wordOf_14, dX12_wordOf_15, dX12_wordOf_18, dX12_wordOf_19, dX12_wordOf_20, dX12_wordOf_21, kx12_235, dX12_wordOf_24, dX12_wordOf_25, dX12_wordOf_28, dX12_wordOf_29, dX12_wordOf_30, dX12_wordOf_31, kx12_237, dX12_wordOf_34, dX12_wordOf_35, dX12_wordOf_38, dX12_wordOf_39, dX12_wordOf_40, dX12_wordOf_41, kx12_239, dX12_wordOf_44, dX12_wordOf_45, dX12_wordOf_48, dX12_wordOf_49, dX12_wordOf_50, dX12_wordOf_51, kx12_241, dX12_wordOf_54, dX12_wordOf_55, dX12_wordOf_58, dX12_wordOf_59, dX12_wordOf_60, dX12_wordOf_61, kx12_243, dX12_wordOf_64, dX12_wordOf_65, dX12_wordOf_68, dX12_wordOf_70, dX12_wordOf_71, dX12_wordOf_72, kx12_245, dX12_wordOf_75, dX12_wordOf_76, dX12_wordOf_79, dX12_wordOf_81, dX12_wordOf_82, dX12_wordOf_83, kx12_247, dX12_wordOf_86, dX12_wordOf_87, dX12_wordOf_90, dX12_wordOf_92, dX12_wordOf_93, dX12_wordOf_94, kx12_249, dX12_wordOf_97, dX12_wordOf_98, dX12_wordOf_101, dX12_wordOf_103, dX12_wordOf_104, dX12_wordOf_105, kx12_251, dX12_wordOf_108, dX12_wordOf_109, dX12_wordOf_112, dX12_wordOf_114, dX12_wordOf_115, dX12_wordOf_116, kx12_253, dX12_wordOf_119, dX12_wordOf_120, dX12_wordOf_123, dX12_wordOf_125, dX12_wordOf_126, dX12_wordOf_127, kx12_255, dX12_wordOf_130, dX12_wordOf_131, dX12_wordOf_134, dX12_wordOf_136, dX12_wordOf_137, dX12_wordOf_138, kx12_257, dX12_wordOf_141, dX12_wordOf_142, dX12_wordOf_145, dX12_wordOf_147, dX12_wordOf_148, dX12_wordOf_149]
    repeat' (with_reducible (first | apply And.intro | intro _))
    all_goals first | omega | exact h
  by_cases e11 : x = 380396
  · subst e11
    apply hG [9999] 120
    simp only [cq_lt, cq_le, cq_gt, cq_ge, cq_eq, cq_r1, cq_r2, ab_r32, ab_r64, ab_go, ab_stp, wp_z, ab_in, ab_rok, ab_wsum, ab_prm, ab_ret, ab_sw, ab_cd, ab_tg, ab_cat_i, ab_cat_l, ab_cat_r, ab_cl_n, ab_cl_i, ab_cl_l, ab_cl_r, ab_f2_0, ab_f2_1, ab_f4_0, ab_f4_1, ab_f4_2, ab_f4_3, ab_op_s, ab_b1_s, ab_b2_s, ab_l1_s, ab_l2_s, ab_li_s, ab_o1_s, ab_io_s, ab_lo1_s, ab_iio_s, ab_lio_s, ab_cp5_s, ab_d2_l, ab_d2_i, ab_d2_o, ex_iconst, ex_bipush, ex_sipush, ex_lconst, ex_ldc, ex_ldc_w, ex_ldc2_w, ex_iadd, ex_isub, ex_imul, ex_iand, ex_ior, ex_ixor, ex_ishl, ex_ishr, ex_iushr, ex_idiv, ex_irem, ex_ladd, ex_lsub, ex_lmul, ex_lor, ex_ldiv, ex_lrem, ex_lshl, ex_lcmp, ex_ineg, ex_lneg, ex_i2l, ex_l2i, ex_i2b, ex_dup, ex_pop, ex_dup2, ex_goto, ex_tableswitch, ex_aaload, ex_ireturn, ex_lreturn, ex_return_, List.map_cons, List.map_nil, List.sum_cons, List.sum_nil, List.drop_succ_cons, List.drop_zero, List.take_succ_cons, List.take_zero, List.reverse_cons, List.reverse_nil, List.nil_append, List.cons_append, List.length_cons, List.length_nil, true_and, and_true, cond_false, cond_true, Bool.false_or, Bool.or_false, Bool.or_true, Bool.true_or, true_or, or_true, false_or, or_false, if_true, if_false, reduceIte, ite_true, ite_false, implies_true, true_implies, false_implies, forall_const, not_true_eq_false, not_false_eq_true, Nat.reduceAdd, Nat.reduceMul, Nat.reduceSub, Nat.reduceBEq, Nat.reduceEqDiff, Nat.reduceLeDiff, Nat.reduceLT, Int.reduceAdd, Int.reduceSub, Int.reduceMul, Int.reduceNeg, Int.reduceToNat, Int.reduceLE, Int.reduceLT, Int.reduceEq, Int.reduceNe, Int.reduceNatCast, Nat.add_zero, Nat.zero_add, reduceCtorEq, Int.reduceNatCast', wp_c, wp_g, e2_ifCond, e2_if_icmp, ↓bq_t, ↓bq_f, ab_br, ↓ab_b1_s, ↓ab_b2_s, ↓ab_l1_s, ↓ab_l2_s, ↓ab_li_s, ↓ab_o1_s, ↓ab_io_s, ↓ab_lo1_s, ↓ab_iio_s, ↓ab_lio_s, ↓ab_cp5_s, moX12_wordOf, dX12_wordOf_0, dll_1, dX12_wordOf_1, kx12_231, dX12_wordOf_4, dX12_wordOf_5, dX12_wordOf_8, dX12_wordOf_9, dX12_wordOf_10, dX12_wordOf_11, kx12_233, dX12_wordOf_14, dX12_wordOf_15, dX12_wordOf_18, dX12_wordOf_19, dX12_wordOf_20, dX12_wordOf_21, kx12_235, dX12_wordOf_24, dX12_wordOf_25, dX12_wordOf_28, dX12_wordOf_29, dX12_wordOf_30, dX12_wordOf_31, kx12_237, dX12_wordOf_34, dX12_wordOf_35, dX12_wordOf_38, dX12_wordOf_39, dX12_wordOf_40, dX12_wordOf_41, kx12_239, dX12_wordOf_44, dX12_wordOf_45, dX12_wordOf_48, dX12_wordOf_49, dX12_wordOf_50, dX12_wordOf_51, kx12_241, dX12_wordOf_54, dX12_wordOf_55, dX12_wordOf_58, dX12_wordOf_59, dX12_wordOf_60, dX12_wordOf_61, kx12_243, dX12_wordOf_64, dX12_wordOf_65, dX12_wordOf_68, dX12_wordOf_70, dX12_wordOf_71, dX12_wordOf_72, kx12_245, dX12_wordOf_75, dX12_wordOf_76, dX12_wordOf_79, dX12_wordOf_81, dX12_wordOf_82, dX12_wordOf_83, kx12_247, dX12_wordOf_86, dX12_wordOf_87, dX12_wordOf_90, dX12_wordOf_92, dX12_wordOf_93, dX12_wordOf_94, kx12_249, dX12_wordOf_97, dX12_wordOf_98, dX12_wordOf_101, dX12_wordOf_103, dX12_wordOf_104, dX12_wordOf_105, kx12_251, dX12_wordOf_108, dX12_wordOf_109, dX12_wordOf_112, dX12_wordOf_114, dX12_wordOf_115, dX12_wordOf_116, kx12_253, dX12_wordOf_119, dX12_wordOf_120, dX12_wordOf_123, dX12_wordOf_125, dX12_wordOf_126, dX12_wordOf_127, kx12_255, dX12_wordOf_130, dX12_wordOf_131, dX12_wordOf_134, dX12_wordOf_136, dX12_wordOf_137, dX12_wordOf_138, kx12_257, dX12_wordOf_141, dX12_wordOf_142, dX12_wordOf_145, dX12_wordOf_147, dX12_wordOf_148, dX12_wordOf_149]
    repeat' (with_reducible (first | apply And.intro | intro _))
    all_goals first | omega | exact h
  by_cases e12 : x = 307058
  · subst e12
    apply hG [9999] 120
    simp only [cq_lt, cq_le, cq_gt, cq_ge, cq_eq, cq_r1, cq_r2, ab_r32, ab_r64, ab_go, ab_stp, wp_z, ab_in, ab_rok, ab_wsum, ab_prm, ab_ret, ab_sw, ab_cd, ab_tg, ab_cat_i, ab_cat_l, ab_cat_r, ab_cl_n, ab_cl_i, ab_cl_l, ab_cl_r, ab_f2_0, ab_f2_1, ab_f4_0, ab_f4_1, ab_f4_2, ab_f4_3, ab_op_s, ab_b1_s, ab_b2_s, ab_l1_s, ab_l2_s, ab_li_s, ab_o1_s, ab_io_s, ab_lo1_s, ab_iio_s, ab_lio_s, ab_cp5_s, ab_d2_l, ab_d2_i, ab_d2_o, ex_iconst, ex_bipush, ex_sipush, ex_lconst, ex_ldc, ex_ldc_w, ex_ldc2_w, ex_iadd, ex_isub, ex_imul, ex_iand, ex_ior, ex_ixor, ex_ishl, ex_ishr, ex_iushr, ex_idiv, ex_irem, ex_ladd, ex_lsub, ex_lmul, ex_lor, ex_ldiv, ex_lrem, ex_lshl, ex_lcmp, ex_ineg, ex_lneg, ex_i2l, ex_l2i, ex_i2b, ex_dup, ex_pop, ex_dup2, ex_goto, ex_tableswitch, ex_aaload, ex_ireturn, ex_lreturn, ex_return_, List.map_cons, List.map_nil, List.sum_cons, List.sum_nil, List.drop_succ_cons, List.drop_zero, List.take_succ_cons, List.take_zero, List.reverse_cons, List.reverse_nil, List.nil_append, List.cons_append, List.length_cons, List.length_nil, true_and, and_true, cond_false, cond_true, Bool.false_or, Bool.or_false, Bool.or_true, Bool.true_or, true_or, or_true, false_or, or_false, if_true, if_false, reduceIte, ite_true, ite_false, implies_true, true_implies, false_implies, forall_const, not_true_eq_false, not_false_eq_true, Nat.reduceAdd, Nat.reduceMul, Nat.reduceSub, Nat.reduceBEq, Nat.reduceEqDiff, Nat.reduceLeDiff, Nat.reduceLT, Int.reduceAdd, Int.reduceSub, Int.reduceMul, Int.reduceNeg, Int.reduceToNat, Int.reduceLE, Int.reduceLT, Int.reduceEq, Int.reduceNe, Int.reduceNatCast, Nat.add_zero, Nat.zero_add, reduceCtorEq, Int.reduceNatCast', wp_c, wp_g, e2_ifCond, e2_if_icmp, ↓bq_t, ↓bq_f, ab_br, ↓ab_b1_s, ↓ab_b2_s, ↓ab_l1_s, ↓ab_l2_s, ↓ab_li_s, ↓ab_o1_s, ↓ab_io_s, ↓ab_lo1_s, ↓ab_iio_s, ↓ab_lio_s, ↓ab_cp5_s, moX12_wordOf, dX12_wordOf_0, dll_1, dX12_wordOf_1, kx12_231, dX12_wordOf_4, dX12_wordOf_5, dX12_wordOf_8, dX12_wordOf_9, dX12_wordOf_10, dX12_wordOf_11, kx12_233, dX12_wordOf_14, dX12_wordOf_15, dX12_wordOf_18, dX12_wordOf_19, dX12_wordOf_20, dX12_wordOf_21, kx12_235, dX12_wordOf_24, dX12_wordOf_25, dX12_wordOf_28, dX12_wordOf_29, dX12_wordOf_30, dX12_wordOf_31, kx12_237, dX12_wordOf_34, dX12_wordOf_35, dX12_wordOf_38, dX12_wordOf_39, dX12_wordOf_40, dX12_wordOf_41, kx12_239, dX12_wordOf_44, dX12_wordOf_45, dX12_wordOf_48, dX12_wordOf_49, dX12_wordOf_50, dX12_wordOf_51, kx12_241, dX12_wordOf_54, dX12_wordOf_55, dX12_wordOf_58, dX12_wordOf_59, dX12_wordOf_60, dX12_wordOf_61, kx12_243, dX12_wordOf_64, dX12_wordOf_65, dX12_wordOf_68, dX12_wordOf_70, dX12_wordOf_71, dX12_wordOf_72, kx12_245, dX12_wordOf_75, dX12_wordOf_76, dX12_wordOf_79, dX12_wordOf_81, dX12_wordOf_82, dX12_wordOf_83, kx12_247, dX12_wordOf_86, dX12_wordOf_87, dX12_wordOf_90, dX12_wordOf_92, dX12_wordOf_93, dX12_wordOf_94, kx12_249, dX12_wordOf_97, dX12_wordOf_98, dX12_wordOf_101, dX12_wordOf_103, dX12_wordOf_104, dX12_wordOf_105, kx12_251, dX12_wordOf_108, dX12_wordOf_109, dX12_wordOf_112, dX12_wordOf_114, dX12_wordOf_115, dX12_wordOf_116, kx12_253, dX12_wordOf_119, dX12_wordOf_120, dX12_wordOf_123, dX12_wordOf_125, dX12_wordOf_126, dX12_wordOf_127, kx12_255, dX12_wordOf_130, dX12_wordOf_131, dX12_wordOf_134, dX12_wordOf_136, dX12_wordOf_137, dX12_wordOf_138, kx12_257, dX12_wordOf_141, dX12_wordOf_142, dX12_wordOf_145, dX12_wordOf_147, dX12_wordOf_148, dX12_wordOf_149]
    repeat' (with_reducible (first | apply And.intro | intro _))
    all_goals first | omega | exact h
  by_cases e13 : x = 8863997
  · subst e13
    apply hG [9999] 120
    simp only [cq_lt, cq_le, cq_gt, cq_ge, cq_eq, cq_r1, cq_r2, ab_r32, ab_r64, ab_go, ab_stp, wp_z, ab_in, ab_rok, ab_wsum, ab_prm, ab_ret, ab_sw, ab_cd, ab_tg, ab_cat_i, ab_cat_l, ab_cat_r, ab_cl_n, ab_cl_i, ab_cl_l, ab_cl_r, ab_f2_0, ab_f2_1, ab_f4_0, ab_f4_1, ab_f4_2, ab_f4_3, ab_op_s, ab_b1_s, ab_b2_s, ab_l1_s, ab_l2_s, ab_li_s, ab_o1_s, ab_io_s, ab_lo1_s, ab_iio_s, ab_lio_s, ab_cp5_s, ab_d2_l, ab_d2_i, ab_d2_o, ex_iconst, ex_bipush, ex_sipush, ex_lconst, ex_ldc, ex_ldc_w, ex_ldc2_w, ex_iadd, ex_isub, ex_imul, ex_iand, ex_ior, ex_ixor, ex_ishl, ex_ishr, ex_iushr, ex_idiv, ex_irem, ex_ladd, ex_lsub, ex_lmul, ex_lor, ex_ldiv, ex_lrem, ex_lshl, ex_lcmp, ex_ineg, ex_lneg, ex_i2l, ex_l2i, ex_i2b, ex_dup, ex_pop, ex_dup2, ex_goto, ex_tableswitch, ex_aaload, ex_ireturn, ex_lreturn, ex_return_, List.map_cons, List.map_nil, List.sum_cons, List.sum_nil, List.drop_succ_cons, List.drop_zero, List.take_succ_cons, List.take_zero, List.reverse_cons, List.reverse_nil, List.nil_append, List.cons_append, List.length_cons, List.length_nil, true_and, and_true, cond_false, cond_true, Bool.false_or, Bool.or_false, Bool.or_true, Bool.true_or, true_or, or_true, false_or, or_false, if_true, if_false, reduceIte, ite_true, ite_false, implies_true, true_implies, false_implies, forall_const, not_true_eq_false, not_false_eq_true, Nat.reduceAdd, Nat.reduceMul, Nat.reduceSub, Nat.reduceBEq, Nat.reduceEqDiff, Nat.reduceLeDiff, Nat.reduceLT, Int.reduceAdd, Int.reduceSub, Int.reduceMul, Int.reduceNeg, Int.reduceToNat, Int.reduceLE, Int.reduceLT, Int.reduceEq, Int.reduceNe, Int.reduceNatCast, Nat.add_zero, Nat.zero_add, reduceCtorEq, Int.reduceNatCast', wp_c, wp_g, e2_ifCond, e2_if_icmp, ↓bq_t, ↓bq_f, ab_br, ↓ab_b1_s, ↓ab_b2_s, ↓ab_l1_s, ↓ab_l2_s, ↓ab_li_s, ↓ab_o1_s, ↓ab_io_s, ↓ab_lo1_s, ↓ab_iio_s, ↓ab_lio_s, ↓ab_cp5_s, moX12_wordOf, dX12_wordOf_0, dll_1, dX12_wordOf_1, kx12_231, dX12_wordOf_4, dX12_wordOf_5, dX12_wordOf_8, dX12_wordOf_9, dX12_wordOf_10, dX12_wordOf_11, kx12_233, dX12_wordOf_14, dX12_wordOf_15, dX12_wordOf_18, dX12_wordOf_19, dX12_wordOf_20, dX12_wordOf_21, kx12_235, dX12_wordOf_24, dX12_wordOf_25, dX12_wordOf_28, dX12_wordOf_29, dX12_wordOf_30, dX12_wordOf_31, kx12_237, dX12_wordOf_34, dX12_wordOf_35, dX12_wordOf_38, dX12_wordOf_39, dX12_wordOf_40, dX12_wordOf_41, kx12_239, dX12_wordOf_44, dX12_wordOf_45, dX12_wordOf_48, dX12_wordOf_49, dX12_wordOf_50, dX12_wordOf_51, kx12_241, dX12_wordOf_54, dX12_wordOf_55, dX12_wordOf_58, dX12_wordOf_59, dX12_wordOf_60, dX12_wordOf_61, kx12_243, dX12_wordOf_64, dX12_wordOf_65, dX12_wordOf_68, dX12_wordOf_70, dX12_wordOf_71, dX12_wordOf_72, kx12_245, dX12_wordOf_75, dX12_wordOf_76, dX12_wordOf_79, dX12_wordOf_81, dX12_wordOf_82, dX12_wordOf_83, kx12_247, dX12_wordOf_86, dX12_wordOf_87, dX12_wordOf_90, dX12_wordOf_92, dX12_wordOf_93, dX12_wordOf_94, kx12_249, dX12_wordOf_97, dX12_wordOf_98, dX12_wordOf_101, dX12_wordOf_103, dX12_wordOf_104, dX12_wordOf_105, kx12_251, dX12_wordOf_108, dX12_wordOf_109, dX12_wordOf_112, dX12_wordOf_114, dX12_wordOf_115, dX12_wordOf_116, kx12_253, dX12_wordOf_119, dX12_wordOf_120, dX12_wordOf_123, dX12_wordOf_125, dX12_wordOf_126, dX12_wordOf_127, kx12_255, dX12_wordOf_130, dX12_wordOf_131, dX12_wordOf_134, dX12_wordOf_136, dX12_wordOf_137, dX12_wordOf_138, kx12_257, dX12_wordOf_141, dX12_wordOf_142, dX12_wordOf_145, dX12_wordOf_147, dX12_wordOf_148, dX12_wordOf_149]
    repeat' (with_reducible (first | apply And.intro | intro _))
    all_goals first | omega | exact h
  have ee : yWf x = -1 := by
    unfold yWf
    rw [if_neg e0, if_neg e1, if_neg e2, if_neg e3, if_neg e4, if_neg e5, if_neg e6, if_neg e7, if_neg e8, if_neg e9, if_neg e10, if_neg e11, if_neg e12, if_neg e13]
  rw [ee] at h
  apply hG [9999] 120
  simp only [cq_lt, cq_le, cq_gt, cq_ge, cq_eq, cq_r1, cq_r2, ab_r32, ab_r64, ab_go, ab_stp, wp_z, ab_in, ab_rok, ab_wsum, ab_prm, ab_ret, ab_sw, ab_cd, ab_tg, ab_cat_i, ab_cat_l, ab_cat_r, ab_cl_n, ab_cl_i, ab_cl_l, ab_cl_r, ab_f2_0, ab_f2_1, ab_f4_0, ab_f4_1, ab_f4_2, ab_f4_3, ab_op_s, ab_b1_s, ab_b2_s, ab_l1_s, ab_l2_s, ab_li_s, ab_o1_s, ab_io_s, ab_lo1_s, ab_iio_s, ab_lio_s, ab_cp5_s, ab_d2_l, ab_d2_i, ab_d2_o, ex_iconst, ex_bipush, ex_sipush, ex_lconst, ex_ldc, ex_ldc_w, ex_ldc2_w, ex_iadd, ex_isub, ex_imul, ex_iand, ex_ior, ex_ixor, ex_ishl, ex_ishr, ex_iushr, ex_idiv, ex_irem, ex_ladd, ex_lsub, ex_lmul, ex_lor, ex_ldiv, ex_lrem, ex_lshl, ex_lcmp, ex_ineg, ex_lneg, ex_i2l, ex_l2i, ex_i2b, ex_dup, ex_pop, ex_dup2, ex_goto, ex_tableswitch, ex_aaload, ex_ireturn, ex_lreturn, ex_return_, List.map_cons, List.map_nil, List.sum_cons, List.sum_nil, List.drop_succ_cons, List.drop_zero, List.take_succ_cons, List.take_zero, List.reverse_cons, List.reverse_nil, List.nil_append, List.cons_append, List.length_cons, List.length_nil, true_and, and_true, cond_false, cond_true, Bool.false_or, Bool.or_false, Bool.or_true, Bool.true_or, true_or, or_true, false_or, or_false, if_true, if_false, reduceIte, ite_true, ite_false, implies_true, true_implies, false_implies, forall_const, not_true_eq_false, not_false_eq_true, Nat.reduceAdd, Nat.reduceMul, Nat.reduceSub, Nat.reduceBEq, Nat.reduceEqDiff, Nat.reduceLeDiff, Nat.reduceLT, Int.reduceAdd, Int.reduceSub, Int.reduceMul, Int.reduceNeg, Int.reduceToNat, Int.reduceLE, Int.reduceLT, Int.reduceEq, Int.reduceNe, Int.reduceNatCast, Nat.add_zero, Nat.zero_add, reduceCtorEq, Int.reduceNatCast', wp_c, wp_g, e2_ifCond, e2_if_icmp, ↓bq_t, ↓bq_f, ab_br, ↓ab_b1_s, ↓ab_b2_s, ↓ab_l1_s, ↓ab_l2_s, ↓ab_li_s, ↓ab_o1_s, ↓ab_io_s, ↓ab_lo1_s, ↓ab_iio_s, ↓ab_lio_s, ↓ab_cp5_s, moX12_wordOf, dX12_wordOf_0, dll_1, dX12_wordOf_1, kx12_231, dX12_wordOf_4, dX12_wordOf_5, dX12_wordOf_8, dX12_wordOf_9, dX12_wordOf_10, dX12_wordOf_11, kx12_233, dX12_wordOf_14, dX12_wordOf_15, dX12_wordOf_18, dX12_wordOf_19, dX12_wordOf_20, dX12_wordOf_21, kx12_235, dX12_wordOf_24, dX12_wordOf_25, dX12_wordOf_28, dX12_wordOf_29, dX12_wordOf_30, dX12_wordOf_31, kx12_237, dX12_wordOf_34, dX12_wordOf_35, dX12_wordOf_38, dX12_wordOf_39, dX12_wordOf_40, dX12_wordOf_41, kx12_239, dX12_wordOf_44, dX12_wordOf_45, dX12_wordOf_48, dX12_wordOf_49, dX12_wordOf_50, dX12_wordOf_51, kx12_241, dX12_wordOf_54, dX12_wordOf_55, dX12_wordOf_58, dX12_wordOf_59, dX12_wordOf_60, dX12_wordOf_61, kx12_243, dX12_wordOf_64, dX12_wordOf_65, dX12_wordOf_68, dX12_wordOf_70, dX12_wordOf_71, dX12_wordOf_72, kx12_245, dX12_wordOf_75, dX12_wordOf_76, dX12_wordOf_79, dX12_wordOf_81, dX12_wordOf_82, dX12_wordOf_83, kx12_247, dX12_wordOf_86, dX12_wordOf_87, dX12_wordOf_90, dX12_wordOf_92, dX12_wordOf_93, dX12_wordOf_94, kx12_249, dX12_wordOf_97, dX12_wordOf_98, dX12_wordOf_101, dX12_wordOf_103, dX12_wordOf_104, dX12_wordOf_105, kx12_251, dX12_wordOf_108, dX12_wordOf_109, dX12_wordOf_112, dX12_wordOf_114, dX12_wordOf_115, dX12_wordOf_116, kx12_253, dX12_wordOf_119, dX12_wordOf_120, dX12_wordOf_123, dX12_wordOf_125, dX12_wordOf_126, dX12_wordOf_127, kx12_255, dX12_wordOf_130, dX12_wordOf_131, dX12_wordOf_134, dX12_wordOf_136, dX12_wordOf_137, dX12_wordOf_138, kx12_257, dX12_wordOf_141, dX12_wordOf_142, dX12_wordOf_145, dX12_wordOf_147, dX12_wordOf_148, dX12_wordOf_149, e0, e1, e2, e3, e4, e5, e6, e7, e8, e9, e10, e11, e12, e13]
  repeat' (with_reducible (first | apply And.intro | intro _))
  all_goals first | omega | exact h
/-- which constant word stands there, by the model's numbers -/
def zWr (ω : ab_S) (r : Int) : Prop := (-1 ≤ r ∧ r ≤ 13) ∧ (r = 0 ↔ zIs ω 0) ∧ (r = 5 ↔ zIs ω 1) ∧ (r = 6 ↔ zIs ω 2) ∧ (r = 1 ↔ zIs ω 3) ∧ (r = 2 ↔ zIs ω 4) ∧ (r = 3 ↔ zIs ω 5) ∧ (r = 4 ↔ zIs ω 6) ∧ (r = 7 ↔ zIs ω 7) ∧ (r = 8 ↔ zIs ω 8) ∧ (r = 9 ↔ zIs ω 9) ∧ (r = 10 ↔ zIs ω 10) ∧ (r = 11 ↔ zIs ω 11) ∧ (r = 12 ↔ zIs ω 12) ∧ (r = 13 ↔ zIs ω 13)
theorem zWr_of {ω τ : ab_S} {r : Int} (h : yAt ω τ) (hr : (τ 0 34 = 1 ∧ r = yWf (τ 0 36)) ∨ (τ 0 34 ≠ 1 ∧ r = -1)) : zWr ω r := by
  have i0 := yAt_is h (i := 0) (by decide)
  have i1 := yAt_is h (i := 1) (by decide)
  have i2 := yAt_is h (i := 2) (by decide)
  have i3 := yAt_is h (i := 3) (by decide)
  have i4 := yAt_is h (i := 4) (by decide)
  have i5 := yAt_is h (i := 5) (by decide)
  have i6 := yAt_is h (i := 6) (by decide)
  have i7 := yAt_is h (i := 7) (by decide)
  have i8 := yAt_is h (i := 8) (by decide)
  have i9 := yAt_is h (i := 9) (by decide)
  have i10 := yAt_is h (i := 10) (by decide)
  have i11 := yAt_is h (i := 11) (by decide)
  have i12 := yAt_is h (i := 12) (by decide)
  have i13 := yAt_is h (i := 13) (by decide)
  simp only [zWc, List.getD_cons_zero, List.getD_cons_succ] at i0 i1 i2 i3 i4 i5 i6 i7 i8 i9 i10 i11 i12 i13
  clear h
  unfold zWr
  rw [i0, i1, i2, i3, i4, i5, i6, i7, i8, i9, i10, i11, i12, i13]
  clear i0 i1 i2 i3 i4 i5 i6 i7 i8 i9 i10 i11 i12 i13
  rcases hr with ⟨ht, rfl⟩ | ⟨ht, rfl⟩
  · rw [ht]
    generalize τ 0 36 = x
    by_cases e0 : x = 51382989
    · subst e0
      rw [show yWf 51382989 = 0 from rfl]
      simp
    by_cases e1 : x = 283616147
    · subst e1
      rw [show yWf 283616147 = 1 from rfl]
      simp
    by_cases e2 : x = 388708
    · subst e2
      rw [show yWf 388708 = 2 from rfl]
      simp
    by_cases e3 : x = 168755
    · subst e3
      rw [show yWf 168755 = 3 from rfl]
      simp
    by_cases e4 : x = 1253
    · subst e4
      rw [show yWf 1253 = 4 from rfl]
      simp
    by_cases e5 : x = 232546955
    · subst e5
      rw [show yWf 232546955 = 5 from rfl]
      simp
    by_cases e6 : x = 243059
    · subst e6
      rw [show yWf 243059 = 6 from rfl]
      simp
    by_cases e7 : x = 12387713
    · subst e7
      rw [show yWf 12387713 = 7 from rfl]
      simp
    by_cases e8 : x = 1428746
    · subst e8
      rw [show yWf 1428746 = 8 from rfl]
      simp
    by_cases e9 : x = 13802
    · subst e9
      rw [show yWf 13802 = 9 from rfl]
      simp
    by_cases e10 : x = 847604
    · subst e10
      rw [show yWf 847604 = 10 from rfl]
      simp
    by_cases e11 : x = 380396
    · subst e11
      rw [show yWf 380396 = 11 from rfl]
      simp
    by_cases e12 : x = 307058
    · subst e12
      rw [show yWf 307058 = 12 from rfl]
      simp
    by_cases e13 : x = 8863997
    · subst e13
      rw [show yWf 8863997 = 13 from rfl]
      simp
    have ee : yWf x = -1 := by
      unfold yWf
      rw [if_neg e0, if_neg e1, if_neg e2, if_neg e3, if_neg e4, if_neg e5, if_neg e6, if_neg e7, if_neg e8, if_neg e9, if_neg e10, if_neg e11, if_neg e12, if_neg e13]
    rw [ee]
    simp [e0, e1, e2, e3, e4, e5, e6, e7, e8, e9, e10, e11, e12, e13]
  · simp [ht]
set_option maxRecDepth 100000 in
set_option maxHeartbeats 4000000 in
theorem y_wordHere {ω τ : ab_S} {K : ab_V → ab_S → Prop} (hA : yAt ω τ) (h : ∀ r, zWr ω r → K (vI r) τ) : ab_Runs ab_G2 mdX12_wordHere [vR 0] τ K := by
  refine ab_runs mwX12_wordHere (by decide +kernel) (Nat.le_of_ble_eq_true rfl) (fun G hG => ?_)
  show G 0 [some (vR 0)] [] _
  have ht := yAt_tx hA
  have hz := hA.2.2.2.2.2
  have hto : 0 ≤ τ 0 34 ∧ τ 0 34 ≤ 4 := by
    unfold yTok at hz
    omega
  apply hG [9999] 30
  simp only [cq_lt, cq_le, cq_gt, cq_ge, cq_eq, cq_r1, cq_r2, ab_r32, ab_r64, ab_go, ab_stp, wp_z, ab_in, ab_rok, ab_wsum, ab_prm, ab_ret, ab_sw, ab_cd, ab_tg, ab_cat_i, ab_cat_l, ab_cat_r, ab_cl_n, ab_cl_i, ab_cl_l, ab_cl_r, ab_f2_0, ab_f2_1, ab_f4_0, ab_f4_1, ab_f4_2, ab_f4_3, ab_op_s, ab_b1_s, ab_b2_s, ab_l1_s, ab_l2_s, ab_li_s, ab_o1_s, ab_io_s, ab_lo1_s, ab_iio_s, ab_lio_s, ab_cp5_s, ab_d2_l, ab_d2_i, ab_d2_o, ex_iconst, ex_bipush, ex_sipush, ex_lconst, ex_ldc, ex_ldc_w, ex_ldc2_w, ex_iadd, ex_isub, ex_imul, ex_iand, ex_ior, ex_ixor, ex_ishl, ex_ishr, ex_iushr, ex_idiv, ex_irem, ex_ladd, ex_lsub, ex_lmul, ex_lor, ex_ldiv, ex_lrem, ex_lshl, ex_lcmp, ex_ineg, ex_lneg, ex_i2l, ex_l2i, ex_i2b, ex_dup, ex_pop, ex_dup2, ex_goto, ex_tableswitch, ex_aaload, ex_ireturn, ex_lreturn, ex_return_, List.map_cons, List.map_nil, List.sum_cons, List.sum_nil, List.drop_succ_cons, List.drop_zero, List.take_succ_cons, List.take_zero, List.reverse_cons, List.reverse_nil, List.nil_append, List.cons_append, List.length_cons, List.length_nil, true_and, and_true, cond_false, cond_true, Bool.false_or, Bool.or_false, Bool.or_true, Bool.true_or, true_or, or_true, false_or, or_false, if_true, if_false, reduceIte, ite_true, ite_false, implies_true, true_implies, false_implies, forall_const, not_true_eq_false, not_false_eq_true, Nat.reduceAdd, Nat.reduceMul, Nat.reduceSub, Nat.reduceBEq, Nat.reduceEqDiff, Nat.reduceLeDiff, Nat.reduceLT, Int.reduceAdd, Int.reduceSub, Int.reduceMul, Int.reduceNeg, Int.reduceToNat, Int.reduceLE, Int.reduceLT, Int.reduceEq, Int.reduceNe, Int.reduceNatCast, Nat.add_zero, Nat.zero_add, reduceCtorEq, Int.reduceNatCast', wp_c, wp_g, e2_ifCond, e2_if_icmp, ↓bq_t, ↓bq_f, ab_br, ↓ab_b1_s, ↓ab_b2_s, ↓ab_l1_s, ↓ab_l2_s, ↓ab_li_s, ↓ab_o1_s, ↓ab_io_s, ↓ab_lo1_s, ↓ab_iio_s, ↓ab_lio_s, ↓ab_cp5_s, moX12_wordHere, dX12_wordHere_0, dal_0, dX12_wordHere_1, dg2_12_213_0, dX12_wordHere_4, dX12_wordHere_5, dX12_wordHere_8, dX12_wordHere_9, dX12_wordHere_10, dg2_12_206_0, dX12_wordHere_13, dv2_12_259_0, moX12_wordOf, dX12_wordHere_16, dX12_wordHere_19, dX12_wordHere_20]
  repeat' (with_reducible (first | apply And.intro | intro _))
  all_goals first | omega | skip
  · rename_i w
    exact h _ (zWr_of hA (Or.inr ⟨w, rfl⟩))
  · rename_i w
    refine y_wordOf (by omega) ?_
    try simp only [cq_lt, cq_le, cq_gt, cq_ge, cq_eq, cq_r1, cq_r2, ab_r32, ab_r64, ab_go, ab_stp, wp_z, ab_in, ab_rok, ab_wsum, ab_prm, ab_ret, ab_sw, ab_cd, ab_tg, ab_cat_i, ab_cat_l, ab_cat_r, ab_cl_n, ab_cl_i, ab_cl_l, ab_cl_r, ab_f2_0, ab_f2_1, ab_f4_0, ab_f4_1, ab_f4_2, ab_f4_3, ab_op_s, ab_b1_s, ab_b2_s, ab_l1_s, ab_l2_s, ab_li_s, ab_o1_s, ab_io_s, ab_lo1_s, ab_iio_s, ab_lio_s, ab_cp5_s, ab_d2_l, ab_d2_i, ab_d2_o, ex_iconst, ex_bipush, ex_sipush, ex_lconst, ex_ldc, ex_ldc_w, ex_ldc2_w, ex_iadd, ex_isub, ex_imul, ex_iand, ex_ior, ex_ixor, ex_ishl, ex_ishr, ex_iushr, ex_idiv, ex_irem, ex_ladd, ex_lsub, ex_lmul, ex_lor, ex_ldiv, ex_lrem, ex_lshl, ex_lcmp, ex_ineg, ex_lneg, ex_i2l, ex_l2i, ex_i2b, ex_dup, ex_pop, ex_dup2, ex_goto, ex_tableswitch, ex_aaload, ex_ireturn, ex_lreturn, ex_return_, List.map_cons, List.map_nil, List.sum_cons, List.sum_nil, List.drop_succ_cons, List.drop_zero, List.take_succ_cons, List.take_zero, List.reverse_cons, List.reverse_nil, List.nil_append, List.cons_append, List.length_cons, List.length_nil, true_and, and_true, cond_false, cond_true, Bool.false_or, Bool.or_false, Bool.or_true, Bool.true_or, true_or, or_true, false_or, or_false, if_true, if_false, reduceIte, ite_true, ite_false, implies_true, true_implies, false_implies, forall_const, not_true_eq_false, not_false_eq_true, Nat.reduceAdd, Nat.reduceMul, Nat.reduceSub, Nat.reduceBEq, Nat.reduceEqDiff, Nat.reduceLeDiff, Nat.reduceLT, Int.reduceAdd, Int.reduceSub, Int.reduceMul, Int.reduceNeg, Int.reduceToNat, Int.reduceLE, Int.reduceLT, Int.reduceEq, Int.reduceNe, Int.reduceNatCast, Nat.add_zero, Nat.zero_add, reduceCtorEq, Int.reduceNatCast', wp_c, wp_g, e2_ifCond, e2_if_icmp, ↓bq_t, ↓bq_f, ab_br, ↓ab_b1_s, ↓ab_b2_s, ↓ab_l1_s, ↓ab_l2_s, ↓ab_li_s, ↓ab_o1_s, ↓ab_io_s, ↓ab_lo1_s, ↓ab_iio_s, ↓ab_lio_s, ↓ab_cp5_s, moX12_wordHere, dX12_wordHere_0, dal_0, dX12_wordHere_1, dg2_12_213_0, dX12_wordHere_4, dX12_wordHere_5, dX12_wordHere_8, dX12_wordHere_9, dX12_wordHere_10, dg2_12_206_0, dX12_wordHere_13, dv2_12_259_0, moX12_wordOf, dX12_wordHere_16, dX12_wordHere_19, dX12_wordHere_20]
    exact h _ (zWr_of hA (Or.inl ⟨by omega, rfl⟩))
/-- a name may stand there -/
def zNw (ω : ab_S) : Prop := ω 1 4 = 1 ∧ ω 1 3 - ω 1 5 ≤ 6 ∧ ∀ i : Nat, i < 14 → ¬ zIs ω i
theorem zWr_no {ω : ab_S} {r : Int} (h : zWr ω r) : r < 0 ↔ ∀ i : Nat, i < 14 → ¬ zIs ω i := by
  obtain ⟨h0, a0, a1, a2, a3, a4, a5, a6, a7, a8, a9, a10, a11, a12, a13⟩ := h
  constructor
  · intro hr i hi
    rcases (show i = 0 ∨ i = 1 ∨ i = 2 ∨ i = 3 ∨ i = 4 ∨ i = 5 ∨ i = 6 ∨ i = 7 ∨ i = 8 ∨ i = 9 ∨ i = 10 ∨ i = 11 ∨ i = 12 ∨ i = 13 by omega) with rfl | rfl | rfl | rfl | rfl | rfl | rfl | rfl | rfl | rfl | rfl | rfl | rfl | rfl
    · rw [← a0]; omega
    · rw [← a1]; omega
    · rw [← a2]; omega
    · rw [← a3]; omega
    · rw [← a4]; omega
    · rw [← a5]; omega
    · rw [← a6]; omega
    · rw [← a7]; omega
    · rw [← a8]; omega
    · rw [← a9]; omega
    · rw [← a10]; omega
    · rw [← a11]; omega
    · rw [← a12]; omega
    · rw [← a13]; omega
  · intro hn
    have b0 := hn 0 (by decide)
    have b1 := hn 1 (by decide)
    have b2 := hn 2 (by decide)
    have b3 := hn 3 (by decide)
    have b4 := hn 4 (by decide)
    have b5 := hn 5 (by decide)
    have b6 := hn 6 (by decide)
    have b7 := hn 7 (by decide)
    have b8 := hn 8 (by decide)
    have b9 := hn 9 (by decide)
    have b10 := hn 10 (by decide)
    have b11 := hn 11 (by decide)
    have b12 := hn 12 (by decide)
    have b13 := hn 13 (by decide)
    rw [← a0] at b0
    rw [← a1] at b1
    rw [← a2] at b2
    rw [← a3] at b3
    rw [← a4] at b4
    rw [← a5] at b5
    rw [← a6] at b6
    rw [← a7] at b7
    rw [← a8] at b8
    rw [← a9] at b9
    rw [← a10] at b10
    rw [← a11] at b11
    rw [← a12] at b12
    rw [← a13] at b13
    omega
set_option maxRecDepth 100000 in
set_option maxHeartbeats 4000000 in
theorem y_isName {ω τ : ab_S} {K : ab_V → ab_S → Prop} (hA : yAt ω τ) (h : ∀ v, (zNw ω ∧ v = 1 ∨ ¬ zNw ω ∧ v = 0) → K (vI v) τ) : ab_Runs ab_G2 mdX12_isName [vR 0] τ K := by
  refine ab_runs mwX12_isName (by decide +kernel) (Nat.le_of_ble_eq_true rfl) (fun G hG => ?_)
  show G 0 [some (vR 0)] [] _
  have ht := yAt_tx hA
  have hz := hA.2.2.2.2.2
  have hto : 0 ≤ τ 0 34 ∧ τ 0 34 ≤ 4 := by
    unfold yTok at hz
    omega
  apply hG [9999] 40
  simp only [cq_lt, cq_le, cq_gt, cq_ge, cq_eq, cq_r1, cq_r2, ab_r32, ab_r64, ab_go, ab_stp, wp_z, ab_in, ab_rok, ab_wsum, ab_prm, ab_ret, ab_sw, ab_cd, ab_tg, ab_cat_i, ab_cat_l, ab_cat_r, ab_cl_n, ab_cl_i, ab_cl_l, ab_cl_r, ab_f2_0, ab_f2_1, ab_f4_0, ab_f4_1, ab_f4_2, ab_f4_3, ab_op_s, ab_b1_s, ab_b2_s, ab_l1_s, ab_l2_s, ab_li_s, ab_o1_s, ab_io_s, ab_lo1_s, ab_iio_s, ab_lio_s, ab_cp5_s, ab_d2_l, ab_d2_i, ab_d2_o, ex_iconst, ex_bipush, ex_sipush, ex_lconst, ex_ldc, ex_ldc_w, ex_ldc2_w, ex_iadd, ex_isub, ex_imul, ex_iand, ex_ior, ex_ixor, ex_ishl, ex_ishr, ex_iushr, ex_idiv, ex_irem, ex_ladd, ex_lsub, ex_lmul, ex_lor, ex_ldiv, ex_lrem, ex_lshl, ex_lcmp, ex_ineg, ex_lneg, ex_i2l, ex_l2i, ex_i2b, ex_dup, ex_pop, ex_dup2, ex_goto, ex_tableswitch, ex_aaload, ex_ireturn, ex_lreturn, ex_return_, List.map_cons, List.map_nil, List.sum_cons, List.sum_nil, List.drop_succ_cons, List.drop_zero, List.take_succ_cons, List.take_zero, List.reverse_cons, List.reverse_nil, List.nil_append, List.cons_append, List.length_cons, List.length_nil, true_and, and_true, cond_false, cond_true, Bool.false_or, Bool.or_false, Bool.or_true, Bool.true_or, true_or, or_true, false_or, or_false, if_true, if_false, reduceIte, ite_true, ite_false, implies_true, true_implies, false_implies, forall_const, not_true_eq_false, not_false_eq_true, Nat.reduceAdd, Nat.reduceMul, Nat.reduceSub, Nat.reduceBEq, Nat.reduceEqDiff, Nat.reduceLeDiff, Nat.reduceLT, Int.reduceAdd, Int.reduceSub, Int.reduceMul, Int.reduceNeg, Int.reduceToNat, Int.reduceLE, Int.reduceLT, Int.reduceEq, Int.reduceNe, Int.reduceNatCast, Nat.add_zero, Nat.zero_add, reduceCtorEq, Int.reduceNatCast', wp_c, wp_g, e2_ifCond, e2_if_icmp, ↓bq_t, ↓bq_f, ab_br, ↓ab_b1_s, ↓ab_b2_s, ↓ab_l1_s, ↓ab_l2_s, ↓ab_li_s, ↓ab_o1_s, ↓ab_io_s, ↓ab_lo1_s, ↓ab_iio_s, ↓ab_lio_s, ↓ab_cp5_s, moX12_isName, dX12_isName_0, dal_0, dX12_isName_1, dg2_12_213_0, dX12_isName_4, dX12_isName_5, dX12_isName_8, dX12_isName_9, dg2_12_206_0, dX12_isName_12, dX12_isName_13, dX12_isName_14, dX12_isName_17, dX12_isName_18, dX12_isName_19, dX12_isName_22, dv2_12_259_0, moX12_wordOf, dX12_isName_25, dX12_isName_28, dX12_isName_29, dX12_isName_32, dX12_isName_33]
  repeat' (with_reducible (first | apply And.intro | intro _))
  all_goals first | omega | skip
  · rename_i w
    exact h _ (Or.inr ⟨fun z => by have := z.1; have := z.2.1; omega, rfl⟩)
  · rename_i w w2
    exact h _ (Or.inr ⟨fun z => by have := z.1; have := z.2.1; omega, rfl⟩)
  · rename_i w w2
    refine y_wordOf (by omega) ?_
    have hW := zWr_of hA (Or.inl ⟨by omega, rfl⟩)
    have hN := zWr_no hW
    have hr2 := hW.1
    try simp only [cq_lt, cq_le, cq_gt, cq_ge, cq_eq, cq_r1, cq_r2, ab_r32, ab_r64, ab_go, ab_stp, wp_z, ab_in, ab_rok, ab_wsum, ab_prm, ab_ret, ab_sw, ab_cd, ab_tg, ab_cat_i, ab_cat_l, ab_cat_r, ab_cl_n, ab_cl_i, ab_cl_l, ab_cl_r, ab_f2_0, ab_f2_1, ab_f4_0, ab_f4_1, ab_f4_2, ab_f4_3, ab_op_s, ab_b1_s, ab_b2_s, ab_l1_s, ab_l2_s, ab_li_s, ab_o1_s, ab_io_s, ab_lo1_s, ab_iio_s, ab_lio_s, ab_cp5_s, ab_d2_l, ab_d2_i, ab_d2_o, ex_iconst, ex_bipush, ex_sipush, ex_lconst, ex_ldc, ex_ldc_w, ex_ldc2_w, ex_iadd, ex_isub, ex_imul, ex_iand, ex_ior, ex_ixor, ex_ishl, ex_ishr, ex_iushr, ex_idiv, ex_irem, ex_ladd, ex_lsub, ex_lmul, ex_lor, ex_ldiv, ex_lrem, ex_lshl, ex_lcmp, ex_ineg, ex_lneg, ex_i2l, ex_l2i, ex_i2b, ex_dup, ex_pop, ex_dup2, ex_goto, ex_tableswitch, ex_aaload, ex_ireturn, ex_lreturn, ex_return_, List.map_cons, List.map_nil, List.sum_cons, List.sum_nil, List.drop_succ_cons, List.drop_zero, List.take_succ_cons, List.take_zero, List.reverse_cons, List.reverse_nil, List.nil_append, List.cons_append, List.length_cons, List.length_nil, true_and, and_true, cond_false, cond_true, Bool.false_or, Bool.or_false, Bool.or_true, Bool.true_or, true_or, or_true, false_or, or_false, if_true, if_false, reduceIte, ite_true, ite_false, implies_true, true_implies, false_implies, forall_const, not_true_eq_false, not_false_eq_true, Nat.reduceAdd, Nat.reduceMul, Nat.reduceSub, Nat.reduceBEq, Nat.reduceEqDiff, Nat.reduceLeDiff, Nat.reduceLT, Int.reduceAdd, Int.reduceSub, Int.reduceMul, Int.reduceNeg, Int.reduceToNat, Int.reduceLE, Int.reduceLT, Int.reduceEq, Int.reduceNe, Int.reduceNatCast, Nat.add_zero, Nat.zero_add, reduceCtorEq, Int.reduceNatCast', wp_c, wp_g, e2_ifCond, e2_if_icmp, ↓bq_t, ↓bq_f, ab_br, ↓ab_b1_s, ↓ab_b2_s, ↓ab_l1_s, ↓ab_l2_s, ↓ab_li_s, ↓ab_o1_s, ↓ab_io_s, ↓ab_lo1_s, ↓ab_iio_s, ↓ab_lio_s, ↓ab_cp5_s, moX12_isName, dX12_isName_0, dal_0, dX12_isName_1, dg2_12_213_0, dX12_isName_4, dX12_isName_5, dX12_isName_8, dX12_isName_9, dg2_12_206_0, dX12_isName_12, dX12_isName_13, dX12_isName_14, dX12_isName_17, dX12_isName_18, dX12_isName_19, dX12_isName_22, dv2_12_259_0, moX12_wordOf, dX12_isName_25, dX12_isName_28, dX12_isName_29, dX12_isName_32, dX12_isName_33]
    repeat' (with_reducible (first | apply And.intro | intro _))
    all_goals first | omega | skip
    · rename_i w3
      exact h _ (Or.inr ⟨fun z => by have := hN.2 z.2.2; omega, rfl⟩)
    · rename_i w3
      exact h _ (Or.inl ⟨⟨by omega, by omega, hN.1 (by omega)⟩, rfl⟩)
