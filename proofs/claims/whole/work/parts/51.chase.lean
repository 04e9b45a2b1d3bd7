-- CLASS: Moves, the chase
theorem z_shl6 {x : Int} (hx : 0 ≤ x ∧ x < 512) : ab_shl x 6 = x * 64 := by
  unfold ab_shl
  have e : Int32.ofInt x = nI x.toNat := by rw [← z_of, show ((x.toNat : Nat) : Int) = x by omega]
  rw [e, show Int32.ofInt 6 = nI 6 from rfl, pk_shlN (nI 6 &&& 31) 6 (z_sl 6 (by omega)) (by omega), nI_toInt (by omega)]
  omega
theorem z_of64 (n : Nat) : Int64.ofInt (n : Int) = lN n := rfl
theorem z_lN {n : Nat} (h : n < 2 ^ 63) : (lN n).toInt = (n : Int) := Int64.toInt_ofNat_of_lt h
theorem z_shlLN {n : Nat} (h : n < 2 ^ 45) : lN n <<< ((Int32.ofInt 15).toInt64 &&& 63) = lN (n * 2 ^ 15) := by
  apply Int64.toBitVec_inj.1
  rw [Int64.toBitVec_shiftLeft]
  have e : ((Int32.ofInt 15).toInt64 &&& 63).toBitVec.smod 64 = 15#64 := by decide +kernel
  rw [e]
  show BitVec.ofNat 64 n <<< 15#64 = BitVec.ofNat 64 (n * 2 ^ 15)
  apply BitVec.eq_of_toNat_eq
  rw [BitVec.shiftLeft_eq', BitVec.toNat_shiftLeft]
  simp [Nat.shiftLeft_eq]
theorem z_shlL {x : Int} (hx : 0 ≤ x ∧ x < 35184372088832) : ab_shlL x 15 = x * 32768 := by
  unfold ab_shlL
  have e : Int64.ofInt x = lN x.toNat := by rw [← z_of64, show ((x.toNat : Nat) : Int) = x by omega]
  rw [e, z_shlLN (by omega), z_lN (by omega)]
  omega
theorem z_or64 (a b : Nat) : lN a ||| lN b = lN (a ||| b) := by
  apply Int64.toBitVec_inj.1
  show BitVec.ofNat 64 a ||| BitVec.ofNat 64 b = BitVec.ofNat 64 (a ||| b)
  apply BitVec.eq_of_getLsbD_eq
  intro i hi
  simp [hi]
theorem z_orL15 {a b : Int} (ha : 0 ≤ a ∧ a < 35184372088832) (hb : 0 ≤ b ∧ b < 32768) : ab_orL (a * 32768) b = a * 32768 + b := by
  unfold ab_orL
  have e : Int64.ofInt (a * 32768) = lN (2 ^ 15 * a.toNat) := by rw [← z_of64, show ((2 ^ 15 * a.toNat : Nat) : Int) = a * 32768 by omega]
  have e2 : Int64.ofInt b = lN b.toNat := by rw [← z_of64, show ((b.toNat : Nat) : Int) = b by omega]
  rw [e, e2, z_or64, ← Nat.two_pow_add_eq_or_of_lt (by omega), z_lN (by omega)]
  omega
theorem z_orL6 {a b : Int} (ha : 0 ≤ a ∧ a < 18014398509481984) (hb : 0 ≤ b ∧ b < 64) : ab_orL (a * 64) b = a * 64 + b := by
  unfold ab_orL
  have e : Int64.ofInt (a * 64) = lN (2 ^ 6 * a.toNat) := by rw [← z_of64, show ((2 ^ 6 * a.toNat : Nat) : Int) = a * 64 by omega]
  have e2 : Int64.ofInt b = lN b.toNat := by rw [← z_of64, show ((b.toNat : Nat) : Int) = b by omega]
  rw [e, e2, z_or64, ← Nat.two_pow_add_eq_or_of_lt (by omega), z_lN (by omega)]
  omega
/-- all stands in one number -/
def zsn (sp pr : Int → Int) : Nat → Int
  | 0 => 0
  | j + 1 => zsn sp pr j * 32768 + sp j * 64 + pr j
def zDg (sp pr : Int → Int) (j : Nat) : Prop := ∀ i : Nat, i < j → (0 ≤ sp i ∧ sp i < 512) ∧ (0 ≤ pr i ∧ pr i < 64)
theorem zsn_in {sp pr : Int → Int} : ∀ {j : Nat}, zDg sp pr j → 0 ≤ zsn sp pr j ∧ zsn sp pr j < (32768 : Int) ^ j
  | 0, _ => by simp [zsn]
  | j + 1, h => by
    have ih := zsn_in (j := j) (fun i hi => h i (by omega))
    have q := h j (by omega)
    rw [zsn, Int.pow_succ]
    omega
theorem zsn_inj {sp pr sp2 pr2 : Int → Int} : ∀ {j : Nat}, zDg sp pr j → zDg sp2 pr2 j → zsn sp pr j = zsn sp2 pr2 j → ∀ i : Nat, i < j → sp i = sp2 i ∧ pr i = pr2 i
  | 0, _, _, _ => fun i hi => by omega
  | j + 1, h, h2, e => by
    have q := h j (by omega)
    have q2 := h2 j (by omega)
    rw [zsn, zsn] at e
    have ih := zsn_inj (j := j) (fun i hi => h i (by omega)) (fun i hi => h2 i (by omega)) (by omega)
    intro i hi
    by_cases c : i = j
    · subst c
      omega
    · exact ih i (by omega)
theorem zsn_congr {sp pr sp2 pr2 : Int → Int} : ∀ {j : Nat}, (∀ i : Nat, i < j → sp i = sp2 i ∧ pr i = pr2 i) → zsn sp pr j = zsn sp2 pr2 j
  | 0, _ => rfl
  | j + 1, h => by
    rw [zsn, zsn, zsn_congr (j := j) (fun i hi => h i (by omega)), (h j (by omega)).1, (h j (by omega)).2]
theorem zOk_dg {ω : ab_S} {sp pr : Int → Int} (hJ : zJ ω) (ho : zOk ω sp pr) : zDg sp pr (ω 34 5).toNat := by
  intro i hi
  have q := ho i (by omega) (by omega)
  have := zSt_le hJ.1 q.1
  omega
set_option maxRecDepth 100000 in
set_option maxHeartbeats 4000000 in
theorem l_snapshot {ω σ : ab_S} {sp pr : Int → Int} {K : ab_V → ab_S → Prop} (hJ : zJ ω) (hK : zK ω) (hL : zLd ω sp pr σ) (ho : zOk ω sp pr) (h : K (vJ (zsn sp pr (ω 34 5).toNat)) σ) : ab_Runs ab_G1 mdX4_snapshot [vR 82] σ K := by
  refine ab_runs mwX4_snapshot (by decide +kernel) (Nat.le_of_ble_eq_true rfl) (fun G hG => ?_)
  show G 0 [some (vR 82), none, none, none] [] _
  have hn := hK.1
  have hc := hL.2.1
  have hdg := zOk_dg hJ ho
  have key : ∀ (k : Nat) (j : Nat), ω 34 5 - j < k → (j : Int) ≤ ω 34 5 → G 4 [some (vR 82), some (vJ (zsn sp pr j)), none, some (vI j)] [] σ := by
    intro k
    induction k with
    | zero => intro j h1 h2; omega
    | succ k ih =>
      intro j h1 h2
      have ih' := ih (j + 1)
      simp only [zsn] at ih'
      apply hG [4] 60
      simp only [cq_lt, cq_le, cq_gt, cq_ge, cq_eq, cq_r1, cq_r2, ab_r32, ab_r64, ab_go, ab_stp, wp_z, ab_in, ab_rok, ab_wsum, ab_prm, ab_ret, ab_sw, ab_cd, ab_tg, ab_cat_i, ab_cat_l, ab_cat_r, ab_cl_n, ab_cl_i, ab_cl_l, ab_cl_r, ab_f2_0, ab_f2_1, ab_f4_0, ab_f4_1, ab_f4_2, ab_f4_3, ab_op_s, ab_b1_s, ab_b2_s, ab_l1_s, ab_l2_s, ab_li_s, ab_o1_s, ab_io_s, ab_lo1_s, ab_iio_s, ab_lio_s, ab_cp5_s, ab_d2_l, ab_d2_i, ab_d2_o, ex_iconst, ex_bipush, ex_sipush, ex_lconst, ex_ldc, ex_ldc_w, ex_ldc2_w, ex_iadd, ex_isub, ex_imul, ex_iand, ex_ior, ex_ixor, ex_ishl, ex_ishr, ex_iushr, ex_idiv, ex_irem, ex_ladd, ex_lsub, ex_lmul, ex_lor, ex_ldiv, ex_lrem, ex_lshl, ex_lcmp, ex_ineg, ex_lneg, ex_i2l, ex_l2i, ex_i2b, ex_dup, ex_pop, ex_dup2, ex_goto, ex_tableswitch, ex_aaload, ex_ireturn, ex_lreturn, ex_return_, List.map_cons, List.map_nil, List.sum_cons, List.sum_nil, List.drop_succ_cons, List.drop_zero, List.take_succ_cons, List.take_zero, List.reverse_cons, List.reverse_nil, List.nil_append, List.cons_append, List.length_cons, List.length_nil, true_and, and_true, cond_false, cond_true, Bool.false_or, Bool.or_false, Bool.or_true, Bool.true_or, true_or, or_true, false_or, or_false, if_true, if_false, reduceIte, ite_true, ite_false, implies_true, true_implies, false_implies, forall_const, not_true_eq_false, not_false_eq_true, Nat.reduceAdd, Nat.reduceMul, Nat.reduceSub, Nat.reduceBEq, Nat.reduceEqDiff, Nat.reduceLeDiff, Nat.reduceLT, Int.reduceAdd, Int.reduceSub, Int.reduceMul, Int.reduceNeg, Int.reduceToNat, Int.reduceLE, Int.reduceLT, Int.reduceEq, Int.reduceNe, Int.reduceNatCast, Nat.add_zero, Nat.zero_add, reduceCtorEq, Int.reduceNatCast', wp_c, wp_g, e2_ifCond, e2_if_icmp, ↓bq_t, ↓bq_f, ab_br, ↓ab_b1_s, ↓ab_b2_s, ↓ab_l1_s, ↓ab_l2_s, ↓ab_li_s, ↓ab_o1_s, ↓ab_io_s, ↓ab_lo1_s, ↓ab_iio_s, ↓ab_lio_s, ↓ab_cp5_s, moX4_snapshot, dX4_snapshot_0, dX4_snapshot_1, dls_1, dX4_snapshot_2, dX4_snapshot_3, dis_3, dX4_snapshot_4, dil_3, dX4_snapshot_5, dal_0, dX4_snapshot_6, dg1_4_57_82, dX4_snapshot_9, dg1_4_140_65, dX4_snapshot_12, dX4_snapshot_15, dll_1, dX4_snapshot_16, dX4_snapshot_18, dX4_snapshot_19, dX4_snapshot_20, dX4_snapshot_23, dg1_4_71_65, dX4_snapshot_26, dX4_snapshot_27, dX4_snapshot_28, dX4_snapshot_30, dX4_snapshot_31, dX4_snapshot_32, dX4_snapshot_33, dX4_snapshot_34, dX4_snapshot_37, dg1_4_66_65, dX4_snapshot_40, dX4_snapshot_41, dX4_snapshot_42, dX4_snapshot_43, dX4_snapshot_44, dX4_snapshot_45, dinc_3, dX4_snapshot_48, dX4_snapshot_51, dX4_snapshot_52, dal1_66, dal1_67, hc]
      repeat' (with_reducible (first | apply And.intro | intro _))
      all_goals first | omega | skip
      · rename_i hq
        have e : (ω 34 5).toNat = j := by omega
        rw [e] at h
        exact h
      all_goals (obtain ⟨q1, q2, -⟩ := hL.2.2.2 j (by omega) (by omega); have q3 := ho j (by omega) (by omega); have q4 := zSt_le hJ.1 q3.1)
      all_goals (have q5 := z_shl6 (x := sp j) (by omega))
      all_goals try rw [q1]
      all_goals first | omega | skip
      · have b := zsn_in (sp := sp) (pr := pr) (j := j) (fun i hi => hdg i (by omega))
        have b2 : zsn sp pr j < 35184372088832 := by
          rcases (show j = 0 ∨ j = 1 ∨ j = 2 ∨ j = 3 by omega) with rfl | rfl | rfl | rfl <;> omega
        rw [q2, q5, z_shlL ⟨b.1, b2⟩, z_orL15 ⟨b.1, b2⟩ (by omega)]
        have e2 : zsn sp pr j * 32768 + sp j * 64 = (zsn sp pr j * 512 + sp j) * 64 := by omega
        rw [e2, z_orL6 (by omega) (by omega), ← e2]
        exact ih' (by omega) (by omega)
  apply hG [4] 60
  simp only [cq_lt, cq_le, cq_gt, cq_ge, cq_eq, cq_r1, cq_r2, ab_r32, ab_r64, ab_go, ab_stp, wp_z, ab_in, ab_rok, ab_wsum, ab_prm, ab_ret, ab_sw, ab_cd, ab_tg, ab_cat_i, ab_cat_l, ab_cat_r, ab_cl_n, ab_cl_i, ab_cl_l, ab_cl_r, ab_f2_0, ab_f2_1, ab_f4_0, ab_f4_1, ab_f4_2, ab_f4_3, ab_op_s, ab_b1_s, ab_b2_s, ab_l1_s, ab_l2_s, ab_li_s, ab_o1_s, ab_io_s, ab_lo1_s, ab_iio_s, ab_lio_s, ab_cp5_s, ab_d2_l, ab_d2_i, ab_d2_o, ex_iconst, ex_bipush, ex_sipush, ex_lconst, ex_ldc, ex_ldc_w, ex_ldc2_w, ex_iadd, ex_isub, ex_imul, ex_iand, ex_ior, ex_ixor, ex_ishl, ex_ishr, ex_iushr, ex_idiv, ex_irem, ex_ladd, ex_lsub, ex_lmul, ex_lor, ex_ldiv, ex_lrem, ex_lshl, ex_lcmp, ex_ineg, ex_lneg, ex_i2l, ex_l2i, ex_i2b, ex_dup, ex_pop, ex_dup2, ex_goto, ex_tableswitch, ex_aaload, ex_ireturn, ex_lreturn, ex_return_, List.map_cons, List.map_nil, List.sum_cons, List.sum_nil, List.drop_succ_cons, List.drop_zero, List.take_succ_cons, List.take_zero, List.reverse_cons, List.reverse_nil, List.nil_append, List.cons_append, List.length_cons, List.length_nil, true_and, and_true, cond_false, cond_true, Bool.false_or, Bool.or_false, Bool.or_true, Bool.true_or, true_or, or_true, false_or, or_false, if_true, if_false, reduceIte, ite_true, ite_false, implies_true, true_implies, false_implies, forall_const, not_true_eq_false, not_false_eq_true, Nat.reduceAdd, Nat.reduceMul, Nat.reduceSub, Nat.reduceBEq, Nat.reduceEqDiff, Nat.reduceLeDiff, Nat.reduceLT, Int.reduceAdd, Int.reduceSub, Int.reduceMul, Int.reduceNeg, Int.reduceToNat, Int.reduceLE, Int.reduceLT, Int.reduceEq, Int.reduceNe, Int.reduceNatCast, Nat.add_zero, Nat.zero_add, reduceCtorEq, Int.reduceNatCast', wp_c, wp_g, e2_ifCond, e2_if_icmp, ↓bq_t, ↓bq_f, ab_br, ↓ab_b1_s, ↓ab_b2_s, ↓ab_l1_s, ↓ab_l2_s, ↓ab_li_s, ↓ab_o1_s, ↓ab_io_s, ↓ab_lo1_s, ↓ab_iio_s, ↓ab_lio_s, ↓ab_cp5_s, moX4_snapshot, dX4_snapshot_0, dX4_snapshot_1, dls_1, dX4_snapshot_2, dX4_snapshot_3, dis_3, dX4_snapshot_4, dil_3, dX4_snapshot_5, dal_0, dX4_snapshot_6, dg1_4_57_82, dX4_snapshot_9, dg1_4_140_65, dX4_snapshot_12, dX4_snapshot_15, dll_1, dX4_snapshot_16, dX4_snapshot_18, dX4_snapshot_19, dX4_snapshot_20, dX4_snapshot_23, dg1_4_71_65, dX4_snapshot_26, dX4_snapshot_27, dX4_snapshot_28, dX4_snapshot_30, dX4_snapshot_31, dX4_snapshot_32, dX4_snapshot_33, dX4_snapshot_34, dX4_snapshot_37, dg1_4_66_65, dX4_snapshot_40, dX4_snapshot_41, dX4_snapshot_42, dX4_snapshot_43, dX4_snapshot_44, dX4_snapshot_45, dinc_3, dX4_snapshot_48, dX4_snapshot_51, dX4_snapshot_52, dal1_66, dal1_67]
  exact key 5 0 (by omega) (by omega)
set_option maxRecDepth 100000 in
set_option maxHeartbeats 4000000 in
theorem r_endChase {σ : ab_S} {a b c : Int} {K : ab_V → ab_S → Prop} (h : K (vI 0) (ab_up (ab_up (ab_up σ 87 0 a) 87 1 b) 87 2 c)) : ab_Runs ab_G1 mdX4_endChase [vR 82, vI a, vI b, vI c] σ K := by
  refine ab_runs mwX4_endChase (by decide +kernel) (Nat.le_of_ble_eq_true rfl) (fun G hG => ?_)
  show G 0 [some (vR 82), some (vI a), some (vI b), some (vI c)] [] _
  apply hG [9999] 60
  simp only [cq_lt, cq_le, cq_gt, cq_ge, cq_eq, cq_r1, cq_r2, ab_r32, ab_r64, ab_go, ab_stp, wp_z, ab_in, ab_rok, ab_wsum, ab_prm, ab_ret, ab_sw, ab_cd, ab_tg, ab_cat_i, ab_cat_l, ab_cat_r, ab_cl_n, ab_cl_i, ab_cl_l, ab_cl_r, ab_f2_0, ab_f2_1, ab_f4_0, ab_f4_1, ab_f4_2, ab_f4_3, ab_op_s, ab_b1_s, ab_b2_s, ab_l1_s, ab_l2_s, ab_li_s, ab_o1_s, ab_io_s, ab_lo1_s, ab_iio_s, ab_lio_s, ab_cp5_s, ab_d2_l, ab_d2_i, ab_d2_o, ex_iconst, ex_bipush, ex_sipush, ex_lconst, ex_ldc, ex_ldc_w, ex_ldc2_w, ex_iadd, ex_isub, ex_imul, ex_iand, ex_ior, ex_ixor, ex_ishl, ex_ishr, ex_iushr, ex_idiv, ex_irem, ex_ladd, ex_lsub, ex_lmul, ex_lor, ex_ldiv, ex_lrem, ex_lshl, ex_lcmp, ex_ineg, ex_lneg, ex_i2l, ex_l2i, ex_i2b, ex_dup, ex_pop, ex_dup2, ex_goto, ex_tableswitch, ex_aaload, ex_ireturn, ex_lreturn, ex_return_, List.map_cons, List.map_nil, List.sum_cons, List.sum_nil, List.drop_succ_cons, List.drop_zero, List.take_succ_cons, List.take_zero, List.reverse_cons, List.reverse_nil, List.nil_append, List.cons_append, List.length_cons, List.length_nil, true_and, and_true, cond_false, cond_true, Bool.false_or, Bool.or_false, Bool.or_true, Bool.true_or, true_or, or_true, false_or, or_false, if_true, if_false, reduceIte, ite_true, ite_false, implies_true, true_implies, false_implies, forall_const, not_true_eq_false, not_false_eq_true, Nat.reduceAdd, Nat.reduceMul, Nat.reduceSub, Nat.reduceBEq, Nat.reduceEqDiff, Nat.reduceLeDiff, Nat.reduceLT, Int.reduceAdd, Int.reduceSub, Int.reduceMul, Int.reduceNeg, Int.reduceToNat, Int.reduceLE, Int.reduceLT, Int.reduceEq, Int.reduceNe, Int.reduceNatCast, Nat.add_zero, Nat.zero_add, reduceCtorEq, Int.reduceNatCast', wp_c, wp_g, e2_ifCond, e2_if_icmp, ↓bq_t, ↓bq_f, ab_br, ↓ab_b1_s, ↓ab_b2_s, ↓ab_l1_s, ↓ab_l2_s, ↓ab_li_s, ↓ab_o1_s, ↓ab_io_s, ↓ab_lo1_s, ↓ab_iio_s, ↓ab_lio_s, ↓ab_cp5_s, moX4_endChase, dX4_endChase_0, dal_0, dX4_endChase_1, dg1_4_25_82, dX4_endChase_4, dX4_endChase_5, dil_1, dX4_endChase_6, dX4_endChase_7, dX4_endChase_8, dX4_endChase_11, dX4_endChase_12, dil_2, dX4_endChase_13, dX4_endChase_14, dX4_endChase_15, dX4_endChase_18, dX4_endChase_19, dil_3, dX4_endChase_20, dX4_endChase_21, das1_87]
  repeat' (with_reducible (first | apply And.intro | intro _))
  all_goals first | omega | exact h
set_option maxRecDepth 100000 in
set_option maxHeartbeats 4000000 in
theorem r_sameAgo {σ : ab_S} {r : Int} {K : ab_V → ab_S → Prop} (hr : 1 ≤ r ∧ r ≤ 60) (hh : ∀ i, 0 ≤ i → i ≤ r → 0 ≤ σ 84 i ∧ σ 84 i < 1152921504606846976) (h : ∀ v, ((∃ e, 0 ≤ e ∧ e < r ∧ σ 84 e = σ 84 r ∧ (∀ i, e < i → i < r → σ 84 i ≠ σ 84 r) ∧ v = r - e) ∨ ((∀ i, 0 ≤ i → i < r → σ 84 i ≠ σ 84 r) ∧ v = 0)) → K (vI v) σ) : ab_Runs ab_G1 mdX4_sameAgo [vR 82, vI r] σ K := by
  refine ab_runs mwX4_sameAgo (by decide +kernel) (Nat.le_of_ble_eq_true rfl) (fun G hG => ?_)
  show G 0 [some (vR 82), some (vI r), none] [] _
  have hr2 := hh r (by omega) (by omega)
  have key : ∀ (k : Nat) (e : Int), e + 1 < k → -1 ≤ e → e < r → (∀ i, e < i → i < r → σ 84 i ≠ σ 84 r) → G 4 [some (vR 82), some (vI r), some (vI e)] [] σ := by
    intro k
    induction k with
    | zero => intro e h1 h2; omega
    | succ k ih =>
      intro e h1 h2 h3 hn
      apply hG [4] 60
      simp only [cq_lt, cq_le, cq_gt, cq_ge, cq_eq, cq_r1, cq_r2, ab_r32, ab_r64, ab_go, ab_stp, wp_z, ab_in, ab_rok, ab_wsum, ab_prm, ab_ret, ab_sw, ab_cd, ab_tg, ab_cat_i, ab_cat_l, ab_cat_r, ab_cl_n, ab_cl_i, ab_cl_l, ab_cl_r, ab_f2_0, ab_f2_1, ab_f4_0, ab_f4_1, ab_f4_2, ab_f4_3, ab_op_s, ab_b1_s, ab_b2_s, ab_l1_s, ab_l2_s, ab_li_s, ab_o1_s, ab_io_s, ab_lo1_s, ab_iio_s, ab_lio_s, ab_cp5_s, ab_d2_l, ab_d2_i, ab_d2_o, ex_iconst, ex_bipush, ex_sipush, ex_lconst, ex_ldc, ex_ldc_w, ex_ldc2_w, ex_iadd, ex_isub, ex_imul, ex_iand, ex_ior, ex_ixor, ex_ishl, ex_ishr, ex_iushr, ex_idiv, ex_irem, ex_ladd, ex_lsub, ex_lmul, ex_lor, ex_ldiv, ex_lrem, ex_lshl, ex_lcmp, ex_ineg, ex_lneg, ex_i2l, ex_l2i, ex_i2b, ex_dup, ex_pop, ex_dup2, ex_goto, ex_tableswitch, ex_aaload, ex_ireturn, ex_lreturn, ex_return_, List.map_cons, List.map_nil, List.sum_cons, List.sum_nil, List.drop_succ_cons, List.drop_zero, List.take_succ_cons, List.take_zero, List.reverse_cons, List.reverse_nil, List.nil_append, List.cons_append, List.length_cons, List.length_nil, true_and, and_true, cond_false, cond_true, Bool.false_or, Bool.or_false, Bool.or_true, Bool.true_or, true_or, or_true, false_or, or_false, if_true, if_false, reduceIte, ite_true, ite_false, implies_true, true_implies, false_implies, forall_const, not_true_eq_false, not_false_eq_true, Nat.reduceAdd, Nat.reduceMul, Nat.reduceSub, Nat.reduceBEq, Nat.reduceEqDiff, Nat.reduceLeDiff, Nat.reduceLT, Int.reduceAdd, Int.reduceSub, Int.reduceMul, Int.reduceNeg, Int.reduceToNat, Int.reduceLE, Int.reduceLT, Int.reduceEq, Int.reduceNe, Int.reduceNatCast, Nat.add_zero, Nat.zero_add, reduceCtorEq, Int.reduceNatCast', wp_c, wp_g, e2_ifCond, e2_if_icmp, ↓bq_t, ↓bq_f, ab_br, ↓ab_b1_s, ↓ab_b2_s, ↓ab_l1_s, ↓ab_l2_s, ↓ab_li_s, ↓ab_o1_s, ↓ab_io_s, ↓ab_lo1_s, ↓ab_iio_s, ↓ab_lio_s, ↓ab_cp5_s, moX4_sameAgo, dX4_sameAgo_0, dil_1, dX4_sameAgo_1, dX4_sameAgo_2, dX4_sameAgo_3, dis_2, dX4_sameAgo_4, dil_2, dX4_sameAgo_5, dX4_sameAgo_8, dal_0, dX4_sameAgo_9, dg1_4_15_82, dX4_sameAgo_12, dX4_sameAgo_13, dX4_sameAgo_14, dX4_sameAgo_15, dX4_sameAgo_18, dX4_sameAgo_19, dX4_sameAgo_20, dX4_sameAgo_21, dX4_sameAgo_24, dX4_sameAgo_25, dX4_sameAgo_26, dX4_sameAgo_27, dX4_sameAgo_28, dinc_2, dX4_sameAgo_31, dX4_sameAgo_34, dX4_sameAgo_35, dal1_84]
      repeat' (with_reducible (first | apply And.intro | intro _))
      all_goals first | omega | skip
      · exact h 0 (Or.inr ⟨fun i i1 i2 => hn i (by omega) i2, rfl⟩)
      all_goals (have q := hh e (by omega) (by omega))
      all_goals first | omega | skip
      · rename_i hq hq2
        refine ih (e - 1) (by omega) (by omega) (by omega) (fun i i1 i2 => ?_)
        by_cases c : i = e
        · rw [c]
          exact hq2
        · exact hn i (by omega) i2
      · rename_i hq hq2
        exact h _ (Or.inl ⟨e, by omega, h3, by omega, hn, rfl⟩)
  apply hG [4] 60
  simp only [cq_lt, cq_le, cq_gt, cq_ge, cq_eq, cq_r1, cq_r2, ab_r32, ab_r64, ab_go, ab_stp, wp_z, ab_in, ab_rok, ab_wsum, ab_prm, ab_ret, ab_sw, ab_cd, ab_tg, ab_cat_i, ab_cat_l, ab_cat_r, ab_cl_n, ab_cl_i, ab_cl_l, ab_cl_r, ab_f2_0, ab_f2_1, ab_f4_0, ab_f4_1, ab_f4_2, ab_f4_3, ab_op_s, ab_b1_s, ab_b2_s, ab_l1_s, ab_l2_s, ab_li_s, ab_o1_s, ab_io_s, ab_lo1_s, ab_iio_s, ab_lio_s, ab_cp5_s, ab_d2_l, ab_d2_i, ab_d2_o, ex_iconst, ex_bipush, ex_sipush, ex_lconst, ex_ldc, ex_ldc_w, ex_ldc2_w, ex_iadd, ex_isub, ex_imul, ex_iand, ex_ior, ex_ixor, ex_ishl, ex_ishr, ex_iushr, ex_idiv, ex_irem, ex_ladd, ex_lsub, ex_lmul, ex_lor, ex_ldiv, ex_lrem, ex_lshl, ex_lcmp, ex_ineg, ex_lneg, ex_i2l, ex_l2i, ex_i2b, ex_dup, ex_pop, ex_dup2, ex_goto, ex_tableswitch, ex_aaload, ex_ireturn, ex_lreturn, ex_return_, List.map_cons, List.map_nil, List.sum_cons, List.sum_nil, List.drop_succ_cons, List.drop_zero, List.take_succ_cons, List.take_zero, List.reverse_cons, List.reverse_nil, List.nil_append, List.cons_append, List.length_cons, List.length_nil, true_and, and_true, cond_false, cond_true, Bool.false_or, Bool.or_false, Bool.or_true, Bool.true_or, true_or, or_true, false_or, or_false, if_true, if_false, reduceIte, ite_true, ite_false, implies_true, true_implies, false_implies, forall_const, not_true_eq_false, not_false_eq_true, Nat.reduceAdd, Nat.reduceMul, Nat.reduceSub, Nat.reduceBEq, Nat.reduceEqDiff, Nat.reduceLeDiff, Nat.reduceLT, Int.reduceAdd, Int.reduceSub, Int.reduceMul, Int.reduceNeg, Int.reduceToNat, Int.reduceLE, Int.reduceLT, Int.reduceEq, Int.reduceNe, Int.reduceNatCast, Nat.add_zero, Nat.zero_add, reduceCtorEq, Int.reduceNatCast', wp_c, wp_g, e2_ifCond, e2_if_icmp, ↓bq_t, ↓bq_f, ab_br, ↓ab_b1_s, ↓ab_b2_s, ↓ab_l1_s, ↓ab_l2_s, ↓ab_li_s, ↓ab_o1_s, ↓ab_io_s, ↓ab_lo1_s, ↓ab_iio_s, ↓ab_lio_s, ↓ab_cp5_s, moX4_sameAgo, dX4_sameAgo_0, dil_1, dX4_sameAgo_1, dX4_sameAgo_2, dX4_sameAgo_3, dis_2, dX4_sameAgo_4, dil_2, dX4_sameAgo_5, dX4_sameAgo_8, dal_0, dX4_sameAgo_9, dg1_4_15_82, dX4_sameAgo_12, dX4_sameAgo_13, dX4_sameAgo_14, dX4_sameAgo_15, dX4_sameAgo_18, dX4_sameAgo_19, dX4_sameAgo_20, dX4_sameAgo_21, dX4_sameAgo_24, dX4_sameAgo_25, dX4_sameAgo_26, dX4_sameAgo_27, dX4_sameAgo_28, dinc_2, dX4_sameAgo_31, dX4_sameAgo_34, dX4_sameAgo_35, dal1_84]
  exact key 62 (r - 1) (by omega) (by omega) (by omega) (fun i i1 i2 => by omega)
/-- the sellers below j have taken their best -/
noncomputable def zRs (ω : ab_S) (a : (Int → Int) × (Int → Int)) : Nat → (Int → Int) × (Int → Int)
  | 0 => a
  | j + 1 => (zTs ω (zRs ω a j).1 j (zBm ω (zRs ω a j).1 (zRs ω a j).2 j), zTp ω (zRs ω a j).2 j (zBm ω (zRs ω a j).1 (zRs ω a j).2 j))
def zMv (ω : ab_S) (a : (Int → Int) × (Int → Int)) (j : Nat) : Prop := ∃ i : Nat, i < j ∧ zBm ω (zRs ω a i).1 (zRs ω a i).2 i ≠ zNow ω (zRs ω a i).1 (zRs ω a i).2 i
theorem zRs_ok {ω : ab_S} {a : (Int → Int) × (Int → Int)} (hJ : zJ ω) (ho : zOk ω a.1 a.2) : ∀ {j : Nat}, (j : Int) ≤ ω 34 5 → zOk ω (zRs ω a j).1 (zRs ω a j).2
  | 0, _ => ho
  | j + 1, hj => by
    have ih := zRs_ok hJ ho (j := j) (by omega)
    exact zOk_t ih (zVm_bm hJ ih (by omega))
set_option maxRecDepth 100000 in
set_option maxHeartbeats 4000000 in
theorem l_round {ω σ : ab_S} {a : (Int → Int) × (Int → Int)} {K : ab_V → ab_S → Prop} (hJ : zJ ω) (hK : zK ω) (hL : zLd ω a.1 a.2 σ) (ho : zOk ω a.1 a.2)
    (h : ∀ ρ v, zLd ω (zRs ω a (ω 34 5).toNat).1 (zRs ω a (ω 34 5).toNat).2 ρ → zFv σ ρ → ((zMv ω a (ω 34 5).toNat ∧ v = 1) ∨ (¬ zMv ω a (ω 34 5).toNat ∧ v = 0)) → K (vI v) ρ) : ab_Runs ab_G1 mdX4_goOneRound [vR 82] σ K := by
  refine ab_runs mwX4_goOneRound (by decide +kernel) (Nat.le_of_ble_eq_true rfl) (fun G hG => ?_)
  show G 0 [some (vR 82), none, none] [] _
  have hn := hK.1
  have or01 : ab_or 0 0 = 0 ∧ ab_or 0 1 = 1 ∧ ab_or 1 0 = 1 ∧ ab_or 1 1 = 1 := by decide +kernel
  have key : ∀ (k : Nat) (j : Nat) (b : Int) (ρ : ab_S), ω 34 5 - j < k → (j : Int) ≤ ω 34 5 → zLd ω (zRs ω a j).1 (zRs ω a j).2 ρ → zFv σ ρ → ((zMv ω a j ∧ b = 1) ∨ (¬ zMv ω a j ∧ b = 0)) → G 4 [some (vR 82), some (vI b), some (vI j)] [] ρ := by
    intro k
    induction k with
    | zero => intro j b ρ h1 h2; omega
    | succ k ih =>
      intro j b ρ h1 h2 hl hf hb
      have hc := hl.2.1
      have hoj := zRs_ok hJ ho (j := j) h2
      have hnow := zTs_now ω (zRs ω a j).1 (zRs ω a j).2 j
      apply hG [4] 60
      simp only [cq_lt, cq_le, cq_gt, cq_ge, cq_eq, cq_r1, cq_r2, ab_r32, ab_r64, ab_go, ab_stp, wp_z, ab_in, ab_rok, ab_wsum, ab_prm, ab_ret, ab_sw, ab_cd, ab_tg, ab_cat_i, ab_cat_l, ab_cat_r, ab_cl_n, ab_cl_i, ab_cl_l, ab_cl_r, ab_f2_0, ab_f2_1, ab_f4_0, ab_f4_1, ab_f4_2, ab_f4_3, ab_op_s, ab_b1_s, ab_b2_s, ab_l1_s, ab_l2_s, ab_li_s, ab_o1_s, ab_io_s, ab_lo1_s, ab_iio_s, ab_lio_s, ab_cp5_s, ab_d2_l, ab_d2_i, ab_d2_o, ex_iconst, ex_bipush, ex_sipush, ex_lconst, ex_ldc, ex_ldc_w, ex_ldc2_w, ex_iadd, ex_isub, ex_imul, ex_iand, ex_ior, ex_ixor, ex_ishl, ex_ishr, ex_iushr, ex_idiv, ex_irem, ex_ladd, ex_lsub, ex_lmul, ex_lor, ex_ldiv, ex_lrem, ex_lshl, ex_lcmp, ex_ineg, ex_lneg, ex_i2l, ex_l2i, ex_i2b, ex_dup, ex_pop, ex_dup2, ex_goto, ex_tableswitch, ex_aaload, ex_ireturn, ex_lreturn, ex_return_, List.map_cons, List.map_nil, List.sum_cons, List.sum_nil, List.drop_succ_cons, List.drop_zero, List.take_succ_cons, List.take_zero, List.reverse_cons, List.reverse_nil, List.nil_append, List.cons_append, List.length_cons, List.length_nil, true_and, and_true, cond_false, cond_true, Bool.false_or, Bool.or_false, Bool.or_true, Bool.true_or, true_or, or_true, false_or, or_false, if_true, if_false, reduceIte, ite_true, ite_false, implies_true, true_implies, false_implies, forall_const, not_true_eq_false, not_false_eq_true, Nat.reduceAdd, Nat.reduceMul, Nat.reduceSub, Nat.reduceBEq, Nat.reduceEqDiff, Nat.reduceLeDiff, Nat.reduceLT, Int.reduceAdd, Int.reduceSub, Int.reduceMul, Int.reduceNeg, Int.reduceToNat, Int.reduceLE, Int.reduceLT, Int.reduceEq, Int.reduceNe, Int.reduceNatCast, Nat.add_zero, Nat.zero_add, reduceCtorEq, Int.reduceNatCast', wp_c, wp_g, e2_ifCond, e2_if_icmp, ↓bq_t, ↓bq_f, ab_br, ↓ab_b1_s, ↓ab_b2_s, ↓ab_l1_s, ↓ab_l2_s, ↓ab_li_s, ↓ab_o1_s, ↓ab_io_s, ↓ab_lo1_s, ↓ab_iio_s, ↓ab_lio_s, ↓ab_cp5_s, moX4_goOneRound, dX4_goOneRound_0, dX4_goOneRound_1, dis_1, dX4_goOneRound_2, dX4_goOneRound_3, dis_2, dX4_goOneRound_4, dil_2, dX4_goOneRound_5, dal_0, dX4_goOneRound_6, dg1_4_57_82, dX4_goOneRound_9, dg1_4_140_65, dX4_goOneRound_12, dX4_goOneRound_15, dX4_goOneRound_16, dX4_goOneRound_17, dv1_4_143_82, moX4_findBest, dX4_goOneRound_20, dX4_goOneRound_21, dX4_goOneRound_22, dX4_goOneRound_23, dg1_4_32_82, dX4_goOneRound_26, dv1_4_137_82, moX4_take, dX4_goOneRound_29, dil_1, dX4_goOneRound_30, dX4_goOneRound_31, dg1_4_39_82, dX4_goOneRound_34, dX4_goOneRound_35, dX4_goOneRound_36, dinc_2, dX4_goOneRound_39, dX4_goOneRound_42, dX4_goOneRound_43, hc]
      repeat' (with_reducible (first | apply And.intro | intro _))
      all_goals first | omega | skip
      · rename_i hq
        have e : (ω 34 5).toNat = j := by omega
        rw [e] at h
        exact h ρ b hl hf hb
      · rename_i hq
        refine l_findBest hJ hK hl hoj ⟨by omega, by omega⟩ (fun φ c1 c2 c3 c4 c5 => ?_)
        try simp only [cq_lt, cq_le, cq_gt, cq_ge, cq_eq, cq_r1, cq_r2, ab_r32, ab_r64, ab_go, ab_stp, wp_z, ab_in, ab_rok, ab_wsum, ab_prm, ab_ret, ab_sw, ab_cd, ab_tg, ab_cat_i, ab_cat_l, ab_cat_r, ab_cl_n, ab_cl_i, ab_cl_l, ab_cl_r, ab_f2_0, ab_f2_1, ab_f4_0, ab_f4_1, ab_f4_2, ab_f4_3, ab_op_s, ab_b1_s, ab_b2_s, ab_l1_s, ab_l2_s, ab_li_s, ab_o1_s, ab_io_s, ab_lo1_s, ab_iio_s, ab_lio_s, ab_cp5_s, ab_d2_l, ab_d2_i, ab_d2_o, ex_iconst, ex_bipush, ex_sipush, ex_lconst, ex_ldc, ex_ldc_w, ex_ldc2_w, ex_iadd, ex_isub, ex_imul, ex_iand, ex_ior, ex_ixor, ex_ishl, ex_ishr, ex_iushr, ex_idiv, ex_irem, ex_ladd, ex_lsub, ex_lmul, ex_lor, ex_ldiv, ex_lrem, ex_lshl, ex_lcmp, ex_ineg, ex_lneg, ex_i2l, ex_l2i, ex_i2b, ex_dup, ex_pop, ex_dup2, ex_goto, ex_tableswitch, ex_aaload, ex_ireturn, ex_lreturn, ex_return_, List.map_cons, List.map_nil, List.sum_cons, List.sum_nil, List.drop_succ_cons, List.drop_zero, List.take_succ_cons, List.take_zero, List.reverse_cons, List.reverse_nil, List.nil_append, List.cons_append, List.length_cons, List.length_nil, true_and, and_true, cond_false, cond_true, Bool.false_or, Bool.or_false, Bool.or_true, Bool.true_or, true_or, or_true, false_or, or_false, if_true, if_false, reduceIte, ite_true, ite_false, implies_true, true_implies, false_implies, forall_const, not_true_eq_false, not_false_eq_true, Nat.reduceAdd, Nat.reduceMul, Nat.reduceSub, Nat.reduceBEq, Nat.reduceEqDiff, Nat.reduceLeDiff, Nat.reduceLT, Int.reduceAdd, Int.reduceSub, Int.reduceMul, Int.reduceNeg, Int.reduceToNat, Int.reduceLE, Int.reduceLT, Int.reduceEq, Int.reduceNe, Int.reduceNatCast, Nat.add_zero, Nat.zero_add, reduceCtorEq, Int.reduceNatCast', wp_c, wp_g, e2_ifCond, e2_if_icmp, ↓bq_t, ↓bq_f, ab_br, ↓ab_b1_s, ↓ab_b2_s, ↓ab_l1_s, ↓ab_l2_s, ↓ab_li_s, ↓ab_o1_s, ↓ab_io_s, ↓ab_lo1_s, ↓ab_iio_s, ↓ab_lio_s, ↓ab_cp5_s, moX4_goOneRound, dX4_goOneRound_0, dX4_goOneRound_1, dis_1, dX4_goOneRound_2, dX4_goOneRound_3, dis_2, dX4_goOneRound_4, dil_2, dX4_goOneRound_5, dal_0, dX4_goOneRound_6, dg1_4_57_82, dX4_goOneRound_9, dg1_4_140_65, dX4_goOneRound_12, dX4_goOneRound_15, dX4_goOneRound_16, dX4_goOneRound_17, dv1_4_143_82, moX4_findBest, dX4_goOneRound_20, dX4_goOneRound_21, dX4_goOneRound_22, dX4_goOneRound_23, dg1_4_32_82, dX4_goOneRound_26, dv1_4_137_82, moX4_take, dX4_goOneRound_29, dil_1, dX4_goOneRound_30, dX4_goOneRound_31, dg1_4_39_82, dX4_goOneRound_34, dX4_goOneRound_35, dX4_goOneRound_36, dinc_2, dX4_goOneRound_39, dX4_goOneRound_42, dX4_goOneRound_43]
        repeat' (with_reducible (first | apply And.intro | intro _))
        all_goals first | omega | skip
        have c1' : zLd ω (zTs ω (zRs ω a j).1 j (zNow ω (zRs ω a j).1 (zRs ω a j).2 j)) (zTp ω (zRs ω a j).2 j (zNow ω (zRs ω a j).1 (zRs ω a j).2 j)) φ := by
          rw [hnow.1, hnow.2]
          exact c1
        rw [c3]
        refine l_take hJ hK c1' ⟨by omega, by omega⟩ (zVm_bm hJ hoj ⟨by omega, by omega⟩) (fun ψ d1 d2 => ?_)
        have e82 : ψ 82 = φ 82 := d2 82 (by decide)
        try simp only [cq_lt, cq_le, cq_gt, cq_ge, cq_eq, cq_r1, cq_r2, ab_r32, ab_r64, ab_go, ab_stp, wp_z, ab_in, ab_rok, ab_wsum, ab_prm, ab_ret, ab_sw, ab_cd, ab_tg, ab_cat_i, ab_cat_l, ab_cat_r, ab_cl_n, ab_cl_i, ab_cl_l, ab_cl_r, ab_f2_0, ab_f2_1, ab_f4_0, ab_f4_1, ab_f4_2, ab_f4_3, ab_op_s, ab_b1_s, ab_b2_s, ab_l1_s, ab_l2_s, ab_li_s, ab_o1_s, ab_io_s, ab_lo1_s, ab_iio_s, ab_lio_s, ab_cp5_s, ab_d2_l, ab_d2_i, ab_d2_o, ex_iconst, ex_bipush, ex_sipush, ex_lconst, ex_ldc, ex_ldc_w, ex_ldc2_w, ex_iadd, ex_isub, ex_imul, ex_iand, ex_ior, ex_ixor, ex_ishl, ex_ishr, ex_iushr, ex_idiv, ex_irem, ex_ladd, ex_lsub, ex_lmul, ex_lor, ex_ldiv, ex_lrem, ex_lshl, ex_lcmp, ex_ineg, ex_lneg, ex_i2l, ex_l2i, ex_i2b, ex_dup, ex_pop, ex_dup2, ex_goto, ex_tableswitch, ex_aaload, ex_ireturn, ex_lreturn, ex_return_, List.map_cons, List.map_nil, List.sum_cons, List.sum_nil, List.drop_succ_cons, List.drop_zero, List.take_succ_cons, List.take_zero, List.reverse_cons, List.reverse_nil, List.nil_append, List.cons_append, List.length_cons, List.length_nil, true_and, and_true, cond_false, cond_true, Bool.false_or, Bool.or_false, Bool.or_true, Bool.true_or, true_or, or_true, false_or, or_false, if_true, if_false, reduceIte, ite_true, ite_false, implies_true, true_implies, false_implies, forall_const, not_true_eq_false, not_false_eq_true, Nat.reduceAdd, Nat.reduceMul, Nat.reduceSub, Nat.reduceBEq, Nat.reduceEqDiff, Nat.reduceLeDiff, Nat.reduceLT, Int.reduceAdd, Int.reduceSub, Int.reduceMul, Int.reduceNeg, Int.reduceToNat, Int.reduceLE, Int.reduceLT, Int.reduceEq, Int.reduceNe, Int.reduceNatCast, Nat.add_zero, Nat.zero_add, reduceCtorEq, Int.reduceNatCast', wp_c, wp_g, e2_ifCond, e2_if_icmp, ↓bq_t, ↓bq_f, ab_br, ↓ab_b1_s, ↓ab_b2_s, ↓ab_l1_s, ↓ab_l2_s, ↓ab_li_s, ↓ab_o1_s, ↓ab_io_s, ↓ab_lo1_s, ↓ab_iio_s, ↓ab_lio_s, ↓ab_cp5_s, moX4_goOneRound, dX4_goOneRound_0, dX4_goOneRound_1, dis_1, dX4_goOneRound_2, dX4_goOneRound_3, dis_2, dX4_goOneRound_4, dil_2, dX4_goOneRound_5, dal_0, dX4_goOneRound_6, dg1_4_57_82, dX4_goOneRound_9, dg1_4_140_65, dX4_goOneRound_12, dX4_goOneRound_15, dX4_goOneRound_16, dX4_goOneRound_17, dv1_4_143_82, moX4_findBest, dX4_goOneRound_20, dX4_goOneRound_21, dX4_goOneRound_22, dX4_goOneRound_23, dg1_4_32_82, dX4_goOneRound_26, dv1_4_137_82, moX4_take, dX4_goOneRound_29, dil_1, dX4_goOneRound_30, dX4_goOneRound_31, dg1_4_39_82, dX4_goOneRound_34, dX4_goOneRound_35, dX4_goOneRound_36, dinc_2, dX4_goOneRound_39, dX4_goOneRound_42, dX4_goOneRound_43, e82]
        refine ih (j + 1) _ ψ (by omega) (by omega) d1 (zFv_trans (zFv_trans hf c2) (zFm_v d2)) ?_
        rcases hb with ⟨x, rfl⟩ | ⟨x, rfl⟩
        · left
          refine ⟨?_, ?_⟩
          · obtain ⟨i, i1, i2⟩ := x
            exact ⟨i, by omega, i2⟩
          · rcases c5 with ⟨-, y⟩ | ⟨-, y⟩ <;> rw [y]
            · exact or01.2.2.2
            · exact or01.2.2.1
        · rcases c5 with ⟨y1, y⟩ | ⟨y1, y⟩
          · left
            rw [y]
            exact ⟨⟨j, by omega, y1⟩, or01.2.1⟩
          · right
            rw [y]
            refine ⟨?_, or01.1⟩
            rintro ⟨i, i1, i2⟩
            by_cases c : i = j
            · subst c
              exact i2 y1
            · exact x ⟨i, by omega, i2⟩
  apply hG [4] 60
  simp only [cq_lt, cq_le, cq_gt, cq_ge, cq_eq, cq_r1, cq_r2, ab_r32, ab_r64, ab_go, ab_stp, wp_z, ab_in, ab_rok, ab_wsum, ab_prm, ab_ret, ab_sw, ab_cd, ab_tg, ab_cat_i, ab_cat_l, ab_cat_r, ab_cl_n, ab_cl_i, ab_cl_l, ab_cl_r, ab_f2_0, ab_f2_1, ab_f4_0, ab_f4_1, ab_f4_2, ab_f4_3, ab_op_s, ab_b1_s, ab_b2_s, ab_l1_s, ab_l2_s, ab_li_s, ab_o1_s, ab_io_s, ab_lo1_s, ab_iio_s, ab_lio_s, ab_cp5_s, ab_d2_l, ab_d2_i, ab_d2_o, ex_iconst, ex_bipush, ex_sipush, ex_lconst, ex_ldc, ex_ldc_w, ex_ldc2_w, ex_iadd, ex_isub, ex_imul, ex_iand, ex_ior, ex_ixor, ex_ishl, ex_ishr, ex_iushr, ex_idiv, ex_irem, ex_ladd, ex_lsub, ex_lmul, ex_lor, ex_ldiv, ex_lrem, ex_lshl, ex_lcmp, ex_ineg, ex_lneg, ex_i2l, ex_l2i, ex_i2b, ex_dup, ex_pop, ex_dup2, ex_goto, ex_tableswitch, ex_aaload, ex_ireturn, ex_lreturn, ex_return_, List.map_cons, List.map_nil, List.sum_cons, List.sum_nil, List.drop_succ_cons, List.drop_zero, List.take_succ_cons, List.take_zero, List.reverse_cons, List.reverse_nil, List.nil_append, List.cons_append, List.length_cons, List.length_nil, true_and, and_true, cond_false, cond_true, Bool.false_or, Bool.or_false, Bool.or_true, Bool.true_or, true_or, or_true, false_or, or_false, if_true, if_false, reduceIte, ite_true, ite_false, implies_true, true_implies, false_implies, forall_const, not_true_eq_false, not_false_eq_true, Nat.reduceAdd, Nat.reduceMul, Nat.reduceSub, Nat.reduceBEq, Nat.reduceEqDiff, Nat.reduceLeDiff, Nat.reduceLT, Int.reduceAdd, Int.reduceSub, Int.reduceMul, Int.reduceNeg, Int.reduceToNat, Int.reduceLE, Int.reduceLT, Int.reduceEq, Int.reduceNe, Int.reduceNatCast, Nat.add_zero, Nat.zero_add, reduceCtorEq, Int.reduceNatCast', wp_c, wp_g, e2_ifCond, e2_if_icmp, ↓bq_t, ↓bq_f, ab_br, ↓ab_b1_s, ↓ab_b2_s, ↓ab_l1_s, ↓ab_l2_s, ↓ab_li_s, ↓ab_o1_s, ↓ab_io_s, ↓ab_lo1_s, ↓ab_iio_s, ↓ab_lio_s, ↓ab_cp5_s, moX4_goOneRound, dX4_goOneRound_0, dX4_goOneRound_1, dis_1, dX4_goOneRound_2, dX4_goOneRound_3, dis_2, dX4_goOneRound_4, dil_2, dX4_goOneRound_5, dal_0, dX4_goOneRound_6, dg1_4_57_82, dX4_goOneRound_9, dg1_4_140_65, dX4_goOneRound_12, dX4_goOneRound_15, dX4_goOneRound_16, dX4_goOneRound_17, dv1_4_143_82, moX4_findBest, dX4_goOneRound_20, dX4_goOneRound_21, dX4_goOneRound_22, dX4_goOneRound_23, dg1_4_32_82, dX4_goOneRound_26, dv1_4_137_82, moX4_take, dX4_goOneRound_29, dil_1, dX4_goOneRound_30, dX4_goOneRound_31, dg1_4_39_82, dX4_goOneRound_34, dX4_goOneRound_35, dX4_goOneRound_36, dinc_2, dX4_goOneRound_39, dX4_goOneRound_42, dX4_goOneRound_43]
  exact key 5 0 0 σ (by omega) (by omega) hL (zFv_refl σ) (Or.inr ⟨fun ⟨i, i1, _⟩ => by omega, rfl⟩)
/-- the stands behind r rounds -/
noncomputable def zRn (ω : ab_S) : Nat → (Int → Int) × (Int → Int)
  | 0 => (ω 35, zpr ω (ω 36))
  | r + 1 => zRs ω (zRn ω r) (ω 34 5).toNat
theorem zRn_ok {ω : ab_S} (hJ : zJ ω) (hK : zK ω) : ∀ r : Nat, zOk ω (zRn ω r).1 (zRn ω r).2
  | 0 => zOk_0 hJ hK
  | r + 1 => zRs_ok hJ (zRn_ok hJ hK r) (by have := hK.1; omega)
def zSm (ω : ab_S) (a b : (Int → Int) × (Int → Int)) : Prop := ∀ j, 0 ≤ j → j < ω 34 5 → a.1 j = b.1 j ∧ a.2 j = b.2 j
theorem zSm_sn {ω : ab_S} (hJ : zJ ω) (hK : zK ω) (r e : Nat) : zsn (zRn ω e).1 (zRn ω e).2 (ω 34 5).toNat = zsn (zRn ω r).1 (zRn ω r).2 (ω 34 5).toNat ↔ zSm ω (zRn ω e) (zRn ω r) := by
  constructor
  · intro h j j1 j2
    have := zsn_inj (zOk_dg hJ (zRn_ok hJ hK e)) (zOk_dg hJ (zRn_ok hJ hK r)) h j.toNat (by omega)
    rw [show ((j.toNat : Nat) : Int) = j by omega] at this
    exact this
  · intro h
    exact zsn_congr (fun i hi => h i (by omega) (by omega))
/-- it goes on behind round r -/
def zGo (ω : ab_S) (r : Nat) : Prop := zMv ω (zRn ω (r - 1)) (ω 34 5).toNat ∧ ∀ e : Nat, e < r → ¬ zSm ω (zRn ω e) (zRn ω r)
/-- how a chase of n rounds ends: how, behind which round, the ring's length -/
def zChs (ω : ab_S) (n how : Int) (R : Nat) (len : Int) : Prop := (1 ≤ R ∧ (R : Int) ≤ n) ∧ (∀ r : Nat, 1 ≤ r → r < R → zGo ω r) ∧ ((how = 0 ∧ len = 0 ∧ ¬ zMv ω (zRn ω (R - 1)) (ω 34 5).toNat) ∨ (how = 1 ∧ zMv ω (zRn ω (R - 1)) (ω 34 5).toNat ∧ ∃ e : Nat, e < R ∧ zSm ω (zRn ω e) (zRn ω R) ∧ (∀ i : Nat, e < i → i < R → ¬ zSm ω (zRn ω i) (zRn ω R)) ∧ len = R - e) ∨ (how = 2 ∧ len = 0 ∧ (R : Int) = n ∧ zGo ω R))
theorem zChs_one {ω : ab_S} {n h1 h2 l1 l2 : Int} {R1 R2 : Nat} (a : zChs ω n h1 R1 l1) (b : zChs ω n h2 R2 l2) : h1 = h2 ∧ R1 = R2 ∧ l1 = l2 := by
  have stop : ∀ {h l : Int} {R : Nat}, zChs ω n h R l → (R : Int) = n ∨ ¬ zGo ω R := by
    intro h l R c
    rcases c.2.2 with ⟨-, -, x⟩ | ⟨-, -, e, e1, e2, -⟩ | ⟨-, -, x, -⟩
    · exact Or.inr (fun z => x z.1)
    · exact Or.inr (fun z => z.2 e e1 e2)
    · exact Or.inl x
  have hR : R1 = R2 := by
    by_cases c : R1 < R2
    · have g := b.2.1 R1 a.1.1 c
      rcases stop a with x | x
      · have := b.1.2
        omega
      · exact absurd g x
    · by_cases c2 : R2 < R1
      · have g := a.2.1 R2 b.1.1 c2
        rcases stop b with x | x
        · have := a.1.2
          omega
        · exact absurd g x
      · omega
  subst hR
  refine ⟨?_, rfl, ?_⟩ <;>
  rcases a.2.2 with ⟨a1, a2, a3⟩ | ⟨a1, a2, e, e1, e2, e3, e4⟩ | ⟨a1, a2, a3, a4⟩ <;> rcases b.2.2 with ⟨b1, b2, b3⟩ | ⟨b1, b2, f, f1, f2, f3, f4⟩ | ⟨b1, b2, b3, b4⟩
  all_goals first | omega | exact absurd b2 a3 | exact absurd b4.1 a3 | exact absurd a2 b3 | exact absurd a4.1 b3 | exact absurd e2 (b4.2 e e1) | exact absurd f2 (a4.2 f f1) | skip
  · have : e = f := by
      by_cases c : e < f
      · exact absurd f2 (e3 f c f1)
      · by_cases c2 : f < e
        · exact absurd e2 (f3 e c2 e1)
        · omega
    omega
/-- what the moves hold of a chase of n rounds -/
def zChc (ω : ab_S) (ρ : ab_S) (n : Int) : Prop := ∃ R : Nat, zChs ω n (ρ 87 0) R (ρ 87 2) ∧ ρ 87 1 = R ∧ ∀ j, 0 ≤ j → j < ω 34 5 → ρ 85 j = (zRn ω R).1 j ∧ ρ 86 j = (zRn ω R).2 j
/-- nothing but the market and the moves is otherwise -/
def zFc (σ ρ : ab_S) : Prop := ∀ o, (o < 65 ∨ (75 < o ∧ o < 82) ∨ 87 < o) → ρ o = σ o
theorem zFv_c {σ ρ : ab_S} (h : zFv σ ρ) : zFc σ ρ := fun o ho => h.1 o (by omega)
theorem zFc_trans {σ ρ υ : ab_S} (h1 : zFc σ ρ) (h2 : zFc ρ υ) : zFc σ υ := fun o ho => (h2 o ho).trans (h1 o ho)
theorem zLd_c {ω σ ρ : ab_S} {sp pr : Int → Int} (h : zLd ω sp pr σ) (hq : ∀ o, o < 82 → ρ o = σ o) : zLd ω sp pr ρ := by
  obtain ⟨h1, h2, h3, h4⟩ := h
  refine ⟨fun o ho => (hq o (by omega)).trans (h1 o ho), ?_, ?_, ?_⟩
  · rw [hq 65 (by decide)]; exact h2
  · rw [hq 65 (by decide)]; exact h3
  · rw [hq 66 (by decide), hq 67 (by decide), hq 68 (by decide), hq 71 (by decide), hq 72 (by decide)]; exact h4
set_option maxRecDepth 100000 in
set_option maxHeartbeats 4000000 in
theorem l_chase {ω σ : ab_S} {stamp n : Int} {K : ab_V → ab_S → Prop} (hJ : zJ ω) (hK : zK ω) (hF : zFr ω σ) (hn : 1 ≤ n ∧ n ≤ 60) (hst : -1000 ≤ stamp ∧ stamp ≤ 1000000) (hs2 : (-1000 ≤ σ 82 12 ∧ σ 82 12 ≤ 1000000) ∧ (-1000 ≤ σ 82 13 ∧ σ 82 13 ≤ 1000)) (hc : σ 82 12 = stamp → σ 82 13 = n → zChc ω σ n)
    (h : ∀ ρ, zFc σ ρ → ρ 82 12 = stamp → ρ 82 13 = n → zChc ω ρ n → K (vI 0) ρ) : ab_Runs ab_G1 mdX4_runChase [vR 82, vI stamp, vI n] σ K := by
  refine ab_runs mwX4_runChase (by decide +kernel) (Nat.le_of_ble_eq_true rfl) (fun G hG => ?_)
  show G 0 [some (vR 82), some (vI stamp), some (vI n), none, none, none] [] _
  have hcn := hK.1
  -- the end: both rows are copied
  have fin : ∀ (R : Nat) (ρ : ab_S) (z3 z4 z5 : Option ab_V), zLd ω (zRn ω R).1 (zRn ω R).2 ρ → zFc σ ρ → ρ 82 12 = stamp → ρ 82 13 = n → zChs ω n (ρ 87 0) R (ρ 87 2) → ρ 87 1 = R → G 136 [some (vR 82), some (vI stamp), some (vI n), z3, z4, z5] [] ρ := by
    intro R ρ z3 z4 z5 a1 a2 a3 a4 a5 a6
    apply hG [9999] 60
    simp only [cq_lt, cq_le, cq_gt, cq_ge, cq_eq, cq_r1, cq_r2, ab_r32, ab_r64, ab_go, ab_stp, wp_z, ab_in, ab_rok, ab_wsum, ab_prm, ab_ret, ab_sw, ab_cd, ab_tg, ab_cat_i, ab_cat_l, ab_cat_r, ab_cl_n, ab_cl_i, ab_cl_l, ab_cl_r, ab_f2_0, ab_f2_1, ab_f4_0, ab_f4_1, ab_f4_2, ab_f4_3, ab_op_s, ab_b1_s, ab_b2_s, ab_l1_s, ab_l2_s, ab_li_s, ab_o1_s, ab_io_s, ab_lo1_s, ab_iio_s, ab_lio_s, ab_cp5_s, ab_d2_l, ab_d2_i, ab_d2_o, ex_iconst, ex_bipush, ex_sipush, ex_lconst, ex_ldc, ex_ldc_w, ex_ldc2_w, ex_iadd, ex_isub, ex_imul, ex_iand, ex_ior, ex_ixor, ex_ishl, ex_ishr, ex_iushr, ex_idiv, ex_irem, ex_ladd, ex_lsub, ex_lmul, ex_lor, ex_ldiv, ex_lrem, ex_lshl, ex_lcmp, ex_ineg, ex_lneg, ex_i2l, ex_l2i, ex_i2b, ex_dup, ex_pop, ex_dup2, ex_goto, ex_tableswitch, ex_aaload, ex_ireturn, ex_lreturn, ex_return_, List.map_cons, List.map_nil, List.sum_cons, List.sum_nil, List.drop_succ_cons, List.drop_zero, List.take_succ_cons, List.take_zero, List.reverse_cons, List.reverse_nil, List.nil_append, List.cons_append, List.length_cons, List.length_nil, true_and, and_true, cond_false, cond_true, Bool.false_or, Bool.or_false, Bool.or_true, Bool.true_or, true_or, or_true, false_or, or_false, if_true, if_false, reduceIte, ite_true, ite_false, implies_true, true_implies, false_implies, forall_const, not_true_eq_false, not_false_eq_true, Nat.reduceAdd, Nat.reduceMul, Nat.reduceSub, Nat.reduceBEq, Nat.reduceEqDiff, Nat.reduceLeDiff, Nat.reduceLT, Int.reduceAdd, Int.reduceSub, Int.reduceMul, Int.reduceNeg, Int.reduceToNat, Int.reduceLE, Int.reduceLT, Int.reduceEq, Int.reduceNe, Int.reduceNatCast, Nat.add_zero, Nat.zero_add, reduceCtorEq, Int.reduceNatCast', wp_c, wp_g, e2_ifCond, e2_if_icmp, ↓bq_t, ↓bq_f, ab_br, ↓ab_b1_s, ↓ab_b2_s, ↓ab_l1_s, ↓ab_l2_s, ↓ab_li_s, ↓ab_o1_s, ↓ab_io_s, ↓ab_lo1_s, ↓ab_iio_s, ↓ab_lio_s, ↓ab_cp5_s, moX4_runChase, dX4_runChase_0, dal_0, dX4_runChase_1, dg1_4_43_82, dX4_runChase_4, dil_1, dX4_runChase_5, dX4_runChase_8, dX4_runChase_9, dg1_4_46_82, dX4_runChase_12, dil_2, dX4_runChase_13, dX4_runChase_16, dX4_runChase_17, dX4_runChase_18, dX4_runChase_19, dp1_4_43_82, dX4_runChase_22, dX4_runChase_23, dX4_runChase_24, dp1_4_46_82, dX4_runChase_27, dX4_runChase_28, dg1_4_57_82, dX4_runChase_31, dX4_runChase_32, dg1_4_53_82, dX4_runChase_35, dv1_4_146_65, moX3_load, dX4_runChase_38, dX4_runChase_39, dg1_4_15_82, dX4_runChase_42, dX4_runChase_43, dX4_runChase_44, dv1_4_150_82, moX4_snapshot, dX4_runChase_47, dX4_runChase_48, dX4_runChase_49, dX4_runChase_50, dX4_runChase_51, dX4_runChase_52, dv1_4_154_82, moX4_endChase, dX4_runChase_55, dX4_runChase_56, dis_3, dX4_runChase_57, dil_3, dX4_runChase_58, dX4_runChase_59, dX4_runChase_62, dX4_runChase_63, dX4_runChase_65, dX4_runChase_68, dX4_runChase_69, dv1_4_158_82, moX4_goOneRound, dX4_runChase_72, dis_4, dX4_runChase_74, dX4_runChase_75, dX4_runChase_78, dX4_runChase_79, dX4_runChase_80, dX4_runChase_83, dX4_runChase_84, dil_4, dX4_runChase_86, dX4_runChase_89, dX4_runChase_90, dX4_runChase_91, dv1_4_162_82, moX4_sameAgo, dX4_runChase_94, dX4_runChase_97, dX4_runChase_98, dis_5, dX4_runChase_100, dX4_runChase_102, dX4_runChase_105, dil_5, dX4_runChase_107, dX4_runChase_110, dX4_runChase_111, dX4_runChase_113, dX4_runChase_116, dX4_runChase_117, dX4_runChase_120, dX4_runChase_121, dX4_runChase_122, dX4_runChase_124, dX4_runChase_127, dX4_runChase_130, dinc_3, dX4_runChase_133, dX4_runChase_136, dX4_runChase_137, dX4_runChase_140, dg1_4_71_65, dX4_runChase_143, dX4_runChase_144, dX4_runChase_145, dg1_4_19_82, dX4_runChase_148, dX4_runChase_149, dX4_runChase_150, dq4_165, dX4_runChase_153, dX4_runChase_154, dX4_runChase_157, dg1_4_66_65, dX4_runChase_160, dX4_runChase_161, dX4_runChase_162, dg1_4_22_82, dX4_runChase_165, dX4_runChase_166, dX4_runChase_167, dX4_runChase_170, das1_66, ar1_66, das1_67, ar1_67, das1_84, ar1_84, das1_85, ar1_85, das1_86, ar1_86]
    repeat' (with_reducible (first | apply And.intro | intro _))
    all_goals first | omega | skip
    have e1 : ∀ o, o ≠ 85 → o ≠ 86 → ab_cpy (ab_cpy ρ 66 0 85 0 4) 67 0 86 0 4 o = ρ o := by
      intro o o1 o2
      funext k
      unfold ab_cpy
      rw [if_neg o2, if_neg o1]
    refine h _ (fun o ho => (e1 o (by omega) (by omega)).trans (a2 o ho)) a3 a4 ⟨R, a5, a6, fun j j1 j2 => ?_⟩
    obtain ⟨q1, q2, -⟩ := a1.2.2.2 j j1 j2
    constructor
    · show (if 0 ≤ j ∧ j < 0 + 4 then ρ 66 (0 + (j - 0)) else ρ 85 j) = _
      rw [if_pos (by omega), show 0 + (j - 0) = j by omega]
      exact q1
    · show (if 0 ≤ j ∧ j < 0 + 4 then (if (67 : Nat) = 85 then _ else ρ 67 (0 + (j - 0))) else _) = _
      rw [if_pos (by omega), if_neg (by decide), show 0 + (j - 0) = j by omega]
      exact q2
  have key : ∀ (k : Nat) (r : Nat) (ρ : ab_S) (z4 z5 : Option ab_V), n + 1 - r < k → 1 ≤ r → (r : Int) ≤ n + 1 → zLd ω (zRn ω (r - 1)).1 (zRn ω (r - 1)).2 ρ → zFc σ ρ → ρ 82 12 = stamp → ρ 82 13 = n → (ρ 87 0 = 2 ∧ ρ 87 1 = n ∧ ρ 87 2 = 0) → (∀ e : Nat, e < r → ρ 84 e = zsn (zRn ω e).1 (zRn ω e).2 (ω 34 5).toNat) → (∀ e : Nat, 1 ≤ e → e < r → zGo ω e) → G 57 [some (vR 82), some (vI stamp), some (vI n), some (vI r), z4, z5] [] ρ := by
    intro k
    induction k with
    | zero => intro r ρ z4 z5 h1 h2; omega
    | succ k ih =>
      intro r ρ z4 z5 h1 h2 h3 hl hf hs hr he hh hg
      apply hG [57, 136] 60
      simp only [cq_lt, cq_le, cq_gt, cq_ge, cq_eq, cq_r1, cq_r2, ab_r32, ab_r64, ab_go, ab_stp, wp_z, ab_in, ab_rok, ab_wsum, ab_prm, ab_ret, ab_sw, ab_cd, ab_tg, ab_cat_i, ab_cat_l, ab_cat_r, ab_cl_n, ab_cl_i, ab_cl_l, ab_cl_r, ab_f2_0, ab_f2_1, ab_f4_0, ab_f4_1, ab_f4_2, ab_f4_3, ab_op_s, ab_b1_s, ab_b2_s, ab_l1_s, ab_l2_s, ab_li_s, ab_o1_s, ab_io_s, ab_lo1_s, ab_iio_s, ab_lio_s, ab_cp5_s, ab_d2_l, ab_d2_i, ab_d2_o, ex_iconst, ex_bipush, ex_sipush, ex_lconst, ex_ldc, ex_ldc_w, ex_ldc2_w, ex_iadd, ex_isub, ex_imul, ex_iand, ex_ior, ex_ixor, ex_ishl, ex_ishr, ex_iushr, ex_idiv, ex_irem, ex_ladd, ex_lsub, ex_lmul, ex_lor, ex_ldiv, ex_lrem, ex_lshl, ex_lcmp, ex_ineg, ex_lneg, ex_i2l, ex_l2i, ex_i2b, ex_dup, ex_pop, ex_dup2, ex_goto, ex_tableswitch, ex_aaload, ex_ireturn, ex_lreturn, ex_return_, List.map_cons, List.map_nil, List.sum_cons, List.sum_nil, List.drop_succ_cons, List.drop_zero, List.take_succ_cons, List.take_zero, List.reverse_cons, List.reverse_nil, List.nil_append, List.cons_append, List.length_cons, List.length_nil, true_and, and_true, cond_false, cond_true, Bool.false_or, Bool.or_false, Bool.or_true, Bool.true_or, true_or, or_true, false_or, or_false, if_true, if_false, reduceIte, ite_true, ite_false, implies_true, true_implies, false_implies, forall_const, not_true_eq_false, not_false_eq_true, Nat.reduceAdd, Nat.reduceMul, Nat.reduceSub, Nat.reduceBEq, Nat.reduceEqDiff, Nat.reduceLeDiff, Nat.reduceLT, Int.reduceAdd, Int.reduceSub, Int.reduceMul, Int.reduceNeg, Int.reduceToNat, Int.reduceLE, Int.reduceLT, Int.reduceEq, Int.reduceNe, Int.reduceNatCast, Nat.add_zero, Nat.zero_add, reduceCtorEq, Int.reduceNatCast', wp_c, wp_g, e2_ifCond, e2_if_icmp, ↓bq_t, ↓bq_f, ab_br, ↓ab_b1_s, ↓ab_b2_s, ↓ab_l1_s, ↓ab_l2_s, ↓ab_li_s, ↓ab_o1_s, ↓ab_io_s, ↓ab_lo1_s, ↓ab_iio_s, ↓ab_lio_s, ↓ab_cp5_s, moX4_runChase, dX4_runChase_0, dal_0, dX4_runChase_1, dg1_4_43_82, dX4_runChase_4, dil_1, dX4_runChase_5, dX4_runChase_8, dX4_runChase_9, dg1_4_46_82, dX4_runChase_12, dil_2, dX4_runChase_13, dX4_runChase_16, dX4_runChase_17, dX4_runChase_18, dX4_runChase_19, dp1_4_43_82, dX4_runChase_22, dX4_runChase_23, dX4_runChase_24, dp1_4_46_82, dX4_runChase_27, dX4_runChase_28, dg1_4_57_82, dX4_runChase_31, dX4_runChase_32, dg1_4_53_82, dX4_runChase_35, dv1_4_146_65, moX3_load, dX4_runChase_38, dX4_runChase_39, dg1_4_15_82, dX4_runChase_42, dX4_runChase_43, dX4_runChase_44, dv1_4_150_82, moX4_snapshot, dX4_runChase_47, dX4_runChase_48, dX4_runChase_49, dX4_runChase_50, dX4_runChase_51, dX4_runChase_52, dv1_4_154_82, moX4_endChase, dX4_runChase_55, dX4_runChase_56, dis_3, dX4_runChase_57, dil_3, dX4_runChase_58, dX4_runChase_59, dX4_runChase_62, dX4_runChase_63, dX4_runChase_65, dX4_runChase_68, dX4_runChase_69, dv1_4_158_82, moX4_goOneRound, dX4_runChase_72, dis_4, dX4_runChase_74, dX4_runChase_75, dX4_runChase_78, dX4_runChase_79, dX4_runChase_80, dX4_runChase_83, dX4_runChase_84, dil_4, dX4_runChase_86, dX4_runChase_89, dX4_runChase_90, dX4_runChase_91, dv1_4_162_82, moX4_sameAgo, dX4_runChase_94, dX4_runChase_97, dX4_runChase_98, dis_5, dX4_runChase_100, dX4_runChase_102, dX4_runChase_105, dil_5, dX4_runChase_107, dX4_runChase_110, dX4_runChase_111, dX4_runChase_113, dX4_runChase_116, dX4_runChase_117, dX4_runChase_120, dX4_runChase_121, dX4_runChase_122, dX4_runChase_124, dX4_runChase_127, dX4_runChase_130, dinc_3, dX4_runChase_133, dX4_runChase_136, dX4_runChase_137, dX4_runChase_140, dg1_4_71_65, dX4_runChase_143, dX4_runChase_144, dX4_runChase_145, dg1_4_19_82, dX4_runChase_148, dX4_runChase_149, dX4_runChase_150, dq4_165, dX4_runChase_153, dX4_runChase_154, dX4_runChase_157, dg1_4_66_65, dX4_runChase_160, dX4_runChase_161, dX4_runChase_162, dg1_4_22_82, dX4_runChase_165, dX4_runChase_166, dX4_runChase_167, dX4_runChase_170, das1_66, ar1_66, das1_67, ar1_67, das1_84, ar1_84, das1_85, ar1_85, das1_86, ar1_86]
      repeat' (with_reducible (first | apply And.intro | intro _))
      all_goals first | omega | skip
      · rename_i hq
        have e : (r : Int) = n + 1 := by omega
        refine fin (r - 1) ρ _ _ _ hl hf hs hr ⟨⟨by omega, by omega⟩, fun i i1 i2 => hg i i1 (by omega), Or.inr (Or.inr ⟨he.1, he.2.2, by omega, hg (r - 1) (by omega) (by omega)⟩)⟩ (by rw [he.2.1]; omega)
      · rename_i hq hq2
        refine l_round (a := zRn ω (r - 1)) hJ hK hl (zRn_ok hJ hK (r - 1)) (fun φ v a b c => ?_)
        have er : zRs ω (zRn ω (r - 1)) (ω 34 5).toNat = zRn ω r := by
          rw [show r = (r - 1) + 1 by omega]
          rfl
        rw [er] at a
        try simp only [cq_lt, cq_le, cq_gt, cq_ge, cq_eq, cq_r1, cq_r2, ab_r32, ab_r64, ab_go, ab_stp, wp_z, ab_in, ab_rok, ab_wsum, ab_prm, ab_ret, ab_sw, ab_cd, ab_tg, ab_cat_i, ab_cat_l, ab_cat_r, ab_cl_n, ab_cl_i, ab_cl_l, ab_cl_r, ab_f2_0, ab_f2_1, ab_f4_0, ab_f4_1, ab_f4_2, ab_f4_3, ab_op_s, ab_b1_s, ab_b2_s, ab_l1_s, ab_l2_s, ab_li_s, ab_o1_s, ab_io_s, ab_lo1_s, ab_iio_s, ab_lio_s, ab_cp5_s, ab_d2_l, ab_d2_i, ab_d2_o, ex_iconst, ex_bipush, ex_sipush, ex_lconst, ex_ldc, ex_ldc_w, ex_ldc2_w, ex_iadd, ex_isub, ex_imul, ex_iand, ex_ior, ex_ixor, ex_ishl, ex_ishr, ex_iushr, ex_idiv, ex_irem, ex_ladd, ex_lsub, ex_lmul, ex_lor, ex_ldiv, ex_lrem, ex_lshl, ex_lcmp, ex_ineg, ex_lneg, ex_i2l, ex_l2i, ex_i2b, ex_dup, ex_pop, ex_dup2, ex_goto, ex_tableswitch, ex_aaload, ex_ireturn, ex_lreturn, ex_return_, List.map_cons, List.map_nil, List.sum_cons, List.sum_nil, List.drop_succ_cons, List.drop_zero, List.take_succ_cons, List.take_zero, List.reverse_cons, List.reverse_nil, List.nil_append, List.cons_append, List.length_cons, List.length_nil, true_and, and_true, cond_false, cond_true, Bool.false_or, Bool.or_false, Bool.or_true, Bool.true_or, true_or, or_true, false_or, or_false, if_true, if_false, reduceIte, ite_true, ite_false, implies_true, true_implies, false_implies, forall_const, not_true_eq_false, not_false_eq_true, Nat.reduceAdd, Nat.reduceMul, Nat.reduceSub, Nat.reduceBEq, Nat.reduceEqDiff, Nat.reduceLeDiff, Nat.reduceLT, Int.reduceAdd, Int.reduceSub, Int.reduceMul, Int.reduceNeg, Int.reduceToNat, Int.reduceLE, Int.reduceLT, Int.reduceEq, Int.reduceNe, Int.reduceNatCast, Nat.add_zero, Nat.zero_add, reduceCtorEq, Int.reduceNatCast', wp_c, wp_g, e2_ifCond, e2_if_icmp, ↓bq_t, ↓bq_f, ab_br, ↓ab_b1_s, ↓ab_b2_s, ↓ab_l1_s, ↓ab_l2_s, ↓ab_li_s, ↓ab_o1_s, ↓ab_io_s, ↓ab_lo1_s, ↓ab_iio_s, ↓ab_lio_s, ↓ab_cp5_s, moX4_runChase, dX4_runChase_0, dal_0, dX4_runChase_1, dg1_4_43_82, dX4_runChase_4, dil_1, dX4_runChase_5, dX4_runChase_8, dX4_runChase_9, dg1_4_46_82, dX4_runChase_12, dil_2, dX4_runChase_13, dX4_runChase_16, dX4_runChase_17, dX4_runChase_18, dX4_runChase_19, dp1_4_43_82, dX4_runChase_22, dX4_runChase_23, dX4_runChase_24, dp1_4_46_82, dX4_runChase_27, dX4_runChase_28, dg1_4_57_82, dX4_runChase_31, dX4_runChase_32, dg1_4_53_82, dX4_runChase_35, dv1_4_146_65, moX3_load, dX4_runChase_38, dX4_runChase_39, dg1_4_15_82, dX4_runChase_42, dX4_runChase_43, dX4_runChase_44, dv1_4_150_82, moX4_snapshot, dX4_runChase_47, dX4_runChase_48, dX4_runChase_49, dX4_runChase_50, dX4_runChase_51, dX4_runChase_52, dv1_4_154_82, moX4_endChase, dX4_runChase_55, dX4_runChase_56, dis_3, dX4_runChase_57, dil_3, dX4_runChase_58, dX4_runChase_59, dX4_runChase_62, dX4_runChase_63, dX4_runChase_65, dX4_runChase_68, dX4_runChase_69, dv1_4_158_82, moX4_goOneRound, dX4_runChase_72, dis_4, dX4_runChase_74, dX4_runChase_75, dX4_runChase_78, dX4_runChase_79, dX4_runChase_80, dX4_runChase_83, dX4_runChase_84, dil_4, dX4_runChase_86, dX4_runChase_89, dX4_runChase_90, dX4_runChase_91, dv1_4_162_82, moX4_sameAgo, dX4_runChase_94, dX4_runChase_97, dX4_runChase_98, dis_5, dX4_runChase_100, dX4_runChase_102, dX4_runChase_105, dil_5, dX4_runChase_107, dX4_runChase_110, dX4_runChase_111, dX4_runChase_113, dX4_runChase_116, dX4_runChase_117, dX4_runChase_120, dX4_runChase_121, dX4_runChase_122, dX4_runChase_124, dX4_runChase_127, dX4_runChase_130, dinc_3, dX4_runChase_133, dX4_runChase_136, dX4_runChase_137, dX4_runChase_140, dg1_4_71_65, dX4_runChase_143, dX4_runChase_144, dX4_runChase_145, dg1_4_19_82, dX4_runChase_148, dX4_runChase_149, dX4_runChase_150, dq4_165, dX4_runChase_153, dX4_runChase_154, dX4_runChase_157, dg1_4_66_65, dX4_runChase_160, dX4_runChase_161, dX4_runChase_162, dg1_4_22_82, dX4_runChase_165, dX4_runChase_166, dX4_runChase_167, dX4_runChase_170, das1_66, ar1_66, das1_67, ar1_67, das1_84, ar1_84, das1_85, ar1_85, das1_86, ar1_86]
        repeat' (with_reducible (first | apply And.intro | intro _))
        all_goals first | omega | skip
        refine l_snapshot hJ hK a (zRn_ok hJ hK r) ?_
        have hbf : zFc σ φ := zFc_trans hf (zFv_c b)
        have e84 : φ 84 = ρ 84 := b.1 84 (by decide)
        have e87 : φ 87 = ρ 87 := b.1 87 (by decide)
        -- the store behind
        generalize hψ : ab_up φ 84 r (zsn (zRn ω r).1 (zRn ω r).2 (ω 34 5).toNat) = ψ
        have p84 : ψ 84 = zu (ρ 84) r (zsn (zRn ω r).1 (zRn ω r).2 (ω 34 5).toNat) := by
          rw [← hψ, ab_up_eq, ab_set_at, e84]
        have po : ∀ o, o ≠ 84 → ψ o = φ o := fun o o1 => by rw [← hψ, ab_up_o o o1]
        have hh2 : ∀ e : Nat, e < r + 1 → ψ 84 e = zsn (zRn ω e).1 (zRn ω e).2 (ω 34 5).toNat := by
          intro e e1
          rw [p84]
          unfold zu
          by_cases c : e = r
          · rw [if_pos (by omega), c]
          · rw [if_neg (by omega)]
            exact hh e (by omega)
        have hl2 : zLd ω (zRn ω r).1 (zRn ω r).2 ψ := zLd_c a (fun o o1 => po o (by omega))
        have hf2 : zFc σ ψ := fun o o1 => (po o (by omega)).trans (hbf o o1)
        have hs2 : ψ 82 12 = stamp := by rw [po 82 (by decide), b.2 12 (by decide)]; exact hs
        have hr2 : ψ 82 13 = n := by rw [po 82 (by decide), b.2 13 (by decide)]; exact hr
        have he2 : ψ 87 = ρ 87 := (po 87 (by decide)).trans e87
        have endc : ∀ how len : Int, (∀ z3 z4 z5 : Option ab_V, zChs ω n how r len → ab_Runs ab_G1 mdX4_endChase [vR 82, vI how, vI r, vI len] ψ (fun _ τ => G 136 [some (vR 82), some (vI stamp), some (vI n), z3, z4, z5] [] τ)) := by
          intro how len z3 z4 z5 hz
          refine r_endChase ?_
          refine fin r _ _ _ _ (zLd_c hl2 (fun o o1 => ?_)) (fun o o1 => ?_) ?_ ?_ hz rfl
          · rw [ab_up_o o (by omega), ab_up_o o (by omega), ab_up_o o (by omega)]
          · rw [ab_up_o o (by omega), ab_up_o o (by omega), ab_up_o o (by omega)]
            exact hf2 o o1
          · exact hs2
          · exact hr2
        try simp only [cq_lt, cq_le, cq_gt, cq_ge, cq_eq, cq_r1, cq_r2, ab_r32, ab_r64, ab_go, ab_stp, wp_z, ab_in, ab_rok, ab_wsum, ab_prm, ab_ret, ab_sw, ab_cd, ab_tg, ab_cat_i, ab_cat_l, ab_cat_r, ab_cl_n, ab_cl_i, ab_cl_l, ab_cl_r, ab_f2_0, ab_f2_1, ab_f4_0, ab_f4_1, ab_f4_2, ab_f4_3, ab_op_s, ab_b1_s, ab_b2_s, ab_l1_s, ab_l2_s, ab_li_s, ab_o1_s, ab_io_s, ab_lo1_s, ab_iio_s, ab_lio_s, ab_cp5_s, ab_d2_l, ab_d2_i, ab_d2_o, ex_iconst, ex_bipush, ex_sipush, ex_lconst, ex_ldc, ex_ldc_w, ex_ldc2_w, ex_iadd, ex_isub, ex_imul, ex_iand, ex_ior, ex_ixor, ex_ishl, ex_ishr, ex_iushr, ex_idiv, ex_irem, ex_ladd, ex_lsub, ex_lmul, ex_lor, ex_ldiv, ex_lrem, ex_lshl, ex_lcmp, ex_ineg, ex_lneg, ex_i2l, ex_l2i, ex_i2b, ex_dup, ex_pop, ex_dup2, ex_goto, ex_tableswitch, ex_aaload, ex_ireturn, ex_lreturn, ex_return_, List.map_cons, List.map_nil, List.sum_cons, List.sum_nil, List.drop_succ_cons, List.drop_zero, List.take_succ_cons, List.take_zero, List.reverse_cons, List.reverse_nil, List.nil_append, List.cons_append, List.length_cons, List.length_nil, true_and, and_true, cond_false, cond_true, Bool.false_or, Bool.or_false, Bool.or_true, Bool.true_or, true_or, or_true, false_or, or_false, if_true, if_false, reduceIte, ite_true, ite_false, implies_true, true_implies, false_implies, forall_const, not_true_eq_false, not_false_eq_true, Nat.reduceAdd, Nat.reduceMul, Nat.reduceSub, Nat.reduceBEq, Nat.reduceEqDiff, Nat.reduceLeDiff, Nat.reduceLT, Int.reduceAdd, Int.reduceSub, Int.reduceMul, Int.reduceNeg, Int.reduceToNat, Int.reduceLE, Int.reduceLT, Int.reduceEq, Int.reduceNe, Int.reduceNatCast, Nat.add_zero, Nat.zero_add, reduceCtorEq, Int.reduceNatCast', wp_c, wp_g, e2_ifCond, e2_if_icmp, ↓bq_t, ↓bq_f, ab_br, ↓ab_b1_s, ↓ab_b2_s, ↓ab_l1_s, ↓ab_l2_s, ↓ab_li_s, ↓ab_o1_s, ↓ab_io_s, ↓ab_lo1_s, ↓ab_iio_s, ↓ab_lio_s, ↓ab_cp5_s, moX4_runChase, dX4_runChase_0, dal_0, dX4_runChase_1, dg1_4_43_82, dX4_runChase_4, dil_1, dX4_runChase_5, dX4_runChase_8, dX4_runChase_9, dg1_4_46_82, dX4_runChase_12, dil_2, dX4_runChase_13, dX4_runChase_16, dX4_runChase_17, dX4_runChase_18, dX4_runChase_19, dp1_4_43_82, dX4_runChase_22, dX4_runChase_23, dX4_runChase_24, dp1_4_46_82, dX4_runChase_27, dX4_runChase_28, dg1_4_57_82, dX4_runChase_31, dX4_runChase_32, dg1_4_53_82, dX4_runChase_35, dv1_4_146_65, moX3_load, dX4_runChase_38, dX4_runChase_39, dg1_4_15_82, dX4_runChase_42, dX4_runChase_43, dX4_runChase_44, dv1_4_150_82, moX4_snapshot, dX4_runChase_47, dX4_runChase_48, dX4_runChase_49, dX4_runChase_50, dX4_runChase_51, dX4_runChase_52, dv1_4_154_82, moX4_endChase, dX4_runChase_55, dX4_runChase_56, dis_3, dX4_runChase_57, dil_3, dX4_runChase_58, dX4_runChase_59, dX4_runChase_62, dX4_runChase_63, dX4_runChase_65, dX4_runChase_68, dX4_runChase_69, dv1_4_158_82, moX4_goOneRound, dX4_runChase_72, dis_4, dX4_runChase_74, dX4_runChase_75, dX4_runChase_78, dX4_runChase_79, dX4_runChase_80, dX4_runChase_83, dX4_runChase_84, dil_4, dX4_runChase_86, dX4_runChase_89, dX4_runChase_90, dX4_runChase_91, dv1_4_162_82, moX4_sameAgo, dX4_runChase_94, dX4_runChase_97, dX4_runChase_98, dis_5, dX4_runChase_100, dX4_runChase_102, dX4_runChase_105, dil_5, dX4_runChase_107, dX4_runChase_110, dX4_runChase_111, dX4_runChase_113, dX4_runChase_116, dX4_runChase_117, dX4_runChase_120, dX4_runChase_121, dX4_runChase_122, dX4_runChase_124, dX4_runChase_127, dX4_runChase_130, dinc_3, dX4_runChase_133, dX4_runChase_136, dX4_runChase_137, dX4_runChase_140, dg1_4_71_65, dX4_runChase_143, dX4_runChase_144, dX4_runChase_145, dg1_4_19_82, dX4_runChase_148, dX4_runChase_149, dX4_runChase_150, dq4_165, dX4_runChase_153, dX4_runChase_154, dX4_runChase_157, dg1_4_66_65, dX4_runChase_160, dX4_runChase_161, dX4_runChase_162, dg1_4_22_82, dX4_runChase_165, dX4_runChase_166, dX4_runChase_167, dX4_runChase_170, das1_66, ar1_66, das1_67, ar1_67, das1_84, ar1_84, das1_85, ar1_85, das1_86, ar1_86, hψ]
        repeat' (with_reducible (first | apply And.intro | intro _))
        all_goals first | omega | skip
        · rename_i hz
          refine endc 0 0 _ _ _ ⟨⟨by omega, by omega⟩, hg, Or.inl ⟨rfl, rfl, ?_⟩⟩
          rcases c with ⟨-, y⟩ | ⟨y, -⟩
          · omega
          · exact y
        · rename_i hz
          have hmv : zMv ω (zRn ω (r - 1)) (ω 34 5).toNat := by
            rcases c with ⟨y, -⟩ | ⟨-, y⟩
            · exact y
            · exact absurd y hz
          have hv : v = 1 := by
            rcases c with ⟨-, y⟩ | ⟨-, y⟩
            · exact y
            · exact absurd y hz
          refine r_sameAgo (by omega) (fun i i1 i2 => ?_) (fun w hw => ?_)
          · have q := hh2 i.toNat (by omega)
            rw [show ((i.toNat : Nat) : Int) = i by omega] at q
            rw [q]
            have q2 := zsn_in (zOk_dg hJ (zRn_ok hJ hK i.toNat))
            rcases (show (ω 34 5).toNat = 0 ∨ (ω 34 5).toNat = 1 ∨ (ω 34 5).toNat = 2 ∨ (ω 34 5).toNat = 3 ∨ (ω 34 5).toNat = 4 by omega) with e | e | e | e | e <;> rw [e] at q2 ⊢ <;> omega
          · have hwr : 0 ≤ w ∧ w ≤ 60 := by
              rcases hw with ⟨e, e1, e2, -, -, e3⟩ | ⟨-, e3⟩ <;> omega
            have hsm : ∀ e : Nat, e < r → (ψ 84 e = ψ 84 r ↔ zSm ω (zRn ω e) (zRn ω r)) := by
              intro e e1
              rw [hh2 e (by omega), hh2 r (by omega)]
              exact zSm_sn hJ hK r e
            try simp only [cq_lt, cq_le, cq_gt, cq_ge, cq_eq, cq_r1, cq_r2, ab_r32, ab_r64, ab_go, ab_stp, wp_z, ab_in, ab_rok, ab_wsum, ab_prm, ab_ret, ab_sw, ab_cd, ab_tg, ab_cat_i, ab_cat_l, ab_cat_r, ab_cl_n, ab_cl_i, ab_cl_l, ab_cl_r, ab_f2_0, ab_f2_1, ab_f4_0, ab_f4_1, ab_f4_2, ab_f4_3, ab_op_s, ab_b1_s, ab_b2_s, ab_l1_s, ab_l2_s, ab_li_s, ab_o1_s, ab_io_s, ab_lo1_s, ab_iio_s, ab_lio_s, ab_cp5_s, ab_d2_l, ab_d2_i, ab_d2_o, ex_iconst, ex_bipush, ex_sipush, ex_lconst, ex_ldc, ex_ldc_w, ex_ldc2_w, ex_iadd, ex_isub, ex_imul, ex_iand, ex_ior, ex_ixor, ex_ishl, ex_ishr, ex_iushr, ex_idiv, ex_irem, ex_ladd, ex_lsub, ex_lmul, ex_lor, ex_ldiv, ex_lrem, ex_lshl, ex_lcmp, ex_ineg, ex_lneg, ex_i2l, ex_l2i, ex_i2b, ex_dup, ex_pop, ex_dup2, ex_goto, ex_tableswitch, ex_aaload, ex_ireturn, ex_lreturn, ex_return_, List.map_cons, List.map_nil, List.sum_cons, List.sum_nil, List.drop_succ_cons, List.drop_zero, List.take_succ_cons, List.take_zero, List.reverse_cons, List.reverse_nil, List.nil_append, List.cons_append, List.length_cons, List.length_nil, true_and, and_true, cond_false, cond_true, Bool.false_or, Bool.or_false, Bool.or_true, Bool.true_or, true_or, or_true, false_or, or_false, if_true, if_false, reduceIte, ite_true, ite_false, implies_true, true_implies, false_implies, forall_const, not_true_eq_false, not_false_eq_true, Nat.reduceAdd, Nat.reduceMul, Nat.reduceSub, Nat.reduceBEq, Nat.reduceEqDiff, Nat.reduceLeDiff, Nat.reduceLT, Int.reduceAdd, Int.reduceSub, Int.reduceMul, Int.reduceNeg, Int.reduceToNat, Int.reduceLE, Int.reduceLT, Int.reduceEq, Int.reduceNe, Int.reduceNatCast, Nat.add_zero, Nat.zero_add, reduceCtorEq, Int.reduceNatCast', wp_c, wp_g, e2_ifCond, e2_if_icmp, ↓bq_t, ↓bq_f, ab_br, ↓ab_b1_s, ↓ab_b2_s, ↓ab_l1_s, ↓ab_l2_s, ↓ab_li_s, ↓ab_o1_s, ↓ab_io_s, ↓ab_lo1_s, ↓ab_iio_s, ↓ab_lio_s, ↓ab_cp5_s, moX4_runChase, dX4_runChase_0, dal_0, dX4_runChase_1, dg1_4_43_82, dX4_runChase_4, dil_1, dX4_runChase_5, dX4_runChase_8, dX4_runChase_9, dg1_4_46_82, dX4_runChase_12, dil_2, dX4_runChase_13, dX4_runChase_16, dX4_runChase_17, dX4_runChase_18, dX4_runChase_19, dp1_4_43_82, dX4_runChase_22, dX4_runChase_23, dX4_runChase_24, dp1_4_46_82, dX4_runChase_27, dX4_runChase_28, dg1_4_57_82, dX4_runChase_31, dX4_runChase_32, dg1_4_53_82, dX4_runChase_35, dv1_4_146_65, moX3_load, dX4_runChase_38, dX4_runChase_39, dg1_4_15_82, dX4_runChase_42, dX4_runChase_43, dX4_runChase_44, dv1_4_150_82, moX4_snapshot, dX4_runChase_47, dX4_runChase_48, dX4_runChase_49, dX4_runChase_50, dX4_runChase_51, dX4_runChase_52, dv1_4_154_82, moX4_endChase, dX4_runChase_55, dX4_runChase_56, dis_3, dX4_runChase_57, dil_3, dX4_runChase_58, dX4_runChase_59, dX4_runChase_62, dX4_runChase_63, dX4_runChase_65, dX4_runChase_68, dX4_runChase_69, dv1_4_158_82, moX4_goOneRound, dX4_runChase_72, dis_4, dX4_runChase_74, dX4_runChase_75, dX4_runChase_78, dX4_runChase_79, dX4_runChase_80, dX4_runChase_83, dX4_runChase_84, dil_4, dX4_runChase_86, dX4_runChase_89, dX4_runChase_90, dX4_runChase_91, dv1_4_162_82, moX4_sameAgo, dX4_runChase_94, dX4_runChase_97, dX4_runChase_98, dis_5, dX4_runChase_100, dX4_runChase_102, dX4_runChase_105, dil_5, dX4_runChase_107, dX4_runChase_110, dX4_runChase_111, dX4_runChase_113, dX4_runChase_116, dX4_runChase_117, dX4_runChase_120, dX4_runChase_121, dX4_runChase_122, dX4_runChase_124, dX4_runChase_127, dX4_runChase_130, dinc_3, dX4_runChase_133, dX4_runChase_136, dX4_runChase_137, dX4_runChase_140, dg1_4_71_65, dX4_runChase_143, dX4_runChase_144, dX4_runChase_145, dg1_4_19_82, dX4_runChase_148, dX4_runChase_149, dX4_runChase_150, dq4_165, dX4_runChase_153, dX4_runChase_154, dX4_runChase_157, dg1_4_66_65, dX4_runChase_160, dX4_runChase_161, dX4_runChase_162, dg1_4_22_82, dX4_runChase_165, dX4_runChase_166, dX4_runChase_167, dX4_runChase_170, das1_66, ar1_66, das1_67, ar1_67, das1_84, ar1_84, das1_85, ar1_85, das1_86, ar1_86]
            repeat' (with_reducible (first | apply And.intro | intro _))
            all_goals first | omega | skip
            · rename_i hz2
              have hall : ∀ e : Nat, e < r → ¬ zSm ω (zRn ω e) (zRn ω r) := by
                rcases hw with ⟨e, e1, e2, -, -, e3⟩ | ⟨y, -⟩
                · omega
                · intro e e1 z
                  exact y e (by omega) (by omega) ((hsm e e1).2 z)
              refine ih (r + 1) ψ _ _ (by omega) (by omega) (by omega) hl2 hf2 hs2 hr2 (by rw [he2]; exact he) hh2 (fun e e1 e2 => ?_)
              by_cases ce : e = r
              · rw [ce]
                exact ⟨hmv, hall⟩
              · exact hg e e1 (by omega)
            · rename_i hz2
              rcases hw with ⟨e, e1, e2, e3, e4, e5⟩ | ⟨-, y⟩
              · refine endc 1 w _ _ _ ⟨⟨by omega, by omega⟩, hg, Or.inr (Or.inl ⟨rfl, hmv, e.toNat, by omega, ?_, fun i i1 i2 z => ?_, by omega⟩)⟩
                · refine (hsm e.toNat (by omega)).1 ?_
                  rw [show ((e.toNat : Nat) : Int) = e by omega]
                  exact e3
                · exact e4 i (by omega) (by omega) ((hsm i i2).2 z)
              · omega
  -- the start
  have beg : G 17 [some (vR 82), some (vI stamp), some (vI n), none, none, none] [] σ := by
    apply hG [57] 60
    simp only [cq_lt, cq_le, cq_gt, cq_ge, cq_eq, cq_r1, cq_r2, ab_r32, ab_r64, ab_go, ab_stp, wp_z, ab_in, ab_rok, ab_wsum, ab_prm, ab_ret, ab_sw, ab_cd, ab_tg, ab_cat_i, ab_cat_l, ab_cat_r, ab_cl_n, ab_cl_i, ab_cl_l, ab_cl_r, ab_f2_0, ab_f2_1, ab_f4_0, ab_f4_1, ab_f4_2, ab_f4_3, ab_op_s, ab_b1_s, ab_b2_s, ab_l1_s, ab_l2_s, ab_li_s, ab_o1_s, ab_io_s, ab_lo1_s, ab_iio_s, ab_lio_s, ab_cp5_s, ab_d2_l, ab_d2_i, ab_d2_o, ex_iconst, ex_bipush, ex_sipush, ex_lconst, ex_ldc, ex_ldc_w, ex_ldc2_w, ex_iadd, ex_isub, ex_imul, ex_iand, ex_ior, ex_ixor, ex_ishl, ex_ishr, ex_iushr, ex_idiv, ex_irem, ex_ladd, ex_lsub, ex_lmul, ex_lor, ex_ldiv, ex_lrem, ex_lshl, ex_lcmp, ex_ineg, ex_lneg, ex_i2l, ex_l2i, ex_i2b, ex_dup, ex_pop, ex_dup2, ex_goto, ex_tableswitch, ex_aaload, ex_ireturn, ex_lreturn, ex_return_, List.map_cons, List.map_nil, List.sum_cons, List.sum_nil, List.drop_succ_cons, List.drop_zero, List.take_succ_cons, List.take_zero, List.reverse_cons, List.reverse_nil, List.nil_append, List.cons_append, List.length_cons, List.length_nil, true_and, and_true, cond_false, cond_true, Bool.false_or, Bool.or_false, Bool.or_true, Bool.true_or, true_or, or_true, false_or, or_false, if_true, if_false, reduceIte, ite_true, ite_false, implies_true, true_implies, false_implies, forall_const, not_true_eq_false, not_false_eq_true, Nat.reduceAdd, Nat.reduceMul, Nat.reduceSub, Nat.reduceBEq, Nat.reduceEqDiff, Nat.reduceLeDiff, Nat.reduceLT, Int.reduceAdd, Int.reduceSub, Int.reduceMul, Int.reduceNeg, Int.reduceToNat, Int.reduceLE, Int.reduceLT, Int.reduceEq, Int.reduceNe, Int.reduceNatCast, Nat.add_zero, Nat.zero_add, reduceCtorEq, Int.reduceNatCast', wp_c, wp_g, e2_ifCond, e2_if_icmp, ↓bq_t, ↓bq_f, ab_br, ↓ab_b1_s, ↓ab_b2_s, ↓ab_l1_s, ↓ab_l2_s, ↓ab_li_s, ↓ab_o1_s, ↓ab_io_s, ↓ab_lo1_s, ↓ab_iio_s, ↓ab_lio_s, ↓ab_cp5_s, moX4_runChase, dX4_runChase_0, dal_0, dX4_runChase_1, dg1_4_43_82, dX4_runChase_4, dil_1, dX4_runChase_5, dX4_runChase_8, dX4_runChase_9, dg1_4_46_82, dX4_runChase_12, dil_2, dX4_runChase_13, dX4_runChase_16, dX4_runChase_17, dX4_runChase_18, dX4_runChase_19, dp1_4_43_82, dX4_runChase_22, dX4_runChase_23, dX4_runChase_24, dp1_4_46_82, dX4_runChase_27, dX4_runChase_28, dg1_4_57_82, dX4_runChase_31, dX4_runChase_32, dg1_4_53_82, dX4_runChase_35, dv1_4_146_65, moX3_load, dX4_runChase_38, dX4_runChase_39, dg1_4_15_82, dX4_runChase_42, dX4_runChase_43, dX4_runChase_44, dv1_4_150_82, moX4_snapshot, dX4_runChase_47, dX4_runChase_48, dX4_runChase_49, dX4_runChase_50, dX4_runChase_51, dX4_runChase_52, dv1_4_154_82, moX4_endChase, dX4_runChase_55, dX4_runChase_56, dis_3, dX4_runChase_57, dil_3, dX4_runChase_58, dX4_runChase_59, dX4_runChase_62, dX4_runChase_63, dX4_runChase_65, dX4_runChase_68, dX4_runChase_69, dv1_4_158_82, moX4_goOneRound, dX4_runChase_72, dis_4, dX4_runChase_74, dX4_runChase_75, dX4_runChase_78, dX4_runChase_79, dX4_runChase_80, dX4_runChase_83, dX4_runChase_84, dil_4, dX4_runChase_86, dX4_runChase_89, dX4_runChase_90, dX4_runChase_91, dv1_4_162_82, moX4_sameAgo, dX4_runChase_94, dX4_runChase_97, dX4_runChase_98, dis_5, dX4_runChase_100, dX4_runChase_102, dX4_runChase_105, dil_5, dX4_runChase_107, dX4_runChase_110, dX4_runChase_111, dX4_runChase_113, dX4_runChase_116, dX4_runChase_117, dX4_runChase_120, dX4_runChase_121, dX4_runChase_122, dX4_runChase_124, dX4_runChase_127, dX4_runChase_130, dinc_3, dX4_runChase_133, dX4_runChase_136, dX4_runChase_137, dX4_runChase_140, dg1_4_71_65, dX4_runChase_143, dX4_runChase_144, dX4_runChase_145, dg1_4_19_82, dX4_runChase_148, dX4_runChase_149, dX4_runChase_150, dq4_165, dX4_runChase_153, dX4_runChase_154, dX4_runChase_157, dg1_4_66_65, dX4_runChase_160, dX4_runChase_161, dX4_runChase_162, dg1_4_22_82, dX4_runChase_165, dX4_runChase_166, dX4_runChase_167, dX4_runChase_170, das1_66, ar1_66, das1_67, ar1_67, das1_84, ar1_84, das1_85, ar1_85, das1_86, ar1_86]
    repeat' (with_reducible (first | apply And.intro | intro _))
    all_goals first | omega | skip
    have hF2 : zFr ω (ab_up (ab_up σ 82 12 stamp) 82 13 n) := fun o o1 => by
      rw [ab_up_o o (by omega), ab_up_o o (by omega)]
      exact hF o o1
    refine l_load hJ hK hF2 (fun φ a b => ?_)
    try simp only [cq_lt, cq_le, cq_gt, cq_ge, cq_eq, cq_r1, cq_r2, ab_r32, ab_r64, ab_go, ab_stp, wp_z, ab_in, ab_rok, ab_wsum, ab_prm, ab_ret, ab_sw, ab_cd, ab_tg, ab_cat_i, ab_cat_l, ab_cat_r, ab_cl_n, ab_cl_i, ab_cl_l, ab_cl_r, ab_f2_0, ab_f2_1, ab_f4_0, ab_f4_1, ab_f4_2, ab_f4_3, ab_op_s, ab_b1_s, ab_b2_s, ab_l1_s, ab_l2_s, ab_li_s, ab_o1_s, ab_io_s, ab_lo1_s, ab_iio_s, ab_lio_s, ab_cp5_s, ab_d2_l, ab_d2_i, ab_d2_o, ex_iconst, ex_bipush, ex_sipush, ex_lconst, ex_ldc, ex_ldc_w, ex_ldc2_w, ex_iadd, ex_isub, ex_imul, ex_iand, ex_ior, ex_ixor, ex_ishl, ex_ishr, ex_iushr, ex_idiv, ex_irem, ex_ladd, ex_lsub, ex_lmul, ex_lor, ex_ldiv, ex_lrem, ex_lshl, ex_lcmp, ex_ineg, ex_lneg, ex_i2l, ex_l2i, ex_i2b, ex_dup, ex_pop, ex_dup2, ex_goto, ex_tableswitch, ex_aaload, ex_ireturn, ex_lreturn, ex_return_, List.map_cons, List.map_nil, List.sum_cons, List.sum_nil, List.drop_succ_cons, List.drop_zero, List.take_succ_cons, List.take_zero, List.reverse_cons, List.reverse_nil, List.nil_append, List.cons_append, List.length_cons, List.length_nil, true_and, and_true, cond_false, cond_true, Bool.false_or, Bool.or_false, Bool.or_true, Bool.true_or, true_or, or_true, false_or, or_false, if_true, if_false, reduceIte, ite_true, ite_false, implies_true, true_implies, false_implies, forall_const, not_true_eq_false, not_false_eq_true, Nat.reduceAdd, Nat.reduceMul, Nat.reduceSub, Nat.reduceBEq, Nat.reduceEqDiff, Nat.reduceLeDiff, Nat.reduceLT, Int.reduceAdd, Int.reduceSub, Int.reduceMul, Int.reduceNeg, Int.reduceToNat, Int.reduceLE, Int.reduceLT, Int.reduceEq, Int.reduceNe, Int.reduceNatCast, Nat.add_zero, Nat.zero_add, reduceCtorEq, Int.reduceNatCast', wp_c, wp_g, e2_ifCond, e2_if_icmp, ↓bq_t, ↓bq_f, ab_br, ↓ab_b1_s, ↓ab_b2_s, ↓ab_l1_s, ↓ab_l2_s, ↓ab_li_s, ↓ab_o1_s, ↓ab_io_s, ↓ab_lo1_s, ↓ab_iio_s, ↓ab_lio_s, ↓ab_cp5_s, moX4_runChase, dX4_runChase_0, dal_0, dX4_runChase_1, dg1_4_43_82, dX4_runChase_4, dil_1, dX4_runChase_5, dX4_runChase_8, dX4_runChase_9, dg1_4_46_82, dX4_runChase_12, dil_2, dX4_runChase_13, dX4_runChase_16, dX4_runChase_17, dX4_runChase_18, dX4_runChase_19, dp1_4_43_82, dX4_runChase_22, dX4_runChase_23, dX4_runChase_24, dp1_4_46_82, dX4_runChase_27, dX4_runChase_28, dg1_4_57_82, dX4_runChase_31, dX4_runChase_32, dg1_4_53_82, dX4_runChase_35, dv1_4_146_65, moX3_load, dX4_runChase_38, dX4_runChase_39, dg1_4_15_82, dX4_runChase_42, dX4_runChase_43, dX4_runChase_44, dv1_4_150_82, moX4_snapshot, dX4_runChase_47, dX4_runChase_48, dX4_runChase_49, dX4_runChase_50, dX4_runChase_51, dX4_runChase_52, dv1_4_154_82, moX4_endChase, dX4_runChase_55, dX4_runChase_56, dis_3, dX4_runChase_57, dil_3, dX4_runChase_58, dX4_runChase_59, dX4_runChase_62, dX4_runChase_63, dX4_runChase_65, dX4_runChase_68, dX4_runChase_69, dv1_4_158_82, moX4_goOneRound, dX4_runChase_72, dis_4, dX4_runChase_74, dX4_runChase_75, dX4_runChase_78, dX4_runChase_79, dX4_runChase_80, dX4_runChase_83, dX4_runChase_84, dil_4, dX4_runChase_86, dX4_runChase_89, dX4_runChase_90, dX4_runChase_91, dv1_4_162_82, moX4_sameAgo, dX4_runChase_94, dX4_runChase_97, dX4_runChase_98, dis_5, dX4_runChase_100, dX4_runChase_102, dX4_runChase_105, dil_5, dX4_runChase_107, dX4_runChase_110, dX4_runChase_111, dX4_runChase_113, dX4_runChase_116, dX4_runChase_117, dX4_runChase_120, dX4_runChase_121, dX4_runChase_122, dX4_runChase_124, dX4_runChase_127, dX4_runChase_130, dinc_3, dX4_runChase_133, dX4_runChase_136, dX4_runChase_137, dX4_runChase_140, dg1_4_71_65, dX4_runChase_143, dX4_runChase_144, dX4_runChase_145, dg1_4_19_82, dX4_runChase_148, dX4_runChase_149, dX4_runChase_150, dq4_165, dX4_runChase_153, dX4_runChase_154, dX4_runChase_157, dg1_4_66_65, dX4_runChase_160, dX4_runChase_161, dX4_runChase_162, dg1_4_22_82, dX4_runChase_165, dX4_runChase_166, dX4_runChase_167, dX4_runChase_170, das1_66, ar1_66, das1_67, ar1_67, das1_84, ar1_84, das1_85, ar1_85, das1_86, ar1_86]
    repeat' (with_reducible (first | apply And.intro | intro _))
    all_goals first | omega | skip
    refine l_snapshot hJ hK a (zOk_0 hJ hK) ?_
    try simp only [cq_lt, cq_le, cq_gt, cq_ge, cq_eq, cq_r1, cq_r2, ab_r32, ab_r64, ab_go, ab_stp, wp_z, ab_in, ab_rok, ab_wsum, ab_prm, ab_ret, ab_sw, ab_cd, ab_tg, ab_cat_i, ab_cat_l, ab_cat_r, ab_cl_n, ab_cl_i, ab_cl_l, ab_cl_r, ab_f2_0, ab_f2_1, ab_f4_0, ab_f4_1, ab_f4_2, ab_f4_3, ab_op_s, ab_b1_s, ab_b2_s, ab_l1_s, ab_l2_s, ab_li_s, ab_o1_s, ab_io_s, ab_lo1_s, ab_iio_s, ab_lio_s, ab_cp5_s, ab_d2_l, ab_d2_i, ab_d2_o, ex_iconst, ex_bipush, ex_sipush, ex_lconst, ex_ldc, ex_ldc_w, ex_ldc2_w, ex_iadd, ex_isub, ex_imul, ex_iand, ex_ior, ex_ixor, ex_ishl, ex_ishr, ex_iushr, ex_idiv, ex_irem, ex_ladd, ex_lsub, ex_lmul, ex_lor, ex_ldiv, ex_lrem, ex_lshl, ex_lcmp, ex_ineg, ex_lneg, ex_i2l, ex_l2i, ex_i2b, ex_dup, ex_pop, ex_dup2, ex_goto, ex_tableswitch, ex_aaload, ex_ireturn, ex_lreturn, ex_return_, List.map_cons, List.map_nil, List.sum_cons, List.sum_nil, List.drop_succ_cons, List.drop_zero, List.take_succ_cons, List.take_zero, List.reverse_cons, List.reverse_nil, List.nil_append, List.cons_append, List.length_cons, List.length_nil, true_and, and_true, cond_false, cond_true, Bool.false_or, Bool.or_false, Bool.or_true, Bool.true_or, true_or, or_true, false_or, or_false, if_true, if_false, reduceIte, ite_true, ite_false, implies_true, true_implies, false_implies, forall_const, not_true_eq_false, not_false_eq_true, Nat.reduceAdd, Nat.reduceMul, Nat.reduceSub, Nat.reduceBEq, Nat.reduceEqDiff, Nat.reduceLeDiff, Nat.reduceLT, Int.reduceAdd, Int.reduceSub, Int.reduceMul, Int.reduceNeg, Int.reduceToNat, Int.reduceLE, Int.reduceLT, Int.reduceEq, Int.reduceNe, Int.reduceNatCast, Nat.add_zero, Nat.zero_add, reduceCtorEq, Int.reduceNatCast', wp_c, wp_g, e2_ifCond, e2_if_icmp, ↓bq_t, ↓bq_f, ab_br, ↓ab_b1_s, ↓ab_b2_s, ↓ab_l1_s, ↓ab_l2_s, ↓ab_li_s, ↓ab_o1_s, ↓ab_io_s, ↓ab_lo1_s, ↓ab_iio_s, ↓ab_lio_s, ↓ab_cp5_s, moX4_runChase, dX4_runChase_0, dal_0, dX4_runChase_1, dg1_4_43_82, dX4_runChase_4, dil_1, dX4_runChase_5, dX4_runChase_8, dX4_runChase_9, dg1_4_46_82, dX4_runChase_12, dil_2, dX4_runChase_13, dX4_runChase_16, dX4_runChase_17, dX4_runChase_18, dX4_runChase_19, dp1_4_43_82, dX4_runChase_22, dX4_runChase_23, dX4_runChase_24, dp1_4_46_82, dX4_runChase_27, dX4_runChase_28, dg1_4_57_82, dX4_runChase_31, dX4_runChase_32, dg1_4_53_82, dX4_runChase_35, dv1_4_146_65, moX3_load, dX4_runChase_38, dX4_runChase_39, dg1_4_15_82, dX4_runChase_42, dX4_runChase_43, dX4_runChase_44, dv1_4_150_82, moX4_snapshot, dX4_runChase_47, dX4_runChase_48, dX4_runChase_49, dX4_runChase_50, dX4_runChase_51, dX4_runChase_52, dv1_4_154_82, moX4_endChase, dX4_runChase_55, dX4_runChase_56, dis_3, dX4_runChase_57, dil_3, dX4_runChase_58, dX4_runChase_59, dX4_runChase_62, dX4_runChase_63, dX4_runChase_65, dX4_runChase_68, dX4_runChase_69, dv1_4_158_82, moX4_goOneRound, dX4_runChase_72, dis_4, dX4_runChase_74, dX4_runChase_75, dX4_runChase_78, dX4_runChase_79, dX4_runChase_80, dX4_runChase_83, dX4_runChase_84, dil_4, dX4_runChase_86, dX4_runChase_89, dX4_runChase_90, dX4_runChase_91, dv1_4_162_82, moX4_sameAgo, dX4_runChase_94, dX4_runChase_97, dX4_runChase_98, dis_5, dX4_runChase_100, dX4_runChase_102, dX4_runChase_105, dil_5, dX4_runChase_107, dX4_runChase_110, dX4_runChase_111, dX4_runChase_113, dX4_runChase_116, dX4_runChase_117, dX4_runChase_120, dX4_runChase_121, dX4_runChase_122, dX4_runChase_124, dX4_runChase_127, dX4_runChase_130, dinc_3, dX4_runChase_133, dX4_runChase_136, dX4_runChase_137, dX4_runChase_140, dg1_4_71_65, dX4_runChase_143, dX4_runChase_144, dX4_runChase_145, dg1_4_19_82, dX4_runChase_148, dX4_runChase_149, dX4_runChase_150, dq4_165, dX4_runChase_153, dX4_runChase_154, dX4_runChase_157, dg1_4_66_65, dX4_runChase_160, dX4_runChase_161, dX4_runChase_162, dg1_4_22_82, dX4_runChase_165, dX4_runChase_166, dX4_runChase_167, dX4_runChase_170, das1_66, ar1_66, das1_67, ar1_67, das1_84, ar1_84, das1_85, ar1_85, das1_86, ar1_86]
    repeat' (with_reducible (first | apply And.intro | intro _))
    all_goals first | omega | skip
    refine r_endChase ?_
    try simp only [cq_lt, cq_le, cq_gt, cq_ge, cq_eq, cq_r1, cq_r2, ab_r32, ab_r64, ab_go, ab_stp, wp_z, ab_in, ab_rok, ab_wsum, ab_prm, ab_ret, ab_sw, ab_cd, ab_tg, ab_cat_i, ab_cat_l, ab_cat_r, ab_cl_n, ab_cl_i, ab_cl_l, ab_cl_r, ab_f2_0, ab_f2_1, ab_f4_0, ab_f4_1, ab_f4_2, ab_f4_3, ab_op_s, ab_b1_s, ab_b2_s, ab_l1_s, ab_l2_s, ab_li_s, ab_o1_s, ab_io_s, ab_lo1_s, ab_iio_s, ab_lio_s, ab_cp5_s, ab_d2_l, ab_d2_i, ab_d2_o, ex_iconst, ex_bipush, ex_sipush, ex_lconst, ex_ldc, ex_ldc_w, ex_ldc2_w, ex_iadd, ex_isub, ex_imul, ex_iand, ex_ior, ex_ixor, ex_ishl, ex_ishr, ex_iushr, ex_idiv, ex_irem, ex_ladd, ex_lsub, ex_lmul, ex_lor, ex_ldiv, ex_lrem, ex_lshl, ex_lcmp, ex_ineg, ex_lneg, ex_i2l, ex_l2i, ex_i2b, ex_dup, ex_pop, ex_dup2, ex_goto, ex_tableswitch, ex_aaload, ex_ireturn, ex_lreturn, ex_return_, List.map_cons, List.map_nil, List.sum_cons, List.sum_nil, List.drop_succ_cons, List.drop_zero, List.take_succ_cons, List.take_zero, List.reverse_cons, List.reverse_nil, List.nil_append, List.cons_append, List.length_cons, List.length_nil, true_and, and_true, cond_false, cond_true, Bool.false_or, Bool.or_false, Bool.or_true, Bool.true_or, true_or, or_true, false_or, or_false, if_true, if_false, reduceIte, ite_true, ite_false, implies_true, true_implies, false_implies, forall_const, not_true_eq_false, not_false_eq_true, Nat.reduceAdd, Nat.reduceMul, Nat.reduceSub, Nat.reduceBEq, Nat.reduceEqDiff, Nat.reduceLeDiff, Nat.reduceLT, Int.reduceAdd, Int.reduceSub, Int.reduceMul, Int.reduceNeg, Int.reduceToNat, Int.reduceLE, Int.reduceLT, Int.reduceEq, Int.reduceNe, Int.reduceNatCast, Nat.add_zero, Nat.zero_add, reduceCtorEq, Int.reduceNatCast', wp_c, wp_g, e2_ifCond, e2_if_icmp, ↓bq_t, ↓bq_f, ab_br, ↓ab_b1_s, ↓ab_b2_s, ↓ab_l1_s, ↓ab_l2_s, ↓ab_li_s, ↓ab_o1_s, ↓ab_io_s, ↓ab_lo1_s, ↓ab_iio_s, ↓ab_lio_s, ↓ab_cp5_s, moX4_runChase, dX4_runChase_0, dal_0, dX4_runChase_1, dg1_4_43_82, dX4_runChase_4, dil_1, dX4_runChase_5, dX4_runChase_8, dX4_runChase_9, dg1_4_46_82, dX4_runChase_12, dil_2, dX4_runChase_13, dX4_runChase_16, dX4_runChase_17, dX4_runChase_18, dX4_runChase_19, dp1_4_43_82, dX4_runChase_22, dX4_runChase_23, dX4_runChase_24, dp1_4_46_82, dX4_runChase_27, dX4_runChase_28, dg1_4_57_82, dX4_runChase_31, dX4_runChase_32, dg1_4_53_82, dX4_runChase_35, dv1_4_146_65, moX3_load, dX4_runChase_38, dX4_runChase_39, dg1_4_15_82, dX4_runChase_42, dX4_runChase_43, dX4_runChase_44, dv1_4_150_82, moX4_snapshot, dX4_runChase_47, dX4_runChase_48, dX4_runChase_49, dX4_runChase_50, dX4_runChase_51, dX4_runChase_52, dv1_4_154_82, moX4_endChase, dX4_runChase_55, dX4_runChase_56, dis_3, dX4_runChase_57, dil_3, dX4_runChase_58, dX4_runChase_59, dX4_runChase_62, dX4_runChase_63, dX4_runChase_65, dX4_runChase_68, dX4_runChase_69, dv1_4_158_82, moX4_goOneRound, dX4_runChase_72, dis_4, dX4_runChase_74, dX4_runChase_75, dX4_runChase_78, dX4_runChase_79, dX4_runChase_80, dX4_runChase_83, dX4_runChase_84, dil_4, dX4_runChase_86, dX4_runChase_89, dX4_runChase_90, dX4_runChase_91, dv1_4_162_82, moX4_sameAgo, dX4_runChase_94, dX4_runChase_97, dX4_runChase_98, dis_5, dX4_runChase_100, dX4_runChase_102, dX4_runChase_105, dil_5, dX4_runChase_107, dX4_runChase_110, dX4_runChase_111, dX4_runChase_113, dX4_runChase_116, dX4_runChase_117, dX4_runChase_120, dX4_runChase_121, dX4_runChase_122, dX4_runChase_124, dX4_runChase_127, dX4_runChase_130, dinc_3, dX4_runChase_133, dX4_runChase_136, dX4_runChase_137, dX4_runChase_140, dg1_4_71_65, dX4_runChase_143, dX4_runChase_144, dX4_runChase_145, dg1_4_19_82, dX4_runChase_148, dX4_runChase_149, dX4_runChase_150, dq4_165, dX4_runChase_153, dX4_runChase_154, dX4_runChase_157, dg1_4_66_65, dX4_runChase_160, dX4_runChase_161, dX4_runChase_162, dg1_4_22_82, dX4_runChase_165, dX4_runChase_166, dX4_runChase_167, dX4_runChase_170, das1_66, ar1_66, das1_67, ar1_67, das1_84, ar1_84, das1_85, ar1_85, das1_86, ar1_86]
    refine key 62 1 _ _ _ (by omega) (by omega) (by omega) (zLd_c a (fun o o1 => ?_)) (fun o o1 => ?_) ?_ ?_ ⟨rfl, rfl, rfl⟩ (fun e e1 => ?_) (fun e e1 e2 => by omega)
    · rw [ab_up_o o (by omega), ab_up_o o (by omega), ab_up_o o (by omega), ab_up_o o (by omega)]
    · rw [ab_up_o o (by omega), ab_up_o o (by omega), ab_up_o o (by omega), ab_up_o o (by omega), b o (by omega), ab_up_o o (by omega), ab_up_o o (by omega)]
    · show φ 82 12 = _
      rw [b 82 (by decide)]
      rfl
    · show φ 82 13 = _
      rw [b 82 (by decide)]
      rfl
    · rw [show e = 0 by omega]
      rfl
  apply hG [17] 60
  simp only [cq_lt, cq_le, cq_gt, cq_ge, cq_eq, cq_r1, cq_r2, ab_r32, ab_r64, ab_go, ab_stp, wp_z, ab_in, ab_rok, ab_wsum, ab_prm, ab_ret, ab_sw, ab_cd, ab_tg, ab_cat_i, ab_cat_l, ab_cat_r, ab_cl_n, ab_cl_i, ab_cl_l, ab_cl_r, ab_f2_0, ab_f2_1, ab_f4_0, ab_f4_1, ab_f4_2, ab_f4_3, ab_op_s, ab_b1_s, ab_b2_s, ab_l1_s, ab_l2_s, ab_li_s, ab_o1_s, ab_io_s, ab_lo1_s, ab_iio_s, ab_lio_s, ab_cp5_s, ab_d2_l, ab_d2_i, ab_d2_o, ex_iconst, ex_bipush, ex_sipush, ex_lconst, ex_ldc, ex_ldc_w, ex_ldc2_w, ex_iadd, ex_isub, ex_imul, ex_iand, ex_ior, ex_ixor, ex_ishl, ex_ishr, ex_iushr, ex_idiv, ex_irem, ex_ladd, ex_lsub, ex_lmul, ex_lor, ex_ldiv, ex_lrem, ex_lshl, ex_lcmp, ex_ineg, ex_lneg, ex_i2l, ex_l2i, ex_i2b, ex_dup, ex_pop, ex_dup2, ex_goto, ex_tableswitch, ex_aaload, ex_ireturn, ex_lreturn, ex_return_, List.map_cons, List.map_nil, List.sum_cons, List.sum_nil, List.drop_succ_cons, List.drop_zero, List.take_succ_cons, List.take_zero, List.reverse_cons, List.reverse_nil, List.nil_append, List.cons_append, List.length_cons, List.length_nil, true_and, and_true, cond_false, cond_true, Bool.false_or, Bool.or_false, Bool.or_true, Bool.true_or, true_or, or_true, false_or, or_false, if_true, if_false, reduceIte, ite_true, ite_false, implies_true, true_implies, false_implies, forall_const, not_true_eq_false, not_false_eq_true, Nat.reduceAdd, Nat.reduceMul, Nat.reduceSub, Nat.reduceBEq, Nat.reduceEqDiff, Nat.reduceLeDiff, Nat.reduceLT, Int.reduceAdd, Int.reduceSub, Int.reduceMul, Int.reduceNeg, Int.reduceToNat, Int.reduceLE, Int.reduceLT, Int.reduceEq, Int.reduceNe, Int.reduceNatCast, Nat.add_zero, Nat.zero_add, reduceCtorEq, Int.reduceNatCast', wp_c, wp_g, e2_ifCond, e2_if_icmp, ↓bq_t, ↓bq_f, ab_br, ↓ab_b1_s, ↓ab_b2_s, ↓ab_l1_s, ↓ab_l2_s, ↓ab_li_s, ↓ab_o1_s, ↓ab_io_s, ↓ab_lo1_s, ↓ab_iio_s, ↓ab_lio_s, ↓ab_cp5_s, moX4_runChase, dX4_runChase_0, dal_0, dX4_runChase_1, dg1_4_43_82, dX4_runChase_4, dil_1, dX4_runChase_5, dX4_runChase_8, dX4_runChase_9, dg1_4_46_82, dX4_runChase_12, dil_2, dX4_runChase_13, dX4_runChase_16, dX4_runChase_17, dX4_runChase_18, dX4_runChase_19, dp1_4_43_82, dX4_runChase_22, dX4_runChase_23, dX4_runChase_24, dp1_4_46_82, dX4_runChase_27, dX4_runChase_28, dg1_4_57_82, dX4_runChase_31, dX4_runChase_32, dg1_4_53_82, dX4_runChase_35, dv1_4_146_65, moX3_load, dX4_runChase_38, dX4_runChase_39, dg1_4_15_82, dX4_runChase_42, dX4_runChase_43, dX4_runChase_44, dv1_4_150_82, moX4_snapshot, dX4_runChase_47, dX4_runChase_48, dX4_runChase_49, dX4_runChase_50, dX4_runChase_51, dX4_runChase_52, dv1_4_154_82, moX4_endChase, dX4_runChase_55, dX4_runChase_56, dis_3, dX4_runChase_57, dil_3, dX4_runChase_58, dX4_runChase_59, dX4_runChase_62, dX4_runChase_63, dX4_runChase_65, dX4_runChase_68, dX4_runChase_69, dv1_4_158_82, moX4_goOneRound, dX4_runChase_72, dis_4, dX4_runChase_74, dX4_runChase_75, dX4_runChase_78, dX4_runChase_79, dX4_runChase_80, dX4_runChase_83, dX4_runChase_84, dil_4, dX4_runChase_86, dX4_runChase_89, dX4_runChase_90, dX4_runChase_91, dv1_4_162_82, moX4_sameAgo, dX4_runChase_94, dX4_runChase_97, dX4_runChase_98, dis_5, dX4_runChase_100, dX4_runChase_102, dX4_runChase_105, dil_5, dX4_runChase_107, dX4_runChase_110, dX4_runChase_111, dX4_runChase_113, dX4_runChase_116, dX4_runChase_117, dX4_runChase_120, dX4_runChase_121, dX4_runChase_122, dX4_runChase_124, dX4_runChase_127, dX4_runChase_130, dinc_3, dX4_runChase_133, dX4_runChase_136, dX4_runChase_137, dX4_runChase_140, dg1_4_71_65, dX4_runChase_143, dX4_runChase_144, dX4_runChase_145, dg1_4_19_82, dX4_runChase_148, dX4_runChase_149, dX4_runChase_150, dq4_165, dX4_runChase_153, dX4_runChase_154, dX4_runChase_157, dg1_4_66_65, dX4_runChase_160, dX4_runChase_161, dX4_runChase_162, dg1_4_22_82, dX4_runChase_165, dX4_runChase_166, dX4_runChase_167, dX4_runChase_170, das1_66, ar1_66, das1_67, ar1_67, das1_84, ar1_84, das1_85, ar1_85, das1_86, ar1_86]
  repeat' (with_reducible (first | apply And.intro | intro _))
  all_goals first | omega | exact beg | skip
  rename_i q1 q2
  exact h σ (fun _ _ => rfl) (by omega) (by omega) (hc (by omega) (by omega))
