-- CLASS: Survey, the least costs
def zch (a b : Int) : Int := if a / 16 = b / 16 then zor a b else if a < b then a else b
set_option maxRecDepth 100000 in
set_option maxHeartbeats 4000000 in
theorem r_cheaper {Γ : List ab_O} {σ : ab_S} {a b : Int} {K : ab_V → ab_S → Prop} (ha : 0 ≤ a ∧ a ≤ 2147483647) (hb : 0 ≤ b ∧ b ≤ 2147483647) (h : K (vI (zch a b)) σ) : ab_Runs Γ mdX8_cheaper [vI a, vI b] σ K := by
  refine ab_runs mwX8_cheaper (by decide +kernel) (Nat.le_of_ble_eq_true rfl) (fun G hG => ?_)
  show G 0 [some (vI a), some (vI b)] [] _
  unfold zch at h
  apply hG [] 40
  simp only [cq_lt, cq_le, cq_gt, cq_ge, cq_eq, cq_r1, cq_r2, ab_r32, ab_r64, ab_go, ab_stp, wp_z, wp_s, ab_in, ab_gv, ab_psh, ab_rok, ab_wsum, ab_prm, ab_ret, ab_sw, ab_cd, ab_tg, ab_cat_i, ab_cat_l, ab_cat_r, ab_cl_n, ab_cl_i, ab_cl_l, ab_cl_r, ab_f2_0, ab_f2_1, ab_f4_0, ab_f4_1, ab_f4_2, ab_f4_3, ab_op_s, ab_gI_s, ab_gL_s, ab_gR_s, ab_b1_s, ab_b2_s, ab_l1_s, ab_l2_s, ab_li_s, ab_o1_s, ab_io_s, ab_lo1_s, ab_iio_s, ab_lio_s, ab_cp5_s, ab_d2_l, ab_d2_i, ab_d2_o, ex_iconst, ex_bipush, ex_sipush, ex_lconst, ex_ldc, ex_ldc_w, ex_ldc2_w, ex_iload_n, ex_iload, ex_lload_n, ex_lload, ex_aload_n, ex_aload, ex_istore_n, ex_istore, ex_lstore_n, ex_lstore, ex_iinc, ex_iadd, ex_isub, ex_imul, ex_iand, ex_ior, ex_ixor, ex_ishl, ex_ishr, ex_iushr, ex_idiv, ex_irem, ex_ladd, ex_lsub, ex_lmul, ex_lor, ex_ldiv, ex_lrem, ex_lshl, ex_lcmp, ex_ineg, ex_lneg, ex_i2l, ex_l2i, ex_i2b, ex_dup, ex_pop, ex_dup2, ex_goto, ex_ifCond, ex_if_icmp, ex_tableswitch, ex_getfield, ex_putfield, ex_iaload, ex_laload, ex_baload, ex_iastore, ex_lastore, ex_bastore, ex_aaload, ex_arraylength, ex_invokevirtual, ex_invokestatic, ex_ireturn, ex_lreturn, ex_return_, List.map_cons, List.map_nil, List.sum_cons, List.sum_nil, List.drop_succ_cons, List.drop_zero, List.take_succ_cons, List.take_zero, List.reverse_cons, List.reverse_nil, List.nil_append, List.cons_append, List.length_cons, List.length_nil, true_and, and_true, cond_false, cond_true, Bool.false_or, Bool.or_false, Bool.or_true, Bool.true_or, true_or, or_true, false_or, or_false, if_true, if_false, reduceIte, ite_true, ite_false, implies_true, true_implies, false_implies, forall_const, not_true_eq_false, not_false_eq_true, Nat.reduceAdd, Nat.reduceMul, Nat.reduceSub, Nat.reduceBEq, Nat.reduceEqDiff, Nat.reduceLeDiff, Nat.reduceLT, Int.reduceAdd, Int.reduceSub, Int.reduceMul, Int.reduceNeg, Int.reduceToNat, Int.reduceLE, Int.reduceLT, Int.reduceEq, Int.reduceNe, Int.reduceNatCast, Nat.add_zero, Nat.zero_add, reduceCtorEq, Int.reduceNatCast', moX8_cheaper, dX8_cheaper_0, dX8_cheaper_1, dX8_cheaper_2, dX8_cheaper_3, dX8_cheaper_4, dX8_cheaper_5, dX8_cheaper_6, dX8_cheaper_9, dX8_cheaper_10, dX8_cheaper_11, dX8_cheaper_12, dX8_cheaper_13, dX8_cheaper_14, dX8_cheaper_15, dX8_cheaper_18, dX8_cheaper_19, dX8_cheaper_22, dX8_cheaper_23, lk_0, lk_1, z_shr4 ha, z_shr4 hb, z_or ha hb]
  repeat' (with_reducible (first | apply And.intro | intro _))
  all_goals first | omega | skip
  · rename_i h1 h2
    rw [if_neg h1, if_neg (by omega)] at h
    exact h
  · rename_i h1 h2
    rw [if_neg h1, if_pos (by omega)] at h
    exact h
  · rename_i h1
    rw [if_pos (by omega)] at h
    exact h
theorem zmsk_in (n : Int) (f : Int → Int) (m : Int) : 0 ≤ zmsk n f m ∧ zmsk n f m < 16 := zb4_in _
theorem zmsk_lt {j d m : Int} {f : Int → Int} (hj : 0 ≤ j ∧ j < 4) (hm : zLe j f d m) (h : f j < m) : zmsk (j + 1) f (f j) = zp2 j := by
  rw [zp2_b4 hj]
  unfold zmsk
  refine zb4_congr (fun i p1 p2 => ?_)
  rw [Bool.eq_iff_iff]
  simp only [Bool.and_eq_true, decide_eq_true_eq]
  constructor
  · rintro ⟨q1, q2⟩
    by_cases e : i = j
    · exact e
    · have := hm.1 i p1 (by omega)
      omega
  · rintro rfl
    exact ⟨by omega, rfl⟩
theorem zmsk_eq {j m : Int} {f : Int → Int} (hj : 0 ≤ j ∧ j < 4) (h : f j = m) : zmsk (j + 1) f m = zor (zmsk j f m) (zp2 j) := by
  rw [zp2_b4 hj]
  unfold zmsk
  rw [zor_b4]
  refine zb4_congr (fun i p1 p2 => ?_)
  rw [Bool.eq_iff_iff]
  simp only [Bool.and_eq_true, Bool.or_eq_true, decide_eq_true_eq]
  constructor
  · rintro ⟨q1, q2⟩
    by_cases e : i = j
    · exact Or.inr e
    · exact Or.inl ⟨by omega, q2⟩
  · rintro (⟨q1, q2⟩ | rfl)
    · exact ⟨by omega, q2⟩
    · exact ⟨by omega, h⟩
theorem zmsk_gt {j m : Int} {f : Int → Int} (h : f j ≠ m) : zmsk (j + 1) f m = zmsk j f m := by
  unfold zmsk
  refine zb4_congr (fun i p1 p2 => ?_)
  rw [Bool.eq_iff_iff]
  simp only [Bool.and_eq_true, decide_eq_true_eq]
  constructor
  · rintro ⟨q1, q2⟩
    by_cases e : i = j
    · rw [e] at q2
      exact absurd q2 h
    · exact ⟨by omega, q2⟩
  · rintro ⟨q1, q2⟩
    exact ⟨by omega, q2⟩
theorem zch_step {j d m : Int} {f : Int → Int} (hj : 0 ≤ j ∧ j < 4) (hm : zLe j f d m) (h0 : 0 ≤ m ∧ m ≤ d) (hf : 0 ≤ f j ∧ f j < d) : ∃ m', (0 ≤ m' ∧ m' ≤ d) ∧ zLe (j + 1) f d m' ∧ zch (16 * m + zmsk j f m) (16 * f j + zp2 j) = 16 * m' + zmsk (j + 1) f m' := by
  have b1 := zmsk_in j f m
  have b2 := zp2_in (j := j)
  unfold zch
  by_cases hc : f j < m
  · refine ⟨f j, by omega, ⟨fun i p1 p2 => ?_, Or.inr ⟨j, by omega, by omega, rfl⟩⟩, ?_⟩
    · by_cases e : i = j
      · rw [e]; omega
      · have := hm.1 i p1 (by omega)
        omega
    · rw [if_neg (by omega), if_neg (by omega), zmsk_lt hj hm hc]
  · by_cases he : f j = m
    · refine ⟨m, h0, ⟨fun i p1 p2 => ?_, Or.inr ⟨j, by omega, by omega, he⟩⟩, ?_⟩
      · by_cases e : i = j
        · rw [e]; omega
        · exact hm.1 i p1 (by omega)
      · rw [if_pos (by omega), he, zor_16 (by omega) b1 (by omega), zmsk_eq hj he]
    · refine ⟨m, h0, ⟨fun i p1 p2 => ?_, ?_⟩, ?_⟩
      · by_cases e : i = j
        · rw [e]; omega
        · exact hm.1 i p1 (by omega)
      · rcases hm.2 with ⟨z1, z2⟩ | ⟨i, z1, z2, z3⟩
        · omega
        · exact Or.inr ⟨i, z1, by omega, z3⟩
      · rw [if_neg (by omega), if_pos (by omega), zmsk_gt he]
/-- what a Survey at o needs -/
def zSv (σ : ab_S) (o : Nat) : Prop := (0 ≤ σ o 7 ∧ σ o 7 ≤ 4) ∧ (1 ≤ σ o 8 ∧ σ o 8 ≤ 5) ∧ ∀ j, 0 ≤ j → j < σ o 7 → zSt σ (σ (o + 1) j) ∧ (0 ≤ σ (o + 2) j ∧ σ (o + 2) j ≤ 60) ∧ ∀ c, 0 ≤ c → c < σ 3 8 → 0 ≤ σ (o + 3) (12 * j + c) ∧ σ (o + 3) (12 * j + c) ≤ 100012
theorem zmul5 {p x : Int} (hp : 1 ≤ p ∧ p ≤ 5) (hx : 0 ≤ x ∧ x ≤ 200000) : 0 ≤ p * x ∧ p * x ≤ 5 * x ∧ x ≤ p * x := by
  rcases (show p = 1 ∨ p = 2 ∨ p = 3 ∨ p = 4 ∨ p = 5 by omega) with rfl | rfl | rfl | rfl | rfl <;> omega
set_option maxRecDepth 100000 in
set_option maxHeartbeats 4000000 in
theorem r_cheapest {o : Nat} (ho : o = 65 ∨ o = 76) {σ : ab_S} {c : Int} {K : ab_V → ab_S → Prop} (hS : zSv σ o) (hc : 0 ≤ c ∧ c < σ 3 8) (hn : σ 3 8 ≤ 12)
    (h : ∀ m, (0 ≤ m ∧ m ≤ 1000000) → zLe (σ o 7) (fun j => σ (o + 2) j + σ o 8 * σ (o + 3) (12 * j + c)) 1000000 m → K (vI (16 * m + zmsk (σ o 7) (fun j => σ (o + 2) j + σ o 8 * σ (o + 3) (12 * j + c)) m)) σ) : ab_Runs ab_G1 mdX8_cheapest [vR o, vI c] σ K := by
  refine ab_runs mwX8_cheapest (by decide +kernel) (Nat.le_of_ble_eq_true rfl) (fun G hG => ?_)
  show G 0 [some (vR o), some (vI c), none, none] [] _
  obtain ⟨⟨n1, n2⟩, hp, hj⟩ := hS
  have key : ∀ (k : Nat) (j m : Int), σ o 7 - j < k → 0 ≤ j → j ≤ σ o 7 → (0 ≤ m ∧ m ≤ 1000000) → zLe j (fun j => σ (o + 2) j + σ o 8 * σ (o + 3) (12 * j + c)) 1000000 m → G 5 [some (vR o), some (vI c), some (vI (16 * m + zmsk j (fun j => σ (o + 2) j + σ o 8 * σ (o + 3) (12 * j + c)) m)), some (vI j)] [] σ := by
    intro k
    induction k with
    | zero => intro j m h1 h2 h3 _ _; omega
    | succ k ih =>
      intro j m h1 h2 h3 hm hL
      have b1 := zmsk_in j (fun j => σ (o + 2) j + σ o 8 * σ (o + 3) (12 * j + c)) m
      have hcall : j < σ o 7 → ∀ v, v = 16 * (σ (o + 2) j + σ o 8 * σ (o + 3) (12 * j + c)) + zp2 j → ab_Runs ab_G1 mdX8_cheaper [vI (16 * m + zmsk j (fun j => σ (o + 2) j + σ o 8 * σ (o + 3) (12 * j + c)) m), vI v] σ (fun v τ => ab_b1 [v] (fun x r => G 5 [some (vR o), some (vI c), some (vI x), some (vI (j + 1))] r τ)) := by
        intro hlt v hv
        obtain ⟨g1, g2, g3⟩ := hj j h2 hlt
        have g4 := g3 c hc.1 hc.2
        have g5 := zmul5 hp (x := σ (o + 3) (12 * j + c)) (by omega)
        have b2 := zp2_in (j := j)
        refine r_cheaper (by omega) (by omega) ?_
        obtain ⟨m', q1, q2, q3⟩ := zch_step (f := fun j => σ (o + 2) j + σ o 8 * σ (o + 3) (12 * j + c)) (d := 1000000) (by omega : 0 ≤ j ∧ j < 4) hL hm (by omega)
        have := ih (j + 1) m' (by omega) (by omega) (by omega) q1 q2
        rw [← q3] at this
        rw [hv]
        exact this
      rcases ho with rfl | rfl
      · apply hG [5] 60
        simp only [cq_lt, cq_le, cq_gt, cq_ge, cq_eq, cq_r1, cq_r2, ab_r32, ab_r64, ab_go, ab_stp, wp_z, wp_s, ab_in, ab_gv, ab_psh, ab_rok, ab_wsum, ab_prm, ab_ret, ab_sw, ab_cd, ab_tg, ab_cat_i, ab_cat_l, ab_cat_r, ab_cl_n, ab_cl_i, ab_cl_l, ab_cl_r, ab_f2_0, ab_f2_1, ab_f4_0, ab_f4_1, ab_f4_2, ab_f4_3, ab_op_s, ab_gI_s, ab_gL_s, ab_gR_s, ab_b1_s, ab_b2_s, ab_l1_s, ab_l2_s, ab_li_s, ab_o1_s, ab_io_s, ab_lo1_s, ab_iio_s, ab_lio_s, ab_cp5_s, ab_d2_l, ab_d2_i, ab_d2_o, ex_iconst, ex_bipush, ex_sipush, ex_lconst, ex_ldc, ex_ldc_w, ex_ldc2_w, ex_iload_n, ex_iload, ex_lload_n, ex_lload, ex_aload_n, ex_aload, ex_istore_n, ex_istore, ex_lstore_n, ex_lstore, ex_iinc, ex_iadd, ex_isub, ex_imul, ex_iand, ex_ior, ex_ixor, ex_ishl, ex_ishr, ex_iushr, ex_idiv, ex_irem, ex_ladd, ex_lsub, ex_lmul, ex_lor, ex_ldiv, ex_lrem, ex_lshl, ex_lcmp, ex_ineg, ex_lneg, ex_i2l, ex_l2i, ex_i2b, ex_dup, ex_pop, ex_dup2, ex_goto, ex_ifCond, ex_if_icmp, ex_tableswitch, ex_getfield, ex_putfield, ex_iaload, ex_laload, ex_baload, ex_iastore, ex_lastore, ex_bastore, ex_aaload, ex_arraylength, ex_invokevirtual, ex_invokestatic, ex_ireturn, ex_lreturn, ex_return_, List.map_cons, List.map_nil, List.sum_cons, List.sum_nil, List.drop_succ_cons, List.drop_zero, List.take_succ_cons, List.take_zero, List.reverse_cons, List.reverse_nil, List.nil_append, List.cons_append, List.length_cons, List.length_nil, true_and, and_true, cond_false, cond_true, Bool.false_or, Bool.or_false, Bool.or_true, Bool.true_or, true_or, or_true, false_or, or_false, if_true, if_false, reduceIte, ite_true, ite_false, implies_true, true_implies, false_implies, forall_const, not_true_eq_false, not_false_eq_true, Nat.reduceAdd, Nat.reduceMul, Nat.reduceSub, Nat.reduceBEq, Nat.reduceEqDiff, Nat.reduceLeDiff, Nat.reduceLT, Int.reduceAdd, Int.reduceSub, Int.reduceMul, Int.reduceNeg, Int.reduceToNat, Int.reduceLE, Int.reduceLT, Int.reduceEq, Int.reduceNe, Int.reduceNatCast, Nat.add_zero, Nat.zero_add, reduceCtorEq, Int.reduceNatCast', moX8_cheapest, dX8_cheapest_0, kx8_112, dX8_cheapest_2, dX8_cheapest_3, dX8_cheapest_4, dX8_cheapest_5, dX8_cheapest_6, dX8_cheapest_7, gt1_8_27_65, gt1_8_27_76, dX8_cheapest_10, dX8_cheapest_13, dX8_cheapest_14, dX8_cheapest_16, dX8_cheapest_17, gt1_8_15_65, gt1_8_15_76, dX8_cheapest_20, dX8_cheapest_21, dX8_cheapest_22, dX8_cheapest_23, gt1_8_31_65, gt1_8_31_76, dX8_cheapest_26, dX8_cheapest_27, gt1_8_18_65, gt1_8_18_76, dX8_cheapest_30, dX8_cheapest_32, dX8_cheapest_33, dX8_cheapest_34, dX8_cheapest_35, dX8_cheapest_36, dX8_cheapest_37, dX8_cheapest_38, dX8_cheapest_39, dX8_cheapest_40, dX8_cheapest_41, dX8_cheapest_42, dX8_cheapest_43, dX8_cheapest_44, is8_113, moX8_cheaper, dX8_cheapest_47, dX8_cheapest_48, dX8_cheapest_51, dX8_cheapest_54, dX8_cheapest_55, ar1_0, ar1_1, ar1_10, ar1_100, ar1_101, ar1_102, ar1_11, ar1_12, ar1_13, ar1_14, ar1_15, ar1_16, ar1_17, ar1_18, ar1_19, ar1_2, ar1_20, ar1_21, ar1_22, ar1_23, ar1_24, ar1_25, ar1_26, ar1_27, ar1_28, ar1_29, ar1_3, ar1_30, ar1_31, ar1_32, ar1_33, ar1_34, ar1_35, ar1_36, ar1_37, ar1_38, ar1_39, ar1_4, ar1_40, ar1_41, ar1_42, ar1_43, ar1_44, ar1_45, ar1_46, ar1_47, ar1_48, ar1_49, ar1_5, ar1_50, ar1_51, ar1_52, ar1_53, ar1_54, ar1_55, ar1_56, ar1_57, ar1_58, ar1_59, ar1_6, ar1_60, ar1_61, ar1_62, ar1_63, ar1_64, ar1_65, ar1_66, ar1_67, ar1_68, ar1_69, ar1_7, ar1_70, ar1_71, ar1_72, ar1_73, ar1_74, ar1_75, ar1_76, ar1_77, ar1_78, ar1_79, ar1_8, ar1_80, ar1_81, ar1_82, ar1_83, ar1_84, ar1_85, ar1_86, ar1_87, ar1_88, ar1_89, ar1_9, ar1_90, ar1_91, ar1_92, ar1_93, ar1_94, ar1_95, ar1_96, ar1_97, ar1_98, ar1_99, lk_0, lk_1, lk_2, lk_3, st1_2, st1_3]
        repeat' (with_reducible (first | apply And.intro | intro _))
        all_goals first | omega | skip
        · rename_i hq
          have e : j = σ _ 7 := Int.le_antisymm h3 hq
          subst e
          exact h m hm hL
        all_goals (rename_i hq; have g := (hj j h2 (by omega)).2.2 c hc.1 hc.2)
        all_goals first | omega | exact hcall (by omega) _ (by rw [z_shl1 (by omega)])
      · apply hG [5] 60
        simp only [cq_lt, cq_le, cq_gt, cq_ge, cq_eq, cq_r1, cq_r2, ab_r32, ab_r64, ab_go, ab_stp, wp_z, wp_s, ab_in, ab_gv, ab_psh, ab_rok, ab_wsum, ab_prm, ab_ret, ab_sw, ab_cd, ab_tg, ab_cat_i, ab_cat_l, ab_cat_r, ab_cl_n, ab_cl_i, ab_cl_l, ab_cl_r, ab_f2_0, ab_f2_1, ab_f4_0, ab_f4_1, ab_f4_2, ab_f4_3, ab_op_s, ab_gI_s, ab_gL_s, ab_gR_s, ab_b1_s, ab_b2_s, ab_l1_s, ab_l2_s, ab_li_s, ab_o1_s, ab_io_s, ab_lo1_s, ab_iio_s, ab_lio_s, ab_cp5_s, ab_d2_l, ab_d2_i, ab_d2_o, ex_iconst, ex_bipush, ex_sipush, ex_lconst, ex_ldc, ex_ldc_w, ex_ldc2_w, ex_iload_n, ex_iload, ex_lload_n, ex_lload, ex_aload_n, ex_aload, ex_istore_n, ex_istore, ex_lstore_n, ex_lstore, ex_iinc, ex_iadd, ex_isub, ex_imul, ex_iand, ex_ior, ex_ixor, ex_ishl, ex_ishr, ex_iushr, ex_idiv, ex_irem, ex_ladd, ex_lsub, ex_lmul, ex_lor, ex_ldiv, ex_lrem, ex_lshl, ex_lcmp, ex_ineg, ex_lneg, ex_i2l, ex_l2i, ex_i2b, ex_dup, ex_pop, ex_dup2, ex_goto, ex_ifCond, ex_if_icmp, ex_tableswitch, ex_getfield, ex_putfield, ex_iaload, ex_laload, ex_baload, ex_iastore, ex_lastore, ex_bastore, ex_aaload, ex_arraylength, ex_invokevirtual, ex_invokestatic, ex_ireturn, ex_lreturn, ex_return_, List.map_cons, List.map_nil, List.sum_cons, List.sum_nil, List.drop_succ_cons, List.drop_zero, List.take_succ_cons, List.take_zero, List.reverse_cons, List.reverse_nil, List.nil_append, List.cons_append, List.length_cons, List.length_nil, true_and, and_true, cond_false, cond_true, Bool.false_or, Bool.or_false, Bool.or_true, Bool.true_or, true_or, or_true, false_or, or_false, if_true, if_false, reduceIte, ite_true, ite_false, implies_true, true_implies, false_implies, forall_const, not_true_eq_false, not_false_eq_true, Nat.reduceAdd, Nat.reduceMul, Nat.reduceSub, Nat.reduceBEq, Nat.reduceEqDiff, Nat.reduceLeDiff, Nat.reduceLT, Int.reduceAdd, Int.reduceSub, Int.reduceMul, Int.reduceNeg, Int.reduceToNat, Int.reduceLE, Int.reduceLT, Int.reduceEq, Int.reduceNe, Int.reduceNatCast, Nat.add_zero, Nat.zero_add, reduceCtorEq, Int.reduceNatCast', moX8_cheapest, dX8_cheapest_0, kx8_112, dX8_cheapest_2, dX8_cheapest_3, dX8_cheapest_4, dX8_cheapest_5, dX8_cheapest_6, dX8_cheapest_7, gt1_8_27_65, gt1_8_27_76, dX8_cheapest_10, dX8_cheapest_13, dX8_cheapest_14, dX8_cheapest_16, dX8_cheapest_17, gt1_8_15_65, gt1_8_15_76, dX8_cheapest_20, dX8_cheapest_21, dX8_cheapest_22, dX8_cheapest_23, gt1_8_31_65, gt1_8_31_76, dX8_cheapest_26, dX8_cheapest_27, gt1_8_18_65, gt1_8_18_76, dX8_cheapest_30, dX8_cheapest_32, dX8_cheapest_33, dX8_cheapest_34, dX8_cheapest_35, dX8_cheapest_36, dX8_cheapest_37, dX8_cheapest_38, dX8_cheapest_39, dX8_cheapest_40, dX8_cheapest_41, dX8_cheapest_42, dX8_cheapest_43, dX8_cheapest_44, is8_113, moX8_cheaper, dX8_cheapest_47, dX8_cheapest_48, dX8_cheapest_51, dX8_cheapest_54, dX8_cheapest_55, ar1_0, ar1_1, ar1_10, ar1_100, ar1_101, ar1_102, ar1_11, ar1_12, ar1_13, ar1_14, ar1_15, ar1_16, ar1_17, ar1_18, ar1_19, ar1_2, ar1_20, ar1_21, ar1_22, ar1_23, ar1_24, ar1_25, ar1_26, ar1_27, ar1_28, ar1_29, ar1_3, ar1_30, ar1_31, ar1_32, ar1_33, ar1_34, ar1_35, ar1_36, ar1_37, ar1_38, ar1_39, ar1_4, ar1_40, ar1_41, ar1_42, ar1_43, ar1_44, ar1_45, ar1_46, ar1_47, ar1_48, ar1_49, ar1_5, ar1_50, ar1_51, ar1_52, ar1_53, ar1_54, ar1_55, ar1_56, ar1_57, ar1_58, ar1_59, ar1_6, ar1_60, ar1_61, ar1_62, ar1_63, ar1_64, ar1_65, ar1_66, ar1_67, ar1_68, ar1_69, ar1_7, ar1_70, ar1_71, ar1_72, ar1_73, ar1_74, ar1_75, ar1_76, ar1_77, ar1_78, ar1_79, ar1_8, ar1_80, ar1_81, ar1_82, ar1_83, ar1_84, ar1_85, ar1_86, ar1_87, ar1_88, ar1_89, ar1_9, ar1_90, ar1_91, ar1_92, ar1_93, ar1_94, ar1_95, ar1_96, ar1_97, ar1_98, ar1_99, lk_0, lk_1, lk_2, lk_3, st1_2, st1_3]
        repeat' (with_reducible (first | apply And.intro | intro _))
        all_goals first | omega | skip
        · rename_i hq
          have e : j = σ _ 7 := Int.le_antisymm h3 hq
          subst e
          exact h m hm hL
        all_goals (rename_i hq; have g := (hj j h2 (by omega)).2.2 c hc.1 hc.2)
        all_goals first | omega | exact hcall (by omega) _ (by rw [z_shl1 (by omega)])
  have e0 : (16000000 : Int) = 16 * 1000000 + zmsk 0 (fun j => σ (o + 2) j + σ o 8 * σ (o + 3) (12 * j + c)) 1000000 := by
    have : zmsk 0 (fun j => σ (o + 2) j + σ o 8 * σ (o + 3) (12 * j + c)) 1000000 = zb4 (fun _ => false) := zb4_congr (fun i p1 p2 => by simp; omega)
    rw [this]
    rfl
  have hk := key 5 0 1000000 (by omega) (by omega) (by omega) (by omega) ⟨fun i p1 p2 => by omega, Or.inl ⟨by omega, rfl⟩⟩
  rw [← e0] at hk
  rcases ho with rfl | rfl
  · apply hG [5] 60
    simp only [cq_lt, cq_le, cq_gt, cq_ge, cq_eq, cq_r1, cq_r2, ab_r32, ab_r64, ab_go, ab_stp, wp_z, wp_s, ab_in, ab_gv, ab_psh, ab_rok, ab_wsum, ab_prm, ab_ret, ab_sw, ab_cd, ab_tg, ab_cat_i, ab_cat_l, ab_cat_r, ab_cl_n, ab_cl_i, ab_cl_l, ab_cl_r, ab_f2_0, ab_f2_1, ab_f4_0, ab_f4_1, ab_f4_2, ab_f4_3, ab_op_s, ab_gI_s, ab_gL_s, ab_gR_s, ab_b1_s, ab_b2_s, ab_l1_s, ab_l2_s, ab_li_s, ab_o1_s, ab_io_s, ab_lo1_s, ab_iio_s, ab_lio_s, ab_cp5_s, ab_d2_l, ab_d2_i, ab_d2_o, ex_iconst, ex_bipush, ex_sipush, ex_lconst, ex_ldc, ex_ldc_w, ex_ldc2_w, ex_iload_n, ex_iload, ex_lload_n, ex_lload, ex_aload_n, ex_aload, ex_istore_n, ex_istore, ex_lstore_n, ex_lstore, ex_iinc, ex_iadd, ex_isub, ex_imul, ex_iand, ex_ior, ex_ixor, ex_ishl, ex_ishr, ex_iushr, ex_idiv, ex_irem, ex_ladd, ex_lsub, ex_lmul, ex_lor, ex_ldiv, ex_lrem, ex_lshl, ex_lcmp, ex_ineg, ex_lneg, ex_i2l, ex_l2i, ex_i2b, ex_dup, ex_pop, ex_dup2, ex_goto, ex_ifCond, ex_if_icmp, ex_tableswitch, ex_getfield, ex_putfield, ex_iaload, ex_laload, ex_baload, ex_iastore, ex_lastore, ex_bastore, ex_aaload, ex_arraylength, ex_invokevirtual, ex_invokestatic, ex_ireturn, ex_lreturn, ex_return_, List.map_cons, List.map_nil, List.sum_cons, List.sum_nil, List.drop_succ_cons, List.drop_zero, List.take_succ_cons, List.take_zero, List.reverse_cons, List.reverse_nil, List.nil_append, List.cons_append, List.length_cons, List.length_nil, true_and, and_true, cond_false, cond_true, Bool.false_or, Bool.or_false, Bool.or_true, Bool.true_or, true_or, or_true, false_or, or_false, if_true, if_false, reduceIte, ite_true, ite_false, implies_true, true_implies, false_implies, forall_const, not_true_eq_false, not_false_eq_true, Nat.reduceAdd, Nat.reduceMul, Nat.reduceSub, Nat.reduceBEq, Nat.reduceEqDiff, Nat.reduceLeDiff, Nat.reduceLT, Int.reduceAdd, Int.reduceSub, Int.reduceMul, Int.reduceNeg, Int.reduceToNat, Int.reduceLE, Int.reduceLT, Int.reduceEq, Int.reduceNe, Int.reduceNatCast, Nat.add_zero, Nat.zero_add, reduceCtorEq, Int.reduceNatCast', moX8_cheapest, dX8_cheapest_0, kx8_112, dX8_cheapest_2, dX8_cheapest_3, dX8_cheapest_4, dX8_cheapest_5, dX8_cheapest_6, dX8_cheapest_7, gt1_8_27_65, gt1_8_27_76, dX8_cheapest_10, dX8_cheapest_13, dX8_cheapest_14, dX8_cheapest_16, dX8_cheapest_17, gt1_8_15_65, gt1_8_15_76, dX8_cheapest_20, dX8_cheapest_21, dX8_cheapest_22, dX8_cheapest_23, gt1_8_31_65, gt1_8_31_76, dX8_cheapest_26, dX8_cheapest_27, gt1_8_18_65, gt1_8_18_76, dX8_cheapest_30, dX8_cheapest_32, dX8_cheapest_33, dX8_cheapest_34, dX8_cheapest_35, dX8_cheapest_36, dX8_cheapest_37, dX8_cheapest_38, dX8_cheapest_39, dX8_cheapest_40, dX8_cheapest_41, dX8_cheapest_42, dX8_cheapest_43, dX8_cheapest_44, is8_113, moX8_cheaper, dX8_cheapest_47, dX8_cheapest_48, dX8_cheapest_51, dX8_cheapest_54, dX8_cheapest_55, ar1_0, ar1_1, ar1_10, ar1_100, ar1_101, ar1_102, ar1_11, ar1_12, ar1_13, ar1_14, ar1_15, ar1_16, ar1_17, ar1_18, ar1_19, ar1_2, ar1_20, ar1_21, ar1_22, ar1_23, ar1_24, ar1_25, ar1_26, ar1_27, ar1_28, ar1_29, ar1_3, ar1_30, ar1_31, ar1_32, ar1_33, ar1_34, ar1_35, ar1_36, ar1_37, ar1_38, ar1_39, ar1_4, ar1_40, ar1_41, ar1_42, ar1_43, ar1_44, ar1_45, ar1_46, ar1_47, ar1_48, ar1_49, ar1_5, ar1_50, ar1_51, ar1_52, ar1_53, ar1_54, ar1_55, ar1_56, ar1_57, ar1_58, ar1_59, ar1_6, ar1_60, ar1_61, ar1_62, ar1_63, ar1_64, ar1_65, ar1_66, ar1_67, ar1_68, ar1_69, ar1_7, ar1_70, ar1_71, ar1_72, ar1_73, ar1_74, ar1_75, ar1_76, ar1_77, ar1_78, ar1_79, ar1_8, ar1_80, ar1_81, ar1_82, ar1_83, ar1_84, ar1_85, ar1_86, ar1_87, ar1_88, ar1_89, ar1_9, ar1_90, ar1_91, ar1_92, ar1_93, ar1_94, ar1_95, ar1_96, ar1_97, ar1_98, ar1_99, lk_0, lk_1, lk_2, lk_3, st1_2, st1_3]
    exact hk
  · apply hG [5] 60
    simp only [cq_lt, cq_le, cq_gt, cq_ge, cq_eq, cq_r1, cq_r2, ab_r32, ab_r64, ab_go, ab_stp, wp_z, wp_s, ab_in, ab_gv, ab_psh, ab_rok, ab_wsum, ab_prm, ab_ret, ab_sw, ab_cd, ab_tg, ab_cat_i, ab_cat_l, ab_cat_r, ab_cl_n, ab_cl_i, ab_cl_l, ab_cl_r, ab_f2_0, ab_f2_1, ab_f4_0, ab_f4_1, ab_f4_2, ab_f4_3, ab_op_s, ab_gI_s, ab_gL_s, ab_gR_s, ab_b1_s, ab_b2_s, ab_l1_s, ab_l2_s, ab_li_s, ab_o1_s, ab_io_s, ab_lo1_s, ab_iio_s, ab_lio_s, ab_cp5_s, ab_d2_l, ab_d2_i, ab_d2_o, ex_iconst, ex_bipush, ex_sipush, ex_lconst, ex_ldc, ex_ldc_w, ex_ldc2_w, ex_iload_n, ex_iload, ex_lload_n, ex_lload, ex_aload_n, ex_aload, ex_istore_n, ex_istore, ex_lstore_n, ex_lstore, ex_iinc, ex_iadd, ex_isub, ex_imul, ex_iand, ex_ior, ex_ixor, ex_ishl, ex_ishr, ex_iushr, ex_idiv, ex_irem, ex_ladd, ex_lsub, ex_lmul, ex_lor, ex_ldiv, ex_lrem, ex_lshl, ex_lcmp, ex_ineg, ex_lneg, ex_i2l, ex_l2i, ex_i2b, ex_dup, ex_pop, ex_dup2, ex_goto, ex_ifCond, ex_if_icmp, ex_tableswitch, ex_getfield, ex_putfield, ex_iaload, ex_laload, ex_baload, ex_iastore, ex_lastore, ex_bastore, ex_aaload, ex_arraylength, ex_invokevirtual, ex_invokestatic, ex_ireturn, ex_lreturn, ex_return_, List.map_cons, List.map_nil, List.sum_cons, List.sum_nil, List.drop_succ_cons, List.drop_zero, List.take_succ_cons, List.take_zero, List.reverse_cons, List.reverse_nil, List.nil_append, List.cons_append, List.length_cons, List.length_nil, true_and, and_true, cond_false, cond_true, Bool.false_or, Bool.or_false, Bool.or_true, Bool.true_or, true_or, or_true, false_or, or_false, if_true, if_false, reduceIte, ite_true, ite_false, implies_true, true_implies, false_implies, forall_const, not_true_eq_false, not_false_eq_true, Nat.reduceAdd, Nat.reduceMul, Nat.reduceSub, Nat.reduceBEq, Nat.reduceEqDiff, Nat.reduceLeDiff, Nat.reduceLT, Int.reduceAdd, Int.reduceSub, Int.reduceMul, Int.reduceNeg, Int.reduceToNat, Int.reduceLE, Int.reduceLT, Int.reduceEq, Int.reduceNe, Int.reduceNatCast, Nat.add_zero, Nat.zero_add, reduceCtorEq, Int.reduceNatCast', moX8_cheapest, dX8_cheapest_0, kx8_112, dX8_cheapest_2, dX8_cheapest_3, dX8_cheapest_4, dX8_cheapest_5, dX8_cheapest_6, dX8_cheapest_7, gt1_8_27_65, gt1_8_27_76, dX8_cheapest_10, dX8_cheapest_13, dX8_cheapest_14, dX8_cheapest_16, dX8_cheapest_17, gt1_8_15_65, gt1_8_15_76, dX8_cheapest_20, dX8_cheapest_21, dX8_cheapest_22, dX8_cheapest_23, gt1_8_31_65, gt1_8_31_76, dX8_cheapest_26, dX8_cheapest_27, gt1_8_18_65, gt1_8_18_76, dX8_cheapest_30, dX8_cheapest_32, dX8_cheapest_33, dX8_cheapest_34, dX8_cheapest_35, dX8_cheapest_36, dX8_cheapest_37, dX8_cheapest_38, dX8_cheapest_39, dX8_cheapest_40, dX8_cheapest_41, dX8_cheapest_42, dX8_cheapest_43, dX8_cheapest_44, is8_113, moX8_cheaper, dX8_cheapest_47, dX8_cheapest_48, dX8_cheapest_51, dX8_cheapest_54, dX8_cheapest_55, ar1_0, ar1_1, ar1_10, ar1_100, ar1_101, ar1_102, ar1_11, ar1_12, ar1_13, ar1_14, ar1_15, ar1_16, ar1_17, ar1_18, ar1_19, ar1_2, ar1_20, ar1_21, ar1_22, ar1_23, ar1_24, ar1_25, ar1_26, ar1_27, ar1_28, ar1_29, ar1_3, ar1_30, ar1_31, ar1_32, ar1_33, ar1_34, ar1_35, ar1_36, ar1_37, ar1_38, ar1_39, ar1_4, ar1_40, ar1_41, ar1_42, ar1_43, ar1_44, ar1_45, ar1_46, ar1_47, ar1_48, ar1_49, ar1_5, ar1_50, ar1_51, ar1_52, ar1_53, ar1_54, ar1_55, ar1_56, ar1_57, ar1_58, ar1_59, ar1_6, ar1_60, ar1_61, ar1_62, ar1_63, ar1_64, ar1_65, ar1_66, ar1_67, ar1_68, ar1_69, ar1_7, ar1_70, ar1_71, ar1_72, ar1_73, ar1_74, ar1_75, ar1_76, ar1_77, ar1_78, ar1_79, ar1_8, ar1_80, ar1_81, ar1_82, ar1_83, ar1_84, ar1_85, ar1_86, ar1_87, ar1_88, ar1_89, ar1_9, ar1_90, ar1_91, ar1_92, ar1_93, ar1_94, ar1_95, ar1_96, ar1_97, ar1_98, ar1_99, lk_0, lk_1, lk_2, lk_3, st1_2, st1_3]
    exact hk
/-- the costs of all sellers at place t of street s -/
def zCt (σ : ab_S) (o : Nat) (s t j : Int) : Int := if 100 ≤ σ (o + 1) j ∧ (σ (o + 1) j - 100) / 20 = s then min (min (σ (o + 2) j + σ o 8 * σ (o + 3) (12 * j + σ 8 s) + σ o 8 * t) (σ (o + 2) j + σ o 8 * σ (o + 3) (12 * j + σ 9 s) + σ o 8 * (σ 10 s - t))) (σ (o + 2) j + σ o 8 * (if 0 ≤ t - (σ (o + 1) j - 100) % 20 then t - (σ (o + 1) j - 100) % 20 else -(t - (σ (o + 1) j - 100) % 20))) else min (σ (o + 2) j + σ o 8 * σ (o + 3) (12 * j + σ 8 s) + σ o 8 * t) (σ (o + 2) j + σ o 8 * σ (o + 3) (12 * j + σ 9 s) + σ o 8 * (σ 10 s - t))
