-- CLASS: Market.meetStreet
theorem zX_T {σ : ab_S} {f : Int → Int} (h : zTn σ) : zTn (ab_set σ 73 f) := h
theorem zX_S {σ : ab_S} {f : Int → Int} (h : zSv σ 65) : zSv (ab_set σ 73 f) 65 := h
theorem zX_B {σ : ab_S} {f : Int → Int} {c : Int} (h : zBs σ 65 c) : zBs (ab_set σ 73 f) 65 c := h
theorem zX_C {σ : ab_S} {f : Int → Int} {s t : Int} : zCt (ab_set σ 73 f) 65 s t = zCt σ 65 s t := rfl
theorem zbit_shr {M : Nat} (hM : M < 2 ^ 12) {t : Int} (ht : 0 ≤ t ∧ t < 20) : ab_shr (M : Int) t = ((M / 2 ^ t.toNat : Nat) : Int) := by
  have := z_shrN (n := M) (k := t.toNat) (by omega) (by omega)
  rwa [show ((t.toNat : Nat) : Int) = t by omega] at this
set_option maxRecDepth 100000 in
set_option maxHeartbeats 4000000 in
theorem r_mStreet {σ : ab_S} {s : Int} {K : ab_V → ab_S → Prop} (hT : zTn σ) (hS : zSv σ 65) (hs : 0 ≤ s ∧ s < σ 3 9) (hA : zBs σ 65 (σ 8 s)) (hB : zBs σ 65 (σ 9 s)) (hM : zMk σ 65 (σ 65 7) (σ 70)) (hTri : zTri σ 65 s) (hh : 0 ≤ σ 3 11 ∧ σ 3 11 ≤ 9999)
    (h : ∀ f, (∀ x, f x = σ 73 x + 12 * σ 11 s * zCells σ 65 s x (2 * (σ 65 8 * σ 10 s)).toNat) → K (vI 0) (ab_set σ 73 f)) : ab_Runs ab_G1 mdX8_meetStreet [vR 65, vI s] σ K := by
  refine ab_runs mwX8_meetStreet (by decide +kernel) (Nat.le_of_ble_eq_true rfl) (fun G hG => ?_)
  show G 0 [some (vR 65), some (vI s), none, none, none, none, none, none] [] _
  have hS' := hS
  obtain ⟨⟨n1, n2⟩, hp, hj⟩ := hS
  obtain ⟨mA, qA, lA, eA⟩ := id hA
  obtain ⟨mB, qB, lB, eB⟩ := id hB
  have hst := hT.2.2 s hs.1 hs.2
  have hTs := hT.2.1
  have hTc := hT.1
  obtain ⟨M, hM1, hM2, hM3⟩ := hM s hs.1 (by omega)
  have eA0 : ∀ j, 0 ≤ j → j < σ 65 7 → σ 67 j + σ 65 8 * σ 68 (12 * j + σ 8 s) = zCt σ 65 s 0 j := fun j j1 j2 => ((zCt_ends hp hTri ⟨j1, j2⟩).1).symm
  have eB0 : ∀ j, 0 ≤ j → j < σ 65 7 → σ 67 j + σ 65 8 * σ 68 (12 * j + σ 9 s) = zCt σ 65 s (σ 10 s) j := fun j j1 j2 => ((zCt_ends hp hTri ⟨j1, j2⟩).2).symm
  have lA0 := zLe_congr eA0 lA
  have lB0 := zLe_congr eB0 lB
  have kA0 : σ 69 (σ 8 s) = 16 * mA + zmsk (σ 65 7) (zCt σ 65 s 0) mA := by rw [← zmsk_congr eA0]; exact eA
  have kB0 : σ 69 (σ 9 s) = 16 * mB + zmsk (σ 65 7) (zCt σ 65 s (σ 10 s)) mB := by rw [← zmsk_congr eB0]; exact eB
  have bB := zmsk_in (σ 65 7) (zCt σ 65 s (σ 10 s)) mB
  -- where somebody stands on this street, there is a bit
  have hbit : ∀ j, 0 ≤ j → j < σ 65 7 → (100 ≤ σ 66 j ∧ (σ 66 j - 100) / 20 = s) → M.testBit ((σ 66 j - 100) % 20).toNat = true := by
    intro j j1 j2 j3
    rw [hM3 _ (by omega)]
    exact ⟨j, j1, j2, by show σ 66 j = _; omega⟩
  have hplace : ∀ j, 0 ≤ j → j < σ 65 7 → (100 ≤ σ 66 j ∧ (σ 66 j - 100) / 20 = s) → 0 < (σ 66 j - 100) % 20 ∧ (σ 66 j - 100) % 20 < σ 10 s := by
    intro j j1 j2 j3
    have := zSt_st hT (hj j j1 j2).1 j3.1
    simp only [Nat.reduceAdd] at this
    rw [j3.2] at this
    omega
  have key : ∀ (k : Nat) (t t0 m0 : Int) (f : Int → Int) (z7 : Option ab_V), σ 10 s + 1 - t < k → 1 ≤ t → t ≤ σ 10 s → 0 ≤ t0 → t0 < t → (0 ≤ m0 ∧ m0 ≤ 1000060) → zLe (σ 65 7) (zCt σ 65 s t0) 1000000 m0 → (∀ j, 0 ≤ j → j < σ 65 7 → (100 ≤ σ 66 j ∧ (σ 66 j - 100) / 20 = s) → ((σ 66 j - 100) % 20 ≤ t0 ∨ t ≤ (σ 66 j - 100) % 20)) → (∀ x, f x = σ 73 x + 12 * σ 11 s * zCells σ 65 s x (2 * (σ 65 8 * t0)).toNat) →
      G 47 [some (vR 65), some (vI s), some (vI (σ 10 s)), some (vI (16 * m0 + zmsk (σ 65 7) (zCt σ 65 s t0) m0)), some (vI (σ 69 (σ 9 s))), some (vI t0), some (vI t), z7] [] (ab_set σ 73 f) := by
    intro k
    induction k with
    | zero => intro t t0 m0 f z7 h1 h2 h3 _ _ _ _ _ _; omega
    | succ k ih =>
      intro t t0 m0 f z7 h1 h2 h3 h4 h5 hm hL hno hf
      have b0 := zmsk_in (σ 65 7) (zCt σ 65 s t0) m0
      have w0 := zmul12 hp (t := σ 10 s - t0) (by omega)
      have w1 := zmul12 hp (t := t - t0) (by omega)
      have w2 : σ 65 8 * (σ 10 s - t0) = σ 65 8 * σ 10 s - σ 65 8 * t0 := Int.mul_sub _ _ _
      have w3 : σ 65 8 * (t - t0) = σ 65 8 * t - σ 65 8 * t0 := Int.mul_sub _ _ _
      -- the last stretch
      have hend : (∀ j, 0 ≤ j → j < σ 65 7 → (100 ≤ σ 66 j ∧ (σ 66 j - 100) / 20 = s) → (σ 66 j - 100) % 20 ≤ t0) → ab_Runs ab_G1 mdX3_meetStretch [vR 65, vI (16 * m0 + zmsk (σ 65 7) (zCt σ 65 s t0) m0), vI (σ 69 (σ 9 s)), vI (σ 10 s - t0), vI (σ 11 s)] (ab_set σ 73 f) (fun v τ => K (vI 0) τ) := by
        intro hno2
        rw [kB0]
        refine r_mStretch hm b0 (by omega) bB w0 hh (fun g hg => ?_)
        rw [ab_set_set]
        refine h g (fun x => ?_)
        have hc := zCells_add (x := x) hp n2 hh.2 (by omega : 0 ≤ t0 ∧ t0 ≤ σ 10 s ∧ σ 10 s ≤ 12) hL lB0 (fun j j1 j2 j3 => Or.inl (hno2 j j1 j2 j3))
        have hg1 := hg x
        simp only [ab_set_at] at hg1
        rw [hc, Int.mul_add, ← Int.add_assoc, ← hf x]
        rw [hg1]
        show f x + 12 * σ 11 s * _ = f x + 12 * σ 11 s * _
        simp only [ab_set, Nat.reduceEqDiff, if_false, w2]
      -- a stretch up to t
      have hmid : (M.testBit t.toNat = true) → t < σ 10 s → ab_Runs ab_G1 mdX8_cheapestOn [vR 65, vI s, vI t] (ab_set σ 73 f) (fun v τ => ab_b1 [v] (fun e r => (0 ≤ s ∧ s < 16) ∧ (List.map ab_cat r).sum ≤ 8 ∧ ab_Runs ab_G1 mdX3_meetStretch [vR 65, vI (16 * m0 + zmsk (σ 65 7) (zCt σ 65 s t0) m0), vI e, vI (t - t0), vI (τ 11 s)] τ (fun v τ' => G 47 [some (vR 65), some (vI s), some (vI (σ 10 s)), some (vI e), some (vI (σ 69 (σ 9 s))), some (vI t), some (vI (t + 1)), some (vI e)] r τ'))) := by
        intro hbt htl
        have hn1 : 1 ≤ σ 65 7 := by
          obtain ⟨j, j1, j2, -⟩ := (hM3 t.toNat (by omega)).mp hbt
          omega
        refine r_costOn (Or.inl rfl) (zX_T hT) (zX_S hS') hn1 hs (by show 0 ≤ t ∧ t ≤ σ 10 s; omega) (zX_B hA) (zX_B hB) (fun m1 q1 q2 => ?_)
        rw [zX_C] at q2 ⊢
        have b1 := zmsk_in (σ 65 7) (zCt σ 65 s t) m1
        refine ⟨by omega, by decide, ?_⟩
        refine r_mStretch hm b0 q1 b1 w1 hh (fun g hg => ?_)
        rw [ab_set_set]
        refine ih (t + 1) t m1 g _ (by omega) (by omega) (by omega) (by omega) (by omega) q1 q2 (fun j j1 j2 j3 => by omega) (fun x => ?_)
        have hc := zCells_add (x := x) hp n2 hh.2 (by omega : 0 ≤ t0 ∧ t0 ≤ t ∧ t ≤ 12) hL q2 hno
        have hg1 := hg x
        simp only [ab_set_at] at hg1
        rw [hc, Int.mul_add, ← Int.add_assoc, ← hf x]
        rw [hg1]
        show f x + 12 * σ 11 s * _ = f x + 12 * σ 11 s * _
        simp only [ab_set, Nat.reduceEqDiff, if_false, w3]
      have hsh := zbit_shr hM2 (t := t) (by omega)
      rw [← hM1] at hsh
      have hNM : M / 2 ^ t.toNat ≤ M := Nat.div_le_self _ _
      have hN2 : M.testBit t.toNat = decide (M / 2 ^ t.toNat % 2 = 1) := Nat.testBit_eq_decide_div_mod_eq
      have hN0 : M / 2 ^ t.toNat = 0 → ∀ p : Nat, t.toNat ≤ p → M.testBit p = false := by
        intro z p hp2
        rw [Nat.div_eq_zero_iff_lt (Nat.two_pow_pos _)] at z
        exact Nat.testBit_lt_two_pow (Nat.lt_of_lt_of_le z (Nat.pow_le_pow_right (by omega) hp2))
      generalize M / 2 ^ t.toNat = N at hsh hNM hN2 hN0
      have hand : ab_and (N : Int) 1 = (N : Int) % 2 := z_and1 (by omega)
      apply hG [47] 90
      simp only [cq_lt, cq_le, cq_gt, cq_ge, cq_eq, cq_r1, cq_r2, ab_r32, ab_r64, ab_go, ab_stp, wp_z, wp_s, ab_in, ab_gv, ab_psh, ab_rok, ab_wsum, ab_prm, ab_ret, ab_sw, ab_cd, ab_tg, ab_cat_i, ab_cat_l, ab_cat_r, ab_cl_n, ab_cl_i, ab_cl_l, ab_cl_r, ab_f2_0, ab_f2_1, ab_f4_0, ab_f4_1, ab_f4_2, ab_f4_3, ab_op_s, ab_gI_s, ab_gL_s, ab_gR_s, ab_b1_s, ab_b2_s, ab_l1_s, ab_l2_s, ab_li_s, ab_o1_s, ab_io_s, ab_lo1_s, ab_iio_s, ab_lio_s, ab_cp5_s, ab_d2_l, ab_d2_i, ab_d2_o, ex_iconst, ex_bipush, ex_sipush, ex_lconst, ex_ldc, ex_ldc_w, ex_ldc2_w, ex_iload_n, ex_iload, ex_lload_n, ex_lload, ex_aload_n, ex_aload, ex_istore_n, ex_istore, ex_lstore_n, ex_lstore, ex_iinc, ex_iadd, ex_isub, ex_imul, ex_iand, ex_ior, ex_ixor, ex_ishl, ex_ishr, ex_iushr, ex_idiv, ex_irem, ex_ladd, ex_lsub, ex_lmul, ex_lor, ex_ldiv, ex_lrem, ex_lshl, ex_lcmp, ex_ineg, ex_lneg, ex_i2l, ex_l2i, ex_i2b, ex_dup, ex_pop, ex_dup2, ex_goto, ex_ifCond, ex_if_icmp, ex_tableswitch, ex_getfield, ex_putfield, ex_iaload, ex_laload, ex_baload, ex_iastore, ex_lastore, ex_bastore, ex_aaload, ex_arraylength, ex_invokevirtual, ex_invokestatic, ex_ireturn, ex_lreturn, ex_return_, List.map_cons, List.map_nil, List.sum_cons, List.sum_nil, List.drop_succ_cons, List.drop_zero, List.take_succ_cons, List.take_zero, List.reverse_cons, List.reverse_nil, List.nil_append, List.cons_append, List.length_cons, List.length_nil, true_and, and_true, cond_false, cond_true, Bool.false_or, Bool.or_false, Bool.or_true, Bool.true_or, true_or, or_true, false_or, or_false, if_true, if_false, reduceIte, ite_true, ite_false, implies_true, true_implies, false_implies, forall_const, not_true_eq_false, not_false_eq_true, Nat.reduceAdd, Nat.reduceMul, Nat.reduceSub, Nat.reduceBEq, Nat.reduceEqDiff, Nat.reduceLeDiff, Nat.reduceLT, Int.reduceAdd, Int.reduceSub, Int.reduceMul, Int.reduceNeg, Int.reduceToNat, Int.reduceLE, Int.reduceLT, Int.reduceEq, Int.reduceNe, Int.reduceNatCast, Nat.add_zero, Nat.zero_add, reduceCtorEq, Int.reduceNatCast', moX8_meetStreet, dX8_meetStreet_0, dX8_meetStreet_1, gt1_8_34_65, gt1_8_34_76, dX8_meetStreet_4, gt1_8_91_3, gt1_8_91_12, dX8_meetStreet_7, dX8_meetStreet_8, dX8_meetStreet_9, dX8_meetStreet_10, dX8_meetStreet_11, gt1_8_21_65, gt1_8_21_76, dX8_meetStreet_14, dX8_meetStreet_15, dX8_meetStreet_18, gt1_8_88_3, gt1_8_88_12, dX8_meetStreet_21, dX8_meetStreet_22, dX8_meetStreet_23, dX8_meetStreet_24, dX8_meetStreet_25, dX8_meetStreet_26, dX8_meetStreet_29, dX8_meetStreet_30, dX8_meetStreet_33, gt1_8_94_3, gt1_8_94_12, dX8_meetStreet_36, dX8_meetStreet_37, dX8_meetStreet_38, dX8_meetStreet_39, dX8_meetStreet_41, dX8_meetStreet_42, dX8_meetStreet_44, dX8_meetStreet_45, dX8_meetStreet_47, dX8_meetStreet_49, dX8_meetStreet_50, dX8_meetStreet_53, dX8_meetStreet_54, gt1_8_24_65, gt1_8_24_76, dX8_meetStreet_57, dX8_meetStreet_58, dX8_meetStreet_59, dX8_meetStreet_61, dX8_meetStreet_62, dX8_meetStreet_65, dX8_meetStreet_66, dX8_meetStreet_69, dX8_meetStreet_70, dX8_meetStreet_71, dX8_meetStreet_73, dX8_meetStreet_74, dX8_meetStreet_75, dX8_meetStreet_76, dX8_meetStreet_77, dX8_meetStreet_80, dX8_meetStreet_81, dX8_meetStreet_82, dX8_meetStreet_84, vn8_116, iv8_116_3, moX8_cheapestOn, iv8_116_9, dX8_meetStreet_87, dX8_meetStreet_89, dX8_meetStreet_90, dX8_meetStreet_91, dX8_meetStreet_93, dX8_meetStreet_95, dX8_meetStreet_97, dX8_meetStreet_98, dX8_meetStreet_99, dX8_meetStreet_102, gt1_8_69_3, gt1_8_69_12, dX8_meetStreet_105, dX8_meetStreet_106, dX8_meetStreet_107, vn8_119, iv8_119_3, moX3_meetStretch, iv8_119_9, moX10_meetStretch, dX8_meetStreet_110, dX8_meetStreet_112, dX8_meetStreet_113, dX8_meetStreet_115, dX8_meetStreet_117, dX8_meetStreet_120, dX8_meetStreet_123, dX8_meetStreet_124, dX8_meetStreet_125, dX8_meetStreet_127, dX8_meetStreet_128, dX8_meetStreet_130, dX8_meetStreet_131, dX8_meetStreet_132, dX8_meetStreet_135, dX8_meetStreet_138, dX8_meetStreet_139, dX8_meetStreet_140, dX8_meetStreet_143, ar1_0, ar1_1, ar1_10, ar1_100, ar1_101, ar1_102, ar1_11, ar1_12, ar1_13, ar1_14, ar1_15, ar1_16, ar1_17, ar1_18, ar1_19, ar1_2, ar1_20, ar1_21, ar1_22, ar1_23, ar1_24, ar1_25, ar1_26, ar1_27, ar1_28, ar1_29, ar1_3, ar1_30, ar1_31, ar1_32, ar1_33, ar1_34, ar1_35, ar1_36, ar1_37, ar1_38, ar1_39, ar1_4, ar1_40, ar1_41, ar1_42, ar1_43, ar1_44, ar1_45, ar1_46, ar1_47, ar1_48, ar1_49, ar1_5, ar1_50, ar1_51, ar1_52, ar1_53, ar1_54, ar1_55, ar1_56, ar1_57, ar1_58, ar1_59, ar1_6, ar1_60, ar1_61, ar1_62, ar1_63, ar1_64, ar1_65, ar1_66, ar1_67, ar1_68, ar1_69, ar1_7, ar1_70, ar1_71, ar1_72, ar1_73, ar1_74, ar1_75, ar1_76, ar1_77, ar1_78, ar1_79, ar1_8, ar1_80, ar1_81, ar1_82, ar1_83, ar1_84, ar1_85, ar1_86, ar1_87, ar1_88, ar1_89, ar1_9, ar1_90, ar1_91, ar1_92, ar1_93, ar1_94, ar1_95, ar1_96, ar1_97, ar1_98, ar1_99, lk_0, lk_1, lk_2, lk_3, lk_4, lk_5, lk_6, lk_7, st1_2, st1_3, st1_4, st1_5, st1_6, st1_7, ab_set, hsh, hand]
      repeat' (with_reducible (first | apply And.intro | intro _))
      all_goals first | omega | skip
      · exact hend (fun j j1 j2 j3 => by have := hno j j1 j2 j3; have := hplace j j1 j2 j3; omega)
      · rename_i hq1 hq2
        refine hend (fun j j1 j2 j3 => ?_)
        rcases hno j j1 j2 j3 with z | z
        · exact z
        · have q1 := hbit j j1 j2 j3
          rw [hN0 (by omega) _ (by omega)] at q1
          cases q1
      · rename_i hq1 hq2 hq3
        refine ih (t + 1) t0 m0 f z7 (by omega) (by omega) (by omega) h4 (by omega) hm hL (fun j j1 j2 j3 => ?_) hf
        rcases hno j j1 j2 j3 with z | z
        · exact Or.inl z
        · right
          by_cases e : (σ 66 j - 100) % 20 = t
          · have q1 := hbit j j1 j2 j3
            rw [e, hN2, decide_eq_true_eq] at q1
            omega
          · omega
      · refine hmid ?_ (by omega)
        rw [hN2, decide_eq_true_eq]
        omega
  apply hG [47] 90
  simp only [cq_lt, cq_le, cq_gt, cq_ge, cq_eq, cq_r1, cq_r2, ab_r32, ab_r64, ab_go, ab_stp, wp_z, wp_s, ab_in, ab_gv, ab_psh, ab_rok, ab_wsum, ab_prm, ab_ret, ab_sw, ab_cd, ab_tg, ab_cat_i, ab_cat_l, ab_cat_r, ab_cl_n, ab_cl_i, ab_cl_l, ab_cl_r, ab_f2_0, ab_f2_1, ab_f4_0, ab_f4_1, ab_f4_2, ab_f4_3, ab_op_s, ab_gI_s, ab_gL_s, ab_gR_s, ab_b1_s, ab_b2_s, ab_l1_s, ab_l2_s, ab_li_s, ab_o1_s, ab_io_s, ab_lo1_s, ab_iio_s, ab_lio_s, ab_cp5_s, ab_d2_l, ab_d2_i, ab_d2_o, ex_iconst, ex_bipush, ex_sipush, ex_lconst, ex_ldc, ex_ldc_w, ex_ldc2_w, ex_iload_n, ex_iload, ex_lload_n, ex_lload, ex_aload_n, ex_aload, ex_istore_n, ex_istore, ex_lstore_n, ex_lstore, ex_iinc, ex_iadd, ex_isub, ex_imul, ex_iand, ex_ior, ex_ixor, ex_ishl, ex_ishr, ex_iushr, ex_idiv, ex_irem, ex_ladd, ex_lsub, ex_lmul, ex_lor, ex_ldiv, ex_lrem, ex_lshl, ex_lcmp, ex_ineg, ex_lneg, ex_i2l, ex_l2i, ex_i2b, ex_dup, ex_pop, ex_dup2, ex_goto, ex_ifCond, ex_if_icmp, ex_tableswitch, ex_getfield, ex_putfield, ex_iaload, ex_laload, ex_baload, ex_iastore, ex_lastore, ex_bastore, ex_aaload, ex_arraylength, ex_invokevirtual, ex_invokestatic, ex_ireturn, ex_lreturn, ex_return_, List.map_cons, List.map_nil, List.sum_cons, List.sum_nil, List.drop_succ_cons, List.drop_zero, List.take_succ_cons, List.take_zero, List.reverse_cons, List.reverse_nil, List.nil_append, List.cons_append, List.length_cons, List.length_nil, true_and, and_true, cond_false, cond_true, Bool.false_or, Bool.or_false, Bool.or_true, Bool.true_or, true_or, or_true, false_or, or_false, if_true, if_false, reduceIte, ite_true, ite_false, implies_true, true_implies, false_implies, forall_const, not_true_eq_false, not_false_eq_true, Nat.reduceAdd, Nat.reduceMul, Nat.reduceSub, Nat.reduceBEq, Nat.reduceEqDiff, Nat.reduceLeDiff, Nat.reduceLT, Int.reduceAdd, Int.reduceSub, Int.reduceMul, Int.reduceNeg, Int.reduceToNat, Int.reduceLE, Int.reduceLT, Int.reduceEq, Int.reduceNe, Int.reduceNatCast, Nat.add_zero, Nat.zero_add, reduceCtorEq, Int.reduceNatCast', moX8_meetStreet, dX8_meetStreet_0, dX8_meetStreet_1, gt1_8_34_65, gt1_8_34_76, dX8_meetStreet_4, gt1_8_91_3, gt1_8_91_12, dX8_meetStreet_7, dX8_meetStreet_8, dX8_meetStreet_9, dX8_meetStreet_10, dX8_meetStreet_11, gt1_8_21_65, gt1_8_21_76, dX8_meetStreet_14, dX8_meetStreet_15, dX8_meetStreet_18, gt1_8_88_3, gt1_8_88_12, dX8_meetStreet_21, dX8_meetStreet_22, dX8_meetStreet_23, dX8_meetStreet_24, dX8_meetStreet_25, dX8_meetStreet_26, dX8_meetStreet_29, dX8_meetStreet_30, dX8_meetStreet_33, gt1_8_94_3, gt1_8_94_12, dX8_meetStreet_36, dX8_meetStreet_37, dX8_meetStreet_38, dX8_meetStreet_39, dX8_meetStreet_41, dX8_meetStreet_42, dX8_meetStreet_44, dX8_meetStreet_45, dX8_meetStreet_47, dX8_meetStreet_49, dX8_meetStreet_50, dX8_meetStreet_53, dX8_meetStreet_54, gt1_8_24_65, gt1_8_24_76, dX8_meetStreet_57, dX8_meetStreet_58, dX8_meetStreet_59, dX8_meetStreet_61, dX8_meetStreet_62, dX8_meetStreet_65, dX8_meetStreet_66, dX8_meetStreet_69, dX8_meetStreet_70, dX8_meetStreet_71, dX8_meetStreet_73, dX8_meetStreet_74, dX8_meetStreet_75, dX8_meetStreet_76, dX8_meetStreet_77, dX8_meetStreet_80, dX8_meetStreet_81, dX8_meetStreet_82, dX8_meetStreet_84, vn8_116, iv8_116_3, moX8_cheapestOn, iv8_116_9, dX8_meetStreet_87, dX8_meetStreet_89, dX8_meetStreet_90, dX8_meetStreet_91, dX8_meetStreet_93, dX8_meetStreet_95, dX8_meetStreet_97, dX8_meetStreet_98, dX8_meetStreet_99, dX8_meetStreet_102, gt1_8_69_3, gt1_8_69_12, dX8_meetStreet_105, dX8_meetStreet_106, dX8_meetStreet_107, vn8_119, iv8_119_3, moX3_meetStretch, iv8_119_9, moX10_meetStretch, dX8_meetStreet_110, dX8_meetStreet_112, dX8_meetStreet_113, dX8_meetStreet_115, dX8_meetStreet_117, dX8_meetStreet_120, dX8_meetStreet_123, dX8_meetStreet_124, dX8_meetStreet_125, dX8_meetStreet_127, dX8_meetStreet_128, dX8_meetStreet_130, dX8_meetStreet_131, dX8_meetStreet_132, dX8_meetStreet_135, dX8_meetStreet_138, dX8_meetStreet_139, dX8_meetStreet_140, dX8_meetStreet_143, ar1_0, ar1_1, ar1_10, ar1_100, ar1_101, ar1_102, ar1_11, ar1_12, ar1_13, ar1_14, ar1_15, ar1_16, ar1_17, ar1_18, ar1_19, ar1_2, ar1_20, ar1_21, ar1_22, ar1_23, ar1_24, ar1_25, ar1_26, ar1_27, ar1_28, ar1_29, ar1_3, ar1_30, ar1_31, ar1_32, ar1_33, ar1_34, ar1_35, ar1_36, ar1_37, ar1_38, ar1_39, ar1_4, ar1_40, ar1_41, ar1_42, ar1_43, ar1_44, ar1_45, ar1_46, ar1_47, ar1_48, ar1_49, ar1_5, ar1_50, ar1_51, ar1_52, ar1_53, ar1_54, ar1_55, ar1_56, ar1_57, ar1_58, ar1_59, ar1_6, ar1_60, ar1_61, ar1_62, ar1_63, ar1_64, ar1_65, ar1_66, ar1_67, ar1_68, ar1_69, ar1_7, ar1_70, ar1_71, ar1_72, ar1_73, ar1_74, ar1_75, ar1_76, ar1_77, ar1_78, ar1_79, ar1_8, ar1_80, ar1_81, ar1_82, ar1_83, ar1_84, ar1_85, ar1_86, ar1_87, ar1_88, ar1_89, ar1_9, ar1_90, ar1_91, ar1_92, ar1_93, ar1_94, ar1_95, ar1_96, ar1_97, ar1_98, ar1_99, lk_0, lk_1, lk_2, lk_3, lk_4, lk_5, lk_6, lk_7, st1_2, st1_3, st1_4, st1_5, st1_6, st1_7]
  repeat' (with_reducible (first | apply And.intro | intro _))
  all_goals first | omega | skip
  have := key 14 1 0 mA (σ 73) none (by omega) (by omega) (by omega) (by omega) (by omega) (by omega) lA0 (fun j j1 j2 j3 => by have := hplace j j1 j2 j3; omega) (fun x => by
    rw [Int.mul_zero, Int.mul_zero]
    show _ = _ + _ * 0
    omega)
  rw [← kA0, ab_set_self] at this
  exact this
