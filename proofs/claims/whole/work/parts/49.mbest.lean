-- MODEL: what a seller may do
theorem zmin4 (a b c e x1 x2 x3 x4 : Int) : min (a + min (b + x1) (c + x2)) (e + min (b + x3) (c + x4)) = min (b + min (a + x1) (e + x3)) (c + min (a + x2) (e + x4)) := by omega
theorem zabs_sym (x y : Int) : max (x - y) (-(x - y)) = max (y - x) (-(y - x)) := by omega
theorem zD_sym {ω : ab_S} {q p : Int} (hJ : zJ ω) (hq : zSt ω q) (hp : zSt ω p) (h1 : ¬ zshp (ω 30) q) (h2 : ¬ zshp (ω 30) p) : zD ω q p = zD ω p q := by
  have hT := hJ.1
  have hsy := hJ.2.2.2.1.2.2.2.1
  unfold zshp at h1 h2
  unfold zD zRe zrc zto
  by_cases c1 : q < 100
  · have z1 := zSt_c hq c1
    by_cases c2 : p < 100
    · have z2 := zSt_c hp c2
      have := hsy q p z1.1 z1.2 z2.1 z2.2
      simp only [if_pos c1, if_pos c2, if_neg h1, if_neg h2]
      exact this
    · obtain ⟨y1, y2, y3, y4, y5⟩ := zSt_st hT hp (by omega)
      have s1 := hsy q _ z1.1 z1.2 y3.1 y3.2
      have s2 := hsy q _ z1.1 z1.2 y4.1 y4.2
      simp only [if_pos c1, if_neg c2, if_neg h1, if_neg h2]
      rw [if_neg (by omega)]
      omega
  · obtain ⟨x1, x2, x3, x4, x5⟩ := zSt_st hT hq (by omega)
    by_cases c2 : p < 100
    · have z2 := zSt_c hp c2
      have s1 := hsy _ p x3.1 x3.2 z2.1 z2.2
      have s2 := hsy _ p x4.1 x4.2 z2.1 z2.2
      simp only [if_neg c1, if_pos c2, if_neg h1, if_neg h2]
      rw [if_neg (by omega)]
      omega
    · obtain ⟨y1, y2, y3, y4, y5⟩ := zSt_st hT hp (by omega)
      have s1 := hsy _ _ x3.1 x3.2 y3.1 y3.2
      have s2 := hsy _ _ x3.1 x3.2 y4.1 y4.2
      have s3 := hsy _ _ x4.1 x4.2 y3.1 y3.2
      have s4 := hsy _ _ x4.1 x4.2 y4.1 y4.2
      simp only [if_neg c1, if_neg c2, if_neg h1, if_neg h2]
      by_cases e : (q - 100) / 20 = (p - 100) / 20
      · rw [if_pos ⟨by omega, e⟩, if_pos ⟨by omega, e.symm⟩, s1, s2, s3, s4, zmin4, zabs_sym]
      · rw [if_neg (fun z => e z.2), if_neg (fun z => e z.2.symm), s1, s2, s3, s4, zmin4]
theorem zD_far {ω : ab_S} {q p v : Int} (hJ : zJ ω) (hq : zSt ω q) (hp : zSt ω p) (h2 : ¬ zshp (ω 30) p) (hv : zFs (zDq ω p q) v) : ω 28 7 ≤ zD ω q p ↔ ω 28 7 ≤ v := by
  have hT := hJ.1
  have hap := hJ.2.2.2.2.2.2.1
  unfold zDq at hv
  by_cases h1 : zshp (ω 30) q
  · rw [if_pos h1] at hv
    unfold zFs at hv
    have e : ∀ c, zRe ω q c = 100000 := by
      intro c
      unfold zRe zrc
      exact if_pos h1
    have hst : ¬ (100 ≤ q ∧ 100 ≤ p ∧ (q - 100) / 20 = (p - 100) / 20) := by
      rintro ⟨y1, y2, y3⟩
      apply h2
      refine ⟨y2, ?_⟩
      rw [← y3]
      exact h1.2
    unfold zD
    rw [e, e, e]
    by_cases c2 : p < 100
    · rw [if_pos c2]
      omega
    · obtain ⟨y1, y2, y3, y4, y5⟩ := zSt_st hT hp (by omega)
      rw [if_neg c2, if_neg (by omega)]
      omega
  · rw [if_neg h1, ← zD_sym hJ hq hp h1 h2] at hv
    unfold zFs at hv
    omega
set_option maxRecDepth 100000 in
set_option maxHeartbeats 4000000 in
theorem y_isLet {ω τ : ab_S} {sp rp : Int → Int} {s p : Int} {K : ab_V → ab_S → Prop} (hJ : zJ ω) (hK : zK ω) (hL : yLd ω sp rp τ) (ho : zOk ω sp (zpr ω rp)) (hs : 0 ≤ s ∧ s < ω 34 5) (hp : zSt ω p) (hsh : ¬ zshp (ω 30) p) (h : ∀ v, (zFar ω sp s p ∧ v = 1 ∨ ¬ zFar ω sp s p ∧ v = 0) → K (vI v) τ) : ab_Runs ab_G2 mdX12_isLet [vR 0, vI s, vI p] τ K := by
  refine ab_runs mwX12_isLet (by decide +kernel) (Nat.le_of_ble_eq_true rfl) (fun G hG => ?_)
  show G 0 [some (vR 0), some (vI s), some (vI p), none, none] [] _
  have hn := hK.1
  have hap := hJ.2.2.2.2.2.2.1
  obtain ⟨⟨r1, r2, r3, r4, r5, r6, r7, r8, r9, r10, r11⟩, hse, hst⟩ := id hL
  have key : ∀ (k : Nat) (i b : Int), ω 34 5 - i < k → 0 ≤ i → i ≤ ω 34 5 → (((∀ l, 0 ≤ l → l < i → l = s ∨ ω 28 7 ≤ zD ω (sp l) p) ∧ b = 1) ∨ (¬ (∀ l, 0 ≤ l → l < i → l = s ∨ ω 28 7 ≤ zD ω (sp l) p) ∧ b = 0)) → G 5 [some (vR 0), some (vI s), some (vI p), some (vI b), some (vI i)] [] τ := by
    intro k
    induction k with
    | zero => intro i b h1 h2 h3; omega
    | succ k ih =>
      intro i b h1 h2 h3 hb
      apply hG [5] 60
      simp only [cq_lt, cq_le, cq_gt, cq_ge, cq_eq, cq_r1, cq_r2, ab_r32, ab_r64, ab_go, ab_stp, wp_z, ab_in, ab_rok, ab_wsum, ab_prm, ab_ret, ab_sw, ab_cd, ab_tg, ab_cat_i, ab_cat_l, ab_cat_r, ab_cl_n, ab_cl_i, ab_cl_l, ab_cl_r, ab_f2_0, ab_f2_1, ab_f4_0, ab_f4_1, ab_f4_2, ab_f4_3, ab_op_s, ab_b1_s, ab_b2_s, ab_l1_s, ab_l2_s, ab_li_s, ab_o1_s, ab_io_s, ab_lo1_s, ab_iio_s, ab_lio_s, ab_cp5_s, ab_d2_l, ab_d2_i, ab_d2_o, ex_iconst, ex_bipush, ex_sipush, ex_lconst, ex_ldc, ex_ldc_w, ex_ldc2_w, ex_iadd, ex_isub, ex_imul, ex_iand, ex_ior, ex_ixor, ex_ishl, ex_ishr, ex_iushr, ex_idiv, ex_irem, ex_ladd, ex_lsub, ex_lmul, ex_lor, ex_ldiv, ex_lrem, ex_lshl, ex_lcmp, ex_ineg, ex_lneg, ex_i2l, ex_l2i, ex_i2b, ex_dup, ex_pop, ex_dup2, ex_goto, ex_tableswitch, ex_aaload, ex_ireturn, ex_lreturn, ex_return_, List.map_cons, List.map_nil, List.sum_cons, List.sum_nil, List.drop_succ_cons, List.drop_zero, List.take_succ_cons, List.take_zero, List.reverse_cons, List.reverse_nil, List.nil_append, List.cons_append, List.length_cons, List.length_nil, true_and, and_true, cond_false, cond_true, Bool.false_or, Bool.or_false, Bool.or_true, Bool.true_or, true_or, or_true, false_or, or_false, if_true, if_false, reduceIte, ite_true, ite_false, implies_true, true_implies, false_implies, forall_const, not_true_eq_false, not_false_eq_true, Nat.reduceAdd, Nat.reduceMul, Nat.reduceSub, Nat.reduceBEq, Nat.reduceEqDiff, Nat.reduceLeDiff, Nat.reduceLT, Int.reduceAdd, Int.reduceSub, Int.reduceMul, Int.reduceNeg, Int.reduceToNat, Int.reduceLE, Int.reduceLT, Int.reduceEq, Int.reduceNe, Int.reduceNatCast, Nat.add_zero, Nat.zero_add, reduceCtorEq, Int.reduceNatCast', wp_c, wp_g, e2_ifCond, e2_if_icmp, ↓bq_t, ↓bq_f, ab_br, ↓ab_b1_s, ↓ab_b2_s, ↓ab_l1_s, ↓ab_l2_s, ↓ab_li_s, ↓ab_o1_s, ↓ab_io_s, ↓ab_lo1_s, ↓ab_iio_s, ↓ab_lio_s, ↓ab_cp5_s, moX12_isLet, dX12_isLet_0, dX12_isLet_1, dis_3, dX12_isLet_2, dX12_isLet_3, dis_4, dX12_isLet_5, dil_4, dX12_isLet_7, dal_0, dX12_isLet_8, dg2_12_329_0, dX12_isLet_11, dX12_isLet_14, dil_3, dX12_isLet_15, dX12_isLet_18, dX12_isLet_20, dil_1, dX12_isLet_21, dX12_isLet_24, dX12_isLet_25, dil_2, dX12_isLet_26, dX12_isLet_27, dg2_12_107_0, dX12_isLet_30, dX12_isLet_32, dX12_isLet_33, dv2_12_374_0, moX12_farOf, dX12_isLet_36, dX12_isLet_37, dg2_12_348_0, dX12_isLet_40, dX12_isLet_43, dX12_isLet_44, dX12_isLet_47, dX12_isLet_48, dX12_isLet_49, dinc_4, dX12_isLet_52, dX12_isLet_55, dX12_isLet_56, dal2_26, hse]
      repeat' (with_reducible (first | apply And.intro | intro _))
      all_goals first | omega | skip
      · rename_i hq
        have e : i = ω 34 5 := by omega
        subst e
        rcases hb with ⟨y, rfl⟩ | ⟨y, rfl⟩
        · exact h 1 (Or.inl ⟨Or.inr y, rfl⟩)
        · refine h 0 (Or.inr ⟨?_, rfl⟩)
          rintro (z | z)
          · apply y
            intro l l1 l2
            right
            have q1 := (ho l l1 l2).1
            have q2 := fun c => zRe_in (c := c) hJ.1 hJ.2.2.2.1.1 q1
            rw [z]
            unfold zD
            have hT := hJ.1
            by_cases c : p < 100
            · have := q2 _ (zSt_c hp c)
              rw [if_pos c]
              omega
            · obtain ⟨y1, y2, y3, y4, y5⟩ := zSt_st hT hp (by omega)
              have := q2 _ y3
              have := q2 _ y4
              rw [if_neg c]
              split <;> omega
          · exact y z
      · rename_i hq hq2
        rcases hb with ⟨y, e⟩ | ⟨y, e⟩
        · omega
        · refine ih (i + 1) 0 (by omega) (by omega) (by omega) (Or.inr ⟨fun z => y (fun l l1 l2 => z l l1 (by omega)), rfl⟩)
      · rename_i hq hq2 hq3
        rcases hb with ⟨y, e⟩ | ⟨y, e⟩
        · refine ih (i + 1) 1 (by omega) (by omega) (by omega) (Or.inl ⟨fun l l1 l2 => ?_, rfl⟩)
          by_cases c : l = i
          · exact Or.inl (by omega)
          · exact y l l1 (by omega)
        · omega
      · rename_i hq hq2 hq3
        have hsi := (hst i h2 (by omega)).1
        rw [hsi]
        refine y_farOf hJ hL.1 hp (ho i h2 (by omega)).1 (fun v hv => ?_)
        have hfar := zD_far hJ (ho i h2 (by omega)).1 hp hsh hv
        have hvr := hv
        unfold zFs at hvr
        rcases hb with ⟨y, e⟩ | ⟨y, e⟩
        · try simp only [cq_lt, cq_le, cq_gt, cq_ge, cq_eq, cq_r1, cq_r2, ab_r32, ab_r64, ab_go, ab_stp, wp_z, ab_in, ab_rok, ab_wsum, ab_prm, ab_ret, ab_sw, ab_cd, ab_tg, ab_cat_i, ab_cat_l, ab_cat_r, ab_cl_n, ab_cl_i, ab_cl_l, ab_cl_r, ab_f2_0, ab_f2_1, ab_f4_0, ab_f4_1, ab_f4_2, ab_f4_3, ab_op_s, ab_b1_s, ab_b2_s, ab_l1_s, ab_l2_s, ab_li_s, ab_o1_s, ab_io_s, ab_lo1_s, ab_iio_s, ab_lio_s, ab_cp5_s, ab_d2_l, ab_d2_i, ab_d2_o, ex_iconst, ex_bipush, ex_sipush, ex_lconst, ex_ldc, ex_ldc_w, ex_ldc2_w, ex_iadd, ex_isub, ex_imul, ex_iand, ex_ior, ex_ixor, ex_ishl, ex_ishr, ex_iushr, ex_idiv, ex_irem, ex_ladd, ex_lsub, ex_lmul, ex_lor, ex_ldiv, ex_lrem, ex_lshl, ex_lcmp, ex_ineg, ex_lneg, ex_i2l, ex_l2i, ex_i2b, ex_dup, ex_pop, ex_dup2, ex_goto, ex_tableswitch, ex_aaload, ex_ireturn, ex_lreturn, ex_return_, List.map_cons, List.map_nil, List.sum_cons, List.sum_nil, List.drop_succ_cons, List.drop_zero, List.take_succ_cons, List.take_zero, List.reverse_cons, List.reverse_nil, List.nil_append, List.cons_append, List.length_cons, List.length_nil, true_and, and_true, cond_false, cond_true, Bool.false_or, Bool.or_false, Bool.or_true, Bool.true_or, true_or, or_true, false_or, or_false, if_true, if_false, reduceIte, ite_true, ite_false, implies_true, true_implies, false_implies, forall_const, not_true_eq_false, not_false_eq_true, Nat.reduceAdd, Nat.reduceMul, Nat.reduceSub, Nat.reduceBEq, Nat.reduceEqDiff, Nat.reduceLeDiff, Nat.reduceLT, Int.reduceAdd, Int.reduceSub, Int.reduceMul, Int.reduceNeg, Int.reduceToNat, Int.reduceLE, Int.reduceLT, Int.reduceEq, Int.reduceNe, Int.reduceNatCast, Nat.add_zero, Nat.zero_add, reduceCtorEq, Int.reduceNatCast', wp_c, wp_g, e2_ifCond, e2_if_icmp, ↓bq_t, ↓bq_f, ab_br, ↓ab_b1_s, ↓ab_b2_s, ↓ab_l1_s, ↓ab_l2_s, ↓ab_li_s, ↓ab_o1_s, ↓ab_io_s, ↓ab_lo1_s, ↓ab_iio_s, ↓ab_lio_s, ↓ab_cp5_s, moX12_isLet, dX12_isLet_0, dX12_isLet_1, dis_3, dX12_isLet_2, dX12_isLet_3, dis_4, dX12_isLet_5, dil_4, dX12_isLet_7, dal_0, dX12_isLet_8, dg2_12_329_0, dX12_isLet_11, dX12_isLet_14, dil_3, dX12_isLet_15, dX12_isLet_18, dX12_isLet_20, dil_1, dX12_isLet_21, dX12_isLet_24, dX12_isLet_25, dil_2, dX12_isLet_26, dX12_isLet_27, dg2_12_107_0, dX12_isLet_30, dX12_isLet_32, dX12_isLet_33, dv2_12_374_0, moX12_farOf, dX12_isLet_36, dX12_isLet_37, dg2_12_348_0, dX12_isLet_40, dX12_isLet_43, dX12_isLet_44, dX12_isLet_47, dX12_isLet_48, dX12_isLet_49, dinc_4, dX12_isLet_52, dX12_isLet_55, dX12_isLet_56, dal2_26, r7]
          repeat' (with_reducible (first | apply And.intro | intro _))
          all_goals first | omega | skip
          · rename_i hq4
            refine ih (i + 1) 0 (by omega) (by omega) (by omega) (Or.inr ⟨fun z => ?_, rfl⟩)
            rcases z i h2 (by omega) with c | c
            · exact hq3 c
            · have := hfar.1 c
              omega
          · rename_i hq4
            refine ih (i + 1) 1 (by omega) (by omega) (by omega) (Or.inl ⟨fun l l1 l2 => ?_, rfl⟩)
            by_cases c : l = i
            · right
              rw [c]
              exact hfar.2 (by omega)
            · exact y l l1 (by omega)
        · omega
  apply hG [5] 60
  simp only [cq_lt, cq_le, cq_gt, cq_ge, cq_eq, cq_r1, cq_r2, ab_r32, ab_r64, ab_go, ab_stp, wp_z, ab_in, ab_rok, ab_wsum, ab_prm, ab_ret, ab_sw, ab_cd, ab_tg, ab_cat_i, ab_cat_l, ab_cat_r, ab_cl_n, ab_cl_i, ab_cl_l, ab_cl_r, ab_f2_0, ab_f2_1, ab_f4_0, ab_f4_1, ab_f4_2, ab_f4_3, ab_op_s, ab_b1_s, ab_b2_s, ab_l1_s, ab_l2_s, ab_li_s, ab_o1_s, ab_io_s, ab_lo1_s, ab_iio_s, ab_lio_s, ab_cp5_s, ab_d2_l, ab_d2_i, ab_d2_o, ex_iconst, ex_bipush, ex_sipush, ex_lconst, ex_ldc, ex_ldc_w, ex_ldc2_w, ex_iadd, ex_isub, ex_imul, ex_iand, ex_ior, ex_ixor, ex_ishl, ex_ishr, ex_iushr, ex_idiv, ex_irem, ex_ladd, ex_lsub, ex_lmul, ex_lor, ex_ldiv, ex_lrem, ex_lshl, ex_lcmp, ex_ineg, ex_lneg, ex_i2l, ex_l2i, ex_i2b, ex_dup, ex_pop, ex_dup2, ex_goto, ex_tableswitch, ex_aaload, ex_ireturn, ex_lreturn, ex_return_, List.map_cons, List.map_nil, List.sum_cons, List.sum_nil, List.drop_succ_cons, List.drop_zero, List.take_succ_cons, List.take_zero, List.reverse_cons, List.reverse_nil, List.nil_append, List.cons_append, List.length_cons, List.length_nil, true_and, and_true, cond_false, cond_true, Bool.false_or, Bool.or_false, Bool.or_true, Bool.true_or, true_or, or_true, false_or, or_false, if_true, if_false, reduceIte, ite_true, ite_false, implies_true, true_implies, false_implies, forall_const, not_true_eq_false, not_false_eq_true, Nat.reduceAdd, Nat.reduceMul, Nat.reduceSub, Nat.reduceBEq, Nat.reduceEqDiff, Nat.reduceLeDiff, Nat.reduceLT, Int.reduceAdd, Int.reduceSub, Int.reduceMul, Int.reduceNeg, Int.reduceToNat, Int.reduceLE, Int.reduceLT, Int.reduceEq, Int.reduceNe, Int.reduceNatCast, Nat.add_zero, Nat.zero_add, reduceCtorEq, Int.reduceNatCast', wp_c, wp_g, e2_ifCond, e2_if_icmp, ↓bq_t, ↓bq_f, ab_br, ↓ab_b1_s, ↓ab_b2_s, ↓ab_l1_s, ↓ab_l2_s, ↓ab_li_s, ↓ab_o1_s, ↓ab_io_s, ↓ab_lo1_s, ↓ab_iio_s, ↓ab_lio_s, ↓ab_cp5_s, moX12_isLet, dX12_isLet_0, dX12_isLet_1, dis_3, dX12_isLet_2, dX12_isLet_3, dis_4, dX12_isLet_5, dil_4, dX12_isLet_7, dal_0, dX12_isLet_8, dg2_12_329_0, dX12_isLet_11, dX12_isLet_14, dil_3, dX12_isLet_15, dX12_isLet_18, dX12_isLet_20, dil_1, dX12_isLet_21, dX12_isLet_24, dX12_isLet_25, dil_2, dX12_isLet_26, dX12_isLet_27, dg2_12_107_0, dX12_isLet_30, dX12_isLet_32, dX12_isLet_33, dv2_12_374_0, moX12_farOf, dX12_isLet_36, dX12_isLet_37, dg2_12_348_0, dX12_isLet_40, dX12_isLet_43, dX12_isLet_44, dX12_isLet_47, dX12_isLet_48, dX12_isLet_49, dinc_4, dX12_isLet_52, dX12_isLet_55, dX12_isLet_56, dal2_26]
  exact key 5 0 1 (by omega) (by omega) (by omega) (Or.inl ⟨fun l l1 l2 => by omega, rfl⟩)
set_option maxRecDepth 100000 in
set_option maxHeartbeats 4000000 in
theorem y_earnsOf {ω τ : ab_S} {sp rp : Int → Int} {i : Int} {K : ab_V → ab_S → Prop} (hJ : zJ ω) (hK : zK ω) (hL : yLd ω sp rp τ) (ho : zOk ω sp (zpr ω rp)) (hs : ∀ j, 0 ≤ j → j < ω 34 5 → τ 31 j = zE ω sp (zpr ω rp) j) (hi : 0 ≤ i ∧ i < ω 34 5) (h : K (vJ (zE ω sp (zpr ω rp) i * zpr ω rp i)) τ) : ab_Runs ab_G2 mdX12_earnsOf [vR 0, vI i] τ K := by
  refine ab_runs mwX12_earnsOf (by decide +kernel) (Nat.le_of_ble_eq_true rfl) (fun G hG => ?_)
  show G 0 [some (vR 0), some (vI i)] [] _
  have hn := hK.1
  have hpr := (ho i hi.1 hi.2).2
  apply hG [9999] 60
  simp only [cq_lt, cq_le, cq_gt, cq_ge, cq_eq, cq_r1, cq_r2, ab_r32, ab_r64, ab_go, ab_stp, wp_z, ab_in, ab_rok, ab_wsum, ab_prm, ab_ret, ab_sw, ab_cd, ab_tg, ab_cat_i, ab_cat_l, ab_cat_r, ab_cl_n, ab_cl_i, ab_cl_l, ab_cl_r, ab_f2_0, ab_f2_1, ab_f4_0, ab_f4_1, ab_f4_2, ab_f4_3, ab_op_s, ab_b1_s, ab_b2_s, ab_l1_s, ab_l2_s, ab_li_s, ab_o1_s, ab_io_s, ab_lo1_s, ab_iio_s, ab_lio_s, ab_cp5_s, ab_d2_l, ab_d2_i, ab_d2_o, ex_iconst, ex_bipush, ex_sipush, ex_lconst, ex_ldc, ex_ldc_w, ex_ldc2_w, ex_iadd, ex_isub, ex_imul, ex_iand, ex_ior, ex_ixor, ex_ishl, ex_ishr, ex_iushr, ex_idiv, ex_irem, ex_ladd, ex_lsub, ex_lmul, ex_lor, ex_ldiv, ex_lrem, ex_lshl, ex_lcmp, ex_ineg, ex_lneg, ex_i2l, ex_l2i, ex_i2b, ex_dup, ex_pop, ex_dup2, ex_goto, ex_tableswitch, ex_aaload, ex_ireturn, ex_lreturn, ex_return_, List.map_cons, List.map_nil, List.sum_cons, List.sum_nil, List.drop_succ_cons, List.drop_zero, List.take_succ_cons, List.take_zero, List.reverse_cons, List.reverse_nil, List.nil_append, List.cons_append, List.length_cons, List.length_nil, true_and, and_true, cond_false, cond_true, Bool.false_or, Bool.or_false, Bool.or_true, Bool.true_or, true_or, or_true, false_or, or_false, if_true, if_false, reduceIte, ite_true, ite_false, implies_true, true_implies, false_implies, forall_const, not_true_eq_false, not_false_eq_true, Nat.reduceAdd, Nat.reduceMul, Nat.reduceSub, Nat.reduceBEq, Nat.reduceEqDiff, Nat.reduceLeDiff, Nat.reduceLT, Int.reduceAdd, Int.reduceSub, Int.reduceMul, Int.reduceNeg, Int.reduceToNat, Int.reduceLE, Int.reduceLT, Int.reduceEq, Int.reduceNe, Int.reduceNatCast, Nat.add_zero, Nat.zero_add, reduceCtorEq, Int.reduceNatCast', wp_c, wp_g, e2_ifCond, e2_if_icmp, ↓bq_t, ↓bq_f, ab_br, ↓ab_b1_s, ↓ab_b2_s, ↓ab_l1_s, ↓ab_l2_s, ↓ab_li_s, ↓ab_o1_s, ↓ab_io_s, ↓ab_lo1_s, ↓ab_iio_s, ↓ab_lio_s, ↓ab_cp5_s, moX12_earnsOf, dX12_earnsOf_0, dal_0, dX12_earnsOf_1, dg2_12_122_0, dX12_earnsOf_4, dil_1, dX12_earnsOf_5, dX12_earnsOf_6, dX12_earnsOf_7, dX12_earnsOf_8, dv2_12_380_0, moX12_priceOf, dX12_earnsOf_11, dX12_earnsOf_12, dX12_earnsOf_13, dal2_31]
  repeat' (with_reducible (first | apply And.intro | intro _))
  all_goals first | omega | skip
  refine y_price hJ hK hL hi ?_
  try simp only [cq_lt, cq_le, cq_gt, cq_ge, cq_eq, cq_r1, cq_r2, ab_r32, ab_r64, ab_go, ab_stp, wp_z, ab_in, ab_rok, ab_wsum, ab_prm, ab_ret, ab_sw, ab_cd, ab_tg, ab_cat_i, ab_cat_l, ab_cat_r, ab_cl_n, ab_cl_i, ab_cl_l, ab_cl_r, ab_f2_0, ab_f2_1, ab_f4_0, ab_f4_1, ab_f4_2, ab_f4_3, ab_op_s, ab_b1_s, ab_b2_s, ab_l1_s, ab_l2_s, ab_li_s, ab_o1_s, ab_io_s, ab_lo1_s, ab_iio_s, ab_lio_s, ab_cp5_s, ab_d2_l, ab_d2_i, ab_d2_o, ex_iconst, ex_bipush, ex_sipush, ex_lconst, ex_ldc, ex_ldc_w, ex_ldc2_w, ex_iadd, ex_isub, ex_imul, ex_iand, ex_ior, ex_ixor, ex_ishl, ex_ishr, ex_iushr, ex_idiv, ex_irem, ex_ladd, ex_lsub, ex_lmul, ex_lor, ex_ldiv, ex_lrem, ex_lshl, ex_lcmp, ex_ineg, ex_lneg, ex_i2l, ex_l2i, ex_i2b, ex_dup, ex_pop, ex_dup2, ex_goto, ex_tableswitch, ex_aaload, ex_ireturn, ex_lreturn, ex_return_, List.map_cons, List.map_nil, List.sum_cons, List.sum_nil, List.drop_succ_cons, List.drop_zero, List.take_succ_cons, List.take_zero, List.reverse_cons, List.reverse_nil, List.nil_append, List.cons_append, List.length_cons, List.length_nil, true_and, and_true, cond_false, cond_true, Bool.false_or, Bool.or_false, Bool.or_true, Bool.true_or, true_or, or_true, false_or, or_false, if_true, if_false, reduceIte, ite_true, ite_false, implies_true, true_implies, false_implies, forall_const, not_true_eq_false, not_false_eq_true, Nat.reduceAdd, Nat.reduceMul, Nat.reduceSub, Nat.reduceBEq, Nat.reduceEqDiff, Nat.reduceLeDiff, Nat.reduceLT, Int.reduceAdd, Int.reduceSub, Int.reduceMul, Int.reduceNeg, Int.reduceToNat, Int.reduceLE, Int.reduceLT, Int.reduceEq, Int.reduceNe, Int.reduceNatCast, Nat.add_zero, Nat.zero_add, reduceCtorEq, Int.reduceNatCast', wp_c, wp_g, e2_ifCond, e2_if_icmp, ↓bq_t, ↓bq_f, ab_br, ↓ab_b1_s, ↓ab_b2_s, ↓ab_l1_s, ↓ab_l2_s, ↓ab_li_s, ↓ab_o1_s, ↓ab_io_s, ↓ab_lo1_s, ↓ab_iio_s, ↓ab_lio_s, ↓ab_cp5_s, moX12_earnsOf, dX12_earnsOf_0, dal_0, dX12_earnsOf_1, dg2_12_122_0, dX12_earnsOf_4, dil_1, dX12_earnsOf_5, dX12_earnsOf_6, dX12_earnsOf_7, dX12_earnsOf_8, dv2_12_380_0, moX12_priceOf, dX12_earnsOf_11, dX12_earnsOf_12, dX12_earnsOf_13, dal2_31]
  repeat' (with_reducible (first | apply And.intro | intro _))
  all_goals first | omega | skip
  rw [hs i hi.1 hi.2]
  exact h
set_option maxRecDepth 100000 in
set_option maxHeartbeats 4000000 in
theorem y_chainEarns {ω τ : ab_S} {sp rp : Int → Int} {c : Int} {K : ab_V → ab_S → Prop} (hJ : zJ ω) (hK : zK ω) (hL : yLd ω sp rp τ) (ho : zOk ω sp (zpr ω rp)) (hs : ∀ j, 0 ≤ j → j < ω 34 5 → τ 31 j = zE ω sp (zpr ω rp) j) (hc : 0 ≤ c ∧ c < 4) (h : K (vJ (zT ω sp (zpr ω rp) c)) τ) : ab_Runs ab_G2 mdX12_chainEarns [vR 0, vI c] τ K := by
  refine ab_runs mwX12_chainEarns (by decide +kernel) (Nat.le_of_ble_eq_true rfl) (fun G hG => ?_)
  show G 0 [some (vR 0), some (vI c), none, none, none] [] _
  have hn := hK.1
  obtain ⟨-, hse, hst⟩ := id hL
  have key : ∀ (k : Nat) (j : Nat), ω 34 5 - j < k → (j : Int) ≤ ω 34 5 → G 5 [some (vR 0), some (vI c), some (vJ (zTk (ω 34 5) (ω 38) (zE ω sp (zpr ω rp)) (zpr ω rp) c j)), none, some (vI j)] [] τ := by
    intro k
    induction k with
    | zero => intro j h1 h2; omega
    | succ k ih =>
      intro j h1 h2
      have ih' := ih (j + 1)
      simp only [zTk] at ih'
      have hch : (j : Int) < ω 34 5 → τ 29 j = ω 38 j ∧ (0 ≤ ω 38 j ∧ ω 38 j < 4) := fun q => ⟨(hst j (by omega) q).2.2.2.1, (hK.2 j (by omega) q).2.2.2.1⟩
      apply hG [5] 60
      simp only [cq_lt, cq_le, cq_gt, cq_ge, cq_eq, cq_r1, cq_r2, ab_r32, ab_r64, ab_go, ab_stp, wp_z, ab_in, ab_rok, ab_wsum, ab_prm, ab_ret, ab_sw, ab_cd, ab_tg, ab_cat_i, ab_cat_l, ab_cat_r, ab_cl_n, ab_cl_i, ab_cl_l, ab_cl_r, ab_f2_0, ab_f2_1, ab_f4_0, ab_f4_1, ab_f4_2, ab_f4_3, ab_op_s, ab_b1_s, ab_b2_s, ab_l1_s, ab_l2_s, ab_li_s, ab_o1_s, ab_io_s, ab_lo1_s, ab_iio_s, ab_lio_s, ab_cp5_s, ab_d2_l, ab_d2_i, ab_d2_o, ex_iconst, ex_bipush, ex_sipush, ex_lconst, ex_ldc, ex_ldc_w, ex_ldc2_w, ex_iadd, ex_isub, ex_imul, ex_iand, ex_ior, ex_ixor, ex_ishl, ex_ishr, ex_iushr, ex_idiv, ex_irem, ex_ladd, ex_lsub, ex_lmul, ex_lor, ex_ldiv, ex_lrem, ex_lshl, ex_lcmp, ex_ineg, ex_lneg, ex_i2l, ex_l2i, ex_i2b, ex_dup, ex_pop, ex_dup2, ex_goto, ex_tableswitch, ex_aaload, ex_ireturn, ex_lreturn, ex_return_, List.map_cons, List.map_nil, List.sum_cons, List.sum_nil, List.drop_succ_cons, List.drop_zero, List.take_succ_cons, List.take_zero, List.reverse_cons, List.reverse_nil, List.nil_append, List.cons_append, List.length_cons, List.length_nil, true_and, and_true, cond_false, cond_true, Bool.false_or, Bool.or_false, Bool.or_true, Bool.true_or, true_or, or_true, false_or, or_false, if_true, if_false, reduceIte, ite_true, ite_false, implies_true, true_implies, false_implies, forall_const, not_true_eq_false, not_false_eq_true, Nat.reduceAdd, Nat.reduceMul, Nat.reduceSub, Nat.reduceBEq, Nat.reduceEqDiff, Nat.reduceLeDiff, Nat.reduceLT, Int.reduceAdd, Int.reduceSub, Int.reduceMul, Int.reduceNeg, Int.reduceToNat, Int.reduceLE, Int.reduceLT, Int.reduceEq, Int.reduceNe, Int.reduceNatCast, Nat.add_zero, Nat.zero_add, reduceCtorEq, Int.reduceNatCast', wp_c, wp_g, e2_ifCond, e2_if_icmp, ↓bq_t, ↓bq_f, ab_br, ↓ab_b1_s, ↓ab_b2_s, ↓ab_l1_s, ↓ab_l2_s, ↓ab_li_s, ↓ab_o1_s, ↓ab_io_s, ↓ab_lo1_s, ↓ab_iio_s, ↓ab_lio_s, ↓ab_cp5_s, moX12_chainEarns, dX12_chainEarns_0, dX12_chainEarns_1, dls_2, dX12_chainEarns_2, dX12_chainEarns_3, dis_4, dX12_chainEarns_5, dil_4, dX12_chainEarns_7, dal_0, dX12_chainEarns_8, dg2_12_329_0, dX12_chainEarns_11, dX12_chainEarns_14, dX12_chainEarns_15, dg2_12_116_0, dX12_chainEarns_18, dX12_chainEarns_20, dX12_chainEarns_21, dil_1, dX12_chainEarns_22, dX12_chainEarns_25, dll_2, dX12_chainEarns_26, dX12_chainEarns_27, dX12_chainEarns_29, dv2_12_400_0, moX12_earnsOf, dX12_chainEarns_32, dX12_chainEarns_33, dX12_chainEarns_34, dinc_4, dX12_chainEarns_37, dX12_chainEarns_40, dX12_chainEarns_41, dal2_29, hse]
      repeat' (with_reducible (first | apply And.intro | intro _))
      all_goals first | omega | skip
      · rename_i q
        have e : (ω 34 5).toNat = j := by omega
        unfold zT at h
        rw [e] at h
        exact h
      all_goals (have hq := hch (by omega))
      all_goals first | omega | skip
      · rename_i q1 q2
        rw [if_neg (by omega), Int.add_zero] at ih'
        exact ih' (by omega) (by omega)
      · rename_i q1 q2
        rw [if_pos (by omega)] at ih'
        refine y_earnsOf hJ hK hL ho hs ⟨by omega, by omega⟩ ?_
        try simp only [cq_lt, cq_le, cq_gt, cq_ge, cq_eq, cq_r1, cq_r2, ab_r32, ab_r64, ab_go, ab_stp, wp_z, ab_in, ab_rok, ab_wsum, ab_prm, ab_ret, ab_sw, ab_cd, ab_tg, ab_cat_i, ab_cat_l, ab_cat_r, ab_cl_n, ab_cl_i, ab_cl_l, ab_cl_r, ab_f2_0, ab_f2_1, ab_f4_0, ab_f4_1, ab_f4_2, ab_f4_3, ab_op_s, ab_b1_s, ab_b2_s, ab_l1_s, ab_l2_s, ab_li_s, ab_o1_s, ab_io_s, ab_lo1_s, ab_iio_s, ab_lio_s, ab_cp5_s, ab_d2_l, ab_d2_i, ab_d2_o, ex_iconst, ex_bipush, ex_sipush, ex_lconst, ex_ldc, ex_ldc_w, ex_ldc2_w, ex_iadd, ex_isub, ex_imul, ex_iand, ex_ior, ex_ixor, ex_ishl, ex_ishr, ex_iushr, ex_idiv, ex_irem, ex_ladd, ex_lsub, ex_lmul, ex_lor, ex_ldiv, ex_lrem, ex_lshl, ex_lcmp, ex_ineg, ex_lneg, ex_i2l, ex_l2i, ex_i2b, ex_dup, ex_pop, ex_dup2, ex_goto, ex_tableswitch, ex_aaload, ex_ireturn, ex_lreturn, ex_return_, List.map_cons, List.map_nil, List.sum_cons, List.sum_nil, List.drop_succ_cons, List.drop_zero, List.take_succ_cons, List.take_zero, List.reverse_cons, List.reverse_nil, List.nil_append, List.cons_append, List.length_cons, List.length_nil, true_and, and_true, cond_false, cond_true, Bool.false_or, Bool.or_false, Bool.or_true, Bool.true_or, true_or, or_true, false_or, or_false, if_true, if_false, reduceIte, ite_true, ite_false, implies_true, true_implies, false_implies, forall_const, not_true_eq_false, not_false_eq_true, Nat.reduceAdd, Nat.reduceMul, Nat.reduceSub, Nat.reduceBEq, Nat.reduceEqDiff, Nat.reduceLeDiff, Nat.reduceLT, Int.reduceAdd, Int.reduceSub, Int.reduceMul, Int.reduceNeg, Int.reduceToNat, Int.reduceLE, Int.reduceLT, Int.reduceEq, Int.reduceNe, Int.reduceNatCast, Nat.add_zero, Nat.zero_add, reduceCtorEq, Int.reduceNatCast', wp_c, wp_g, e2_ifCond, e2_if_icmp, ↓bq_t, ↓bq_f, ab_br, ↓ab_b1_s, ↓ab_b2_s, ↓ab_l1_s, ↓ab_l2_s, ↓ab_li_s, ↓ab_o1_s, ↓ab_io_s, ↓ab_lo1_s, ↓ab_iio_s, ↓ab_lio_s, ↓ab_cp5_s, moX12_chainEarns, dX12_chainEarns_0, dX12_chainEarns_1, dls_2, dX12_chainEarns_2, dX12_chainEarns_3, dis_4, dX12_chainEarns_5, dil_4, dX12_chainEarns_7, dal_0, dX12_chainEarns_8, dg2_12_329_0, dX12_chainEarns_11, dX12_chainEarns_14, dX12_chainEarns_15, dg2_12_116_0, dX12_chainEarns_18, dX12_chainEarns_20, dX12_chainEarns_21, dil_1, dX12_chainEarns_22, dX12_chainEarns_25, dll_2, dX12_chainEarns_26, dX12_chainEarns_27, dX12_chainEarns_29, dv2_12_400_0, moX12_earnsOf, dX12_chainEarns_32, dX12_chainEarns_33, dX12_chainEarns_34, dinc_4, dX12_chainEarns_37, dX12_chainEarns_40, dX12_chainEarns_41, dal2_29]
        exact ih' (by omega) (by omega)
  apply hG [5] 60
  simp only [cq_lt, cq_le, cq_gt, cq_ge, cq_eq, cq_r1, cq_r2, ab_r32, ab_r64, ab_go, ab_stp, wp_z, ab_in, ab_rok, ab_wsum, ab_prm, ab_ret, ab_sw, ab_cd, ab_tg, ab_cat_i, ab_cat_l, ab_cat_r, ab_cl_n, ab_cl_i, ab_cl_l, ab_cl_r, ab_f2_0, ab_f2_1, ab_f4_0, ab_f4_1, ab_f4_2, ab_f4_3, ab_op_s, ab_b1_s, ab_b2_s, ab_l1_s, ab_l2_s, ab_li_s, ab_o1_s, ab_io_s, ab_lo1_s, ab_iio_s, ab_lio_s, ab_cp5_s, ab_d2_l, ab_d2_i, ab_d2_o, ex_iconst, ex_bipush, ex_sipush, ex_lconst, ex_ldc, ex_ldc_w, ex_ldc2_w, ex_iadd, ex_isub, ex_imul, ex_iand, ex_ior, ex_ixor, ex_ishl, ex_ishr, ex_iushr, ex_idiv, ex_irem, ex_ladd, ex_lsub, ex_lmul, ex_lor, ex_ldiv, ex_lrem, ex_lshl, ex_lcmp, ex_ineg, ex_lneg, ex_i2l, ex_l2i, ex_i2b, ex_dup, ex_pop, ex_dup2, ex_goto, ex_tableswitch, ex_aaload, ex_ireturn, ex_lreturn, ex_return_, List.map_cons, List.map_nil, List.sum_cons, List.sum_nil, List.drop_succ_cons, List.drop_zero, List.take_succ_cons, List.take_zero, List.reverse_cons, List.reverse_nil, List.nil_append, List.cons_append, List.length_cons, List.length_nil, true_and, and_true, cond_false, cond_true, Bool.false_or, Bool.or_false, Bool.or_true, Bool.true_or, true_or, or_true, false_or, or_false, if_true, if_false, reduceIte, ite_true, ite_false, implies_true, true_implies, false_implies, forall_const, not_true_eq_false, not_false_eq_true, Nat.reduceAdd, Nat.reduceMul, Nat.reduceSub, Nat.reduceBEq, Nat.reduceEqDiff, Nat.reduceLeDiff, Nat.reduceLT, Int.reduceAdd, Int.reduceSub, Int.reduceMul, Int.reduceNeg, Int.reduceToNat, Int.reduceLE, Int.reduceLT, Int.reduceEq, Int.reduceNe, Int.reduceNatCast, Nat.add_zero, Nat.zero_add, reduceCtorEq, Int.reduceNatCast', wp_c, wp_g, e2_ifCond, e2_if_icmp, ↓bq_t, ↓bq_f, ab_br, ↓ab_b1_s, ↓ab_b2_s, ↓ab_l1_s, ↓ab_l2_s, ↓ab_li_s, ↓ab_o1_s, ↓ab_io_s, ↓ab_lo1_s, ↓ab_iio_s, ↓ab_lio_s, ↓ab_cp5_s, moX12_chainEarns, dX12_chainEarns_0, dX12_chainEarns_1, dls_2, dX12_chainEarns_2, dX12_chainEarns_3, dis_4, dX12_chainEarns_5, dil_4, dX12_chainEarns_7, dal_0, dX12_chainEarns_8, dg2_12_329_0, dX12_chainEarns_11, dX12_chainEarns_14, dX12_chainEarns_15, dg2_12_116_0, dX12_chainEarns_18, dX12_chainEarns_20, dX12_chainEarns_21, dil_1, dX12_chainEarns_22, dX12_chainEarns_25, dll_2, dX12_chainEarns_26, dX12_chainEarns_27, dX12_chainEarns_29, dv2_12_400_0, moX12_earnsOf, dX12_chainEarns_32, dX12_chainEarns_33, dX12_chainEarns_34, dinc_4, dX12_chainEarns_37, dX12_chainEarns_40, dX12_chainEarns_41, dal2_29]
  exact key 5 0 (by omega) (by omega)
/-- nothing of the model that lasts is otherwise, but for stands -/
def yFq (τ υ : ab_S) : Prop := (∀ o, o ≠ 0 → o ≠ 26 → o ≠ 27 → o ≠ 31 → o ≠ 32 → υ o = τ o) ∧ ∀ k, k ≠ 60 → k ≠ 63 → k ≠ 64 → k ≠ 65 → υ 0 k = τ 0 k
theorem yFq_refl (τ : ab_S) : yFq τ τ := ⟨fun _ _ _ _ _ _ => rfl, fun _ _ _ _ _ => rfl⟩
theorem yFq_trans {τ υ φ : ab_S} (h1 : yFq τ υ) (h2 : yFq υ φ) : yFq τ φ := ⟨fun o a b c d e => (h2.1 o a b c d e).trans (h1.1 o a b c d e), fun k a b c d => (h2.2 k a b c d).trans (h1.2 k a b c d)⟩
theorem yFm_q {τ υ : ab_S} (h : yFm τ υ) : yFq τ υ := ⟨fun o a b c d e => h.1 o a d e, fun k a b c d => h.2 k a⟩
theorem yLd_q {ω τ υ : ab_S} {sp rp sp2 rp2 : Int → Int} (h : yFq τ υ) (hL : yLd ω sp rp τ) (h1 : ∀ j, 0 ≤ j → j < ω 34 5 → υ 26 j = sp2 j) (h2 : ∀ j, 0 ≤ j → j < ω 34 5 → υ 27 j = rp2 j) : yLd ω sp2 rp2 υ := by
  obtain ⟨hR, hse, hst⟩ := hL
  refine ⟨?_, ?_, fun j j1 j2 => ?_⟩
  · unfold yR
    rw [h.2 1 (by decide) (by decide) (by decide) (by decide), h.2 2 (by decide) (by decide) (by decide) (by decide), h.2 4 (by decide) (by decide) (by decide) (by decide), h.2 5 (by decide) (by decide) (by decide) (by decide), h.2 6 (by decide) (by decide) (by decide) (by decide), h.2 7 (by decide) (by decide) (by decide) (by decide), h.2 46 (by decide) (by decide) (by decide) (by decide), h.2 47 (by decide) (by decide) (by decide) (by decide)]
    rw [h.1 3 (by decide) (by decide) (by decide) (by decide) (by decide), h.1 5 (by decide) (by decide) (by decide) (by decide) (by decide), h.1 7 (by decide) (by decide) (by decide) (by decide) (by decide), h.1 8 (by decide) (by decide) (by decide) (by decide) (by decide), h.1 9 (by decide) (by decide) (by decide) (by decide) (by decide), h.1 10 (by decide) (by decide) (by decide) (by decide) (by decide), h.1 21 (by decide) (by decide) (by decide) (by decide) (by decide), h.1 22 (by decide) (by decide) (by decide) (by decide) (by decide), h.1 23 (by decide) (by decide) (by decide) (by decide) (by decide), h.1 24 (by decide) (by decide) (by decide) (by decide) (by decide), h.1 25 (by decide) (by decide) (by decide) (by decide) (by decide)]
    exact hR
  · rw [h.2 53 (by decide) (by decide) (by decide) (by decide)]
    exact hse
  · obtain ⟨q1, q2, q3, q4, q5⟩ := hst j j1 j2
    rw [h.1 28 (by decide) (by decide) (by decide) (by decide) (by decide), h.1 29 (by decide) (by decide) (by decide) (by decide) (by decide), h.1 30 (by decide) (by decide) (by decide) (by decide) (by decide)]
    exact ⟨h1 j j1 j2, h2 j j1 j2, q3, q4, q5⟩
set_option maxRecDepth 100000 in
set_option maxHeartbeats 4000000 in
theorem y_tries {ω τ : ab_S} {sp rp : Int → Int} {s m b : Int} {K : ab_V → ab_S → Prop} (hJ : zJ ω) (hK : zK ω) (hL : yLd ω sp rp τ) (ho : zOk ω sp (zpr ω rp)) (hs : 0 ≤ s ∧ s < ω 34 5) (hb : b = 0 ∨ b = 1) (he : b = 1 ∨ (0 ≤ τ 0 63 ∧ τ 0 63 ≤ 24000000000))
    (h : ∀ υ, yFq τ υ → υ 26 = τ 26 → υ 27 = τ 27 → (((b = 1 ∨ τ 0 63 < zT ω sp (zpr ω rp) (ω 38 s)) ∧ υ 0 63 = zT ω sp (zpr ω rp) (ω 38 s) ∧ υ 0 64 = m ∧ υ 0 65 = 1 - b) ∨ (¬ (b = 1 ∨ τ 0 63 < zT ω sp (zpr ω rp) (ω 38 s)) ∧ υ 0 63 = τ 0 63 ∧ υ 0 64 = τ 0 64 ∧ υ 0 65 = τ 0 65)) → K (vI 0) υ) : ab_Runs ab_G2 mdX12_tries [vR 0, vI s, vI m, vI b] τ K := by
  refine ab_runs mwX12_tries (by decide +kernel) (Nat.le_of_ble_eq_true rfl) (fun G hG => ?_)
  show G 0 [some (vR 0), some (vI s), some (vI m), some (vI b), none, none] [] _
  have hn := hK.1
  have hch := (hK.2 s hs.1 hs.2).2.2.2.1
  have htin := zT_in hJ hK ho (ω 38 s)
  apply hG [9999] 60
  simp only [cq_lt, cq_le, cq_gt, cq_ge, cq_eq, cq_r1, cq_r2, ab_r32, ab_r64, ab_go, ab_stp, wp_z, ab_in, ab_rok, ab_wsum, ab_prm, ab_ret, ab_sw, ab_cd, ab_tg, ab_cat_i, ab_cat_l, ab_cat_r, ab_cl_n, ab_cl_i, ab_cl_l, ab_cl_r, ab_f2_0, ab_f2_1, ab_f4_0, ab_f4_1, ab_f4_2, ab_f4_3, ab_op_s, ab_b1_s, ab_b2_s, ab_l1_s, ab_l2_s, ab_li_s, ab_o1_s, ab_io_s, ab_lo1_s, ab_iio_s, ab_lio_s, ab_cp5_s, ab_d2_l, ab_d2_i, ab_d2_o, ex_iconst, ex_bipush, ex_sipush, ex_lconst, ex_ldc, ex_ldc_w, ex_ldc2_w, ex_iadd, ex_isub, ex_imul, ex_iand, ex_ior, ex_ixor, ex_ishl, ex_ishr, ex_iushr, ex_idiv, ex_irem, ex_ladd, ex_lsub, ex_lmul, ex_lor, ex_ldiv, ex_lrem, ex_lshl, ex_lcmp, ex_ineg, ex_lneg, ex_i2l, ex_l2i, ex_i2b, ex_dup, ex_pop, ex_dup2, ex_goto, ex_tableswitch, ex_aaload, ex_ireturn, ex_lreturn, ex_return_, List.map_cons, List.map_nil, List.sum_cons, List.sum_nil, List.drop_succ_cons, List.drop_zero, List.take_succ_cons, List.take_zero, List.reverse_cons, List.reverse_nil, List.nil_append, List.cons_append, List.length_cons, List.length_nil, true_and, and_true, cond_false, cond_true, Bool.false_or, Bool.or_false, Bool.or_true, Bool.true_or, true_or, or_true, false_or, or_false, if_true, if_false, reduceIte, ite_true, ite_false, implies_true, true_implies, false_implies, forall_const, not_true_eq_false, not_false_eq_true, Nat.reduceAdd, Nat.reduceMul, Nat.reduceSub, Nat.reduceBEq, Nat.reduceEqDiff, Nat.reduceLeDiff, Nat.reduceLT, Int.reduceAdd, Int.reduceSub, Int.reduceMul, Int.reduceNeg, Int.reduceToNat, Int.reduceLE, Int.reduceLT, Int.reduceEq, Int.reduceNe, Int.reduceNatCast, Nat.add_zero, Nat.zero_add, reduceCtorEq, Int.reduceNatCast', wp_c, wp_g, e2_ifCond, e2_if_icmp, ↓bq_t, ↓bq_f, ab_br, ↓ab_b1_s, ↓ab_b2_s, ↓ab_l1_s, ↓ab_l2_s, ↓ab_li_s, ↓ab_o1_s, ↓ab_io_s, ↓ab_lo1_s, ↓ab_iio_s, ↓ab_lio_s, ↓ab_cp5_s, moX12_tries, dX12_tries_0, dal_0, dX12_tries_1, dv2_12_407_0, moX12_sells, dX12_tries_4, dX12_tries_5, dX12_tries_6, dg2_12_116_0, dX12_tries_9, dil_1, dX12_tries_10, dX12_tries_11, dv2_12_410_0, moX12_chainEarns, dX12_tries_14, dls_4, dX12_tries_16, dil_3, dX12_tries_17, dX12_tries_20, dll_4, dX12_tries_22, dX12_tries_23, dg2_12_413_0, dX12_tries_26, dX12_tries_27, dX12_tries_30, dX12_tries_31, dX12_tries_32, dX12_tries_34, dp2_12_413_0, dX12_tries_37, dX12_tries_38, dil_2, dX12_tries_39, dp2_12_416_0, dX12_tries_42, dX12_tries_43, dX12_tries_44, dX12_tries_47, dX12_tries_48, dX12_tries_51, dX12_tries_52, dp2_12_419_0, dX12_tries_55, dal2_29]
  repeat' (with_reducible (first | apply And.intro | intro _))
  all_goals first | omega | skip
  refine y_sells hJ hK hL ho (fun υ f hr hso hh => ?_)
  have e29 : υ 29 s = ω 38 s := by
    rw [f.1 29 (by decide) (by decide) (by decide)]
    exact (hL.2.2 s hs.1 hs.2).2.2.2.1
  have f63 : υ 0 63 = τ 0 63 := f.2 63 (by decide)
  have hbase : ∀ φ : ab_S, (∀ o, o ≠ 0 → φ o = υ o) → (∀ k, k ≠ 63 → k ≠ 64 → k ≠ 65 → φ 0 k = υ 0 k) → yFq τ φ ∧ φ 26 = τ 26 ∧ φ 27 = τ 27 := by
    intro φ a c
    refine ⟨yFq_trans (yFm_q f) ⟨fun o o1 _ _ _ _ => a o o1, fun k _ k2 k3 k4 => c k k2 k3 k4⟩, ?_, ?_⟩
    · rw [a 26 (by decide), f.1 26 (by decide) (by decide) (by decide)]
    · rw [a 27 (by decide), f.1 27 (by decide) (by decide) (by decide)]
  have hup : ∀ x, yFq τ (ab_up (ab_up (ab_up υ 0 63 (zT ω sp (zpr ω rp) (ω 38 s))) 0 64 m) 0 65 x) ∧ ab_up (ab_up (ab_up υ 0 63 (zT ω sp (zpr ω rp) (ω 38 s))) 0 64 m) 0 65 x 26 = τ 26 ∧ ab_up (ab_up (ab_up υ 0 63 (zT ω sp (zpr ω rp) (ω 38 s))) 0 64 m) 0 65 x 27 = τ 27 := fun x => hbase _ (fun o o1 => by rw [ab_up_o o o1, ab_up_o o o1, ab_up_o o o1]) (fun k k1 k2 k3 => by
    show (if k = 65 then _ else if k = 64 then _ else if k = 63 then _ else υ 0 k) = _
    rw [if_neg k3, if_neg k2, if_neg k1])
  try simp only [cq_lt, cq_le, cq_gt, cq_ge, cq_eq, cq_r1, cq_r2, ab_r32, ab_r64, ab_go, ab_stp, wp_z, ab_in, ab_rok, ab_wsum, ab_prm, ab_ret, ab_sw, ab_cd, ab_tg, ab_cat_i, ab_cat_l, ab_cat_r, ab_cl_n, ab_cl_i, ab_cl_l, ab_cl_r, ab_f2_0, ab_f2_1, ab_f4_0, ab_f4_1, ab_f4_2, ab_f4_3, ab_op_s, ab_b1_s, ab_b2_s, ab_l1_s, ab_l2_s, ab_li_s, ab_o1_s, ab_io_s, ab_lo1_s, ab_iio_s, ab_lio_s, ab_cp5_s, ab_d2_l, ab_d2_i, ab_d2_o, ex_iconst, ex_bipush, ex_sipush, ex_lconst, ex_ldc, ex_ldc_w, ex_ldc2_w, ex_iadd, ex_isub, ex_imul, ex_iand, ex_ior, ex_ixor, ex_ishl, ex_ishr, ex_iushr, ex_idiv, ex_irem, ex_ladd, ex_lsub, ex_lmul, ex_lor, ex_ldiv, ex_lrem, ex_lshl, ex_lcmp, ex_ineg, ex_lneg, ex_i2l, ex_l2i, ex_i2b, ex_dup, ex_pop, ex_dup2, ex_goto, ex_tableswitch, ex_aaload, ex_ireturn, ex_lreturn, ex_return_, List.map_cons, List.map_nil, List.sum_cons, List.sum_nil, List.drop_succ_cons, List.drop_zero, List.take_succ_cons, List.take_zero, List.reverse_cons, List.reverse_nil, List.nil_append, List.cons_append, List.length_cons, List.length_nil, true_and, and_true, cond_false, cond_true, Bool.false_or, Bool.or_false, Bool.or_true, Bool.true_or, true_or, or_true, false_or, or_false, if_true, if_false, reduceIte, ite_true, ite_false, implies_true, true_implies, false_implies, forall_const, not_true_eq_false, not_false_eq_true, Nat.reduceAdd, Nat.reduceMul, Nat.reduceSub, Nat.reduceBEq, Nat.reduceEqDiff, Nat.reduceLeDiff, Nat.reduceLT, Int.reduceAdd, Int.reduceSub, Int.reduceMul, Int.reduceNeg, Int.reduceToNat, Int.reduceLE, Int.reduceLT, Int.reduceEq, Int.reduceNe, Int.reduceNatCast, Nat.add_zero, Nat.zero_add, reduceCtorEq, Int.reduceNatCast', wp_c, wp_g, e2_ifCond, e2_if_icmp, ↓bq_t, ↓bq_f, ab_br, ↓ab_b1_s, ↓ab_b2_s, ↓ab_l1_s, ↓ab_l2_s, ↓ab_li_s, ↓ab_o1_s, ↓ab_io_s, ↓ab_lo1_s, ↓ab_iio_s, ↓ab_lio_s, ↓ab_cp5_s, moX12_tries, dX12_tries_0, dal_0, dX12_tries_1, dv2_12_407_0, moX12_sells, dX12_tries_4, dX12_tries_5, dX12_tries_6, dg2_12_116_0, dX12_tries_9, dil_1, dX12_tries_10, dX12_tries_11, dv2_12_410_0, moX12_chainEarns, dX12_tries_14, dls_4, dX12_tries_16, dil_3, dX12_tries_17, dX12_tries_20, dll_4, dX12_tries_22, dX12_tries_23, dg2_12_413_0, dX12_tries_26, dX12_tries_27, dX12_tries_30, dX12_tries_31, dX12_tries_32, dX12_tries_34, dp2_12_413_0, dX12_tries_37, dX12_tries_38, dil_2, dX12_tries_39, dp2_12_416_0, dX12_tries_42, dX12_tries_43, dX12_tries_44, dX12_tries_47, dX12_tries_48, dX12_tries_51, dX12_tries_52, dp2_12_419_0, dX12_tries_55, dal2_29, e29]
  repeat' (with_reducible (first | apply And.intro | intro _))
  all_goals first | omega | skip
  refine y_chainEarns hJ hK (yLd_fm f hL) ho hso hch ?_
  try simp only [cq_lt, cq_le, cq_gt, cq_ge, cq_eq, cq_r1, cq_r2, ab_r32, ab_r64, ab_go, ab_stp, wp_z, ab_in, ab_rok, ab_wsum, ab_prm, ab_ret, ab_sw, ab_cd, ab_tg, ab_cat_i, ab_cat_l, ab_cat_r, ab_cl_n, ab_cl_i, ab_cl_l, ab_cl_r, ab_f2_0, ab_f2_1, ab_f4_0, ab_f4_1, ab_f4_2, ab_f4_3, ab_op_s, ab_b1_s, ab_b2_s, ab_l1_s, ab_l2_s, ab_li_s, ab_o1_s, ab_io_s, ab_lo1_s, ab_iio_s, ab_lio_s, ab_cp5_s, ab_d2_l, ab_d2_i, ab_d2_o, ex_iconst, ex_bipush, ex_sipush, ex_lconst, ex_ldc, ex_ldc_w, ex_ldc2_w, ex_iadd, ex_isub, ex_imul, ex_iand, ex_ior, ex_ixor, ex_ishl, ex_ishr, ex_iushr, ex_idiv, ex_irem, ex_ladd, ex_lsub, ex_lmul, ex_lor, ex_ldiv, ex_lrem, ex_lshl, ex_lcmp, ex_ineg, ex_lneg, ex_i2l, ex_l2i, ex_i2b, ex_dup, ex_pop, ex_dup2, ex_goto, ex_tableswitch, ex_aaload, ex_ireturn, ex_lreturn, ex_return_, List.map_cons, List.map_nil, List.sum_cons, List.sum_nil, List.drop_succ_cons, List.drop_zero, List.take_succ_cons, List.take_zero, List.reverse_cons, List.reverse_nil, List.nil_append, List.cons_append, List.length_cons, List.length_nil, true_and, and_true, cond_false, cond_true, Bool.false_or, Bool.or_false, Bool.or_true, Bool.true_or, true_or, or_true, false_or, or_false, if_true, if_false, reduceIte, ite_true, ite_false, implies_true, true_implies, false_implies, forall_const, not_true_eq_false, not_false_eq_true, Nat.reduceAdd, Nat.reduceMul, Nat.reduceSub, Nat.reduceBEq, Nat.reduceEqDiff, Nat.reduceLeDiff, Nat.reduceLT, Int.reduceAdd, Int.reduceSub, Int.reduceMul, Int.reduceNeg, Int.reduceToNat, Int.reduceLE, Int.reduceLT, Int.reduceEq, Int.reduceNe, Int.reduceNatCast, Nat.add_zero, Nat.zero_add, reduceCtorEq, Int.reduceNatCast', wp_c, wp_g, e2_ifCond, e2_if_icmp, ↓bq_t, ↓bq_f, ab_br, ↓ab_b1_s, ↓ab_b2_s, ↓ab_l1_s, ↓ab_l2_s, ↓ab_li_s, ↓ab_o1_s, ↓ab_io_s, ↓ab_lo1_s, ↓ab_iio_s, ↓ab_lio_s, ↓ab_cp5_s, moX12_tries, dX12_tries_0, dal_0, dX12_tries_1, dv2_12_407_0, moX12_sells, dX12_tries_4, dX12_tries_5, dX12_tries_6, dg2_12_116_0, dX12_tries_9, dil_1, dX12_tries_10, dX12_tries_11, dv2_12_410_0, moX12_chainEarns, dX12_tries_14, dls_4, dX12_tries_16, dil_3, dX12_tries_17, dX12_tries_20, dll_4, dX12_tries_22, dX12_tries_23, dg2_12_413_0, dX12_tries_26, dX12_tries_27, dX12_tries_30, dX12_tries_31, dX12_tries_32, dX12_tries_34, dp2_12_413_0, dX12_tries_37, dX12_tries_38, dil_2, dX12_tries_39, dp2_12_416_0, dX12_tries_42, dX12_tries_43, dX12_tries_44, dX12_tries_47, dX12_tries_48, dX12_tries_51, dX12_tries_52, dp2_12_419_0, dX12_tries_55, dal2_29, f63]
  repeat' (with_reducible (first | apply And.intro | intro _))
  all_goals first | omega | skip
  · obtain ⟨x1, x2, x3⟩ := hup 0
    exact h _ x1 x2 x3 (Or.inl ⟨by omega, rfl, rfl, by show (0 : Int) = 1 - b; omega⟩)
  · obtain ⟨x1, x2, x3⟩ := hup 1
    exact h _ x1 x2 x3 (Or.inl ⟨by omega, rfl, rfl, by show (1 : Int) = 1 - b; omega⟩)
  · obtain ⟨x1, x2, x3⟩ := hbase υ (fun _ _ => rfl) (fun _ _ _ _ => rfl)
    exact h _ x1 x2 x3 (Or.inr ⟨by omega, f63, f.2 64 (by decide), f.2 65 (by decide)⟩)
