-- MODEL: games, which rows are let
/-- two sellers stand far enough apart -/
def zAp (ω : ab_S) (sp : Int → Int) (s t : Int) : Prop := ω 28 7 ≤ zDq ω (sp s) (sp t)
set_option maxRecDepth 100000 in
set_option maxHeartbeats 4000000 in
theorem y_isApart {ω τ : ab_S} {sp rp : Int → Int} {s t : Int} {K : ab_V → ab_S → Prop} (hJ : zJ ω) (hK : zK ω) (hL : yLd ω sp rp τ) (ho : zOk ω sp (zpr ω rp)) (hs : 0 ≤ s ∧ s < ω 34 5) (ht : 0 ≤ t ∧ t < ω 34 5) (h : ∀ v, (zAp ω sp s t ∧ v = 1 ∨ ¬ zAp ω sp s t ∧ v = 0) → K (vI v) τ) : ab_Runs ab_G2 mdX12_isApart [vR 0, vI s, vI t] τ K := by
  refine ab_runs mwX12_isApart (by decide +kernel) (Nat.le_of_ble_eq_true rfl) (fun G hG => ?_)
  show G 0 [some (vR 0), some (vI s), some (vI t)] [] _
  have hn := hK.1
  have hap := hJ.2.2.2.2.2.2.1
  have r7 := hL.1.2.2.2.2.2.2.1
  have e1 := (hL.2.2 s hs.1 hs.2).1
  have e2 := (hL.2.2 t ht.1 ht.2).1
  unfold zAp at h
  apply hG [9999] 40
  simp only [cq_lt, cq_le, cq_gt, cq_ge, cq_eq, cq_r1, cq_r2, ab_r32, ab_r64, ab_go, ab_stp, wp_z, ab_in, ab_rok, ab_wsum, ab_prm, ab_ret, ab_sw, ab_cd, ab_tg, ab_cat_i, ab_cat_l, ab_cat_r, ab_cl_n, ab_cl_i, ab_cl_l, ab_cl_r, ab_f2_0, ab_f2_1, ab_f4_0, ab_f4_1, ab_f4_2, ab_f4_3, ab_op_s, ab_b1_s, ab_b2_s, ab_l1_s, ab_l2_s, ab_li_s, ab_o1_s, ab_io_s, ab_lo1_s, ab_iio_s, ab_lio_s, ab_cp5_s, ab_d2_l, ab_d2_i, ab_d2_o, ex_iconst, ex_bipush, ex_sipush, ex_lconst, ex_ldc, ex_ldc_w, ex_ldc2_w, ex_iadd, ex_isub, ex_imul, ex_iand, ex_ior, ex_ixor, ex_ishl, ex_ishr, ex_iushr, ex_idiv, ex_irem, ex_ladd, ex_lsub, ex_lmul, ex_lor, ex_ldiv, ex_lrem, ex_lshl, ex_lcmp, ex_ineg, ex_lneg, ex_i2l, ex_l2i, ex_i2b, ex_dup, ex_pop, ex_dup2, ex_goto, ex_tableswitch, ex_aaload, ex_ireturn, ex_lreturn, ex_return_, List.map_cons, List.map_nil, List.sum_cons, List.sum_nil, List.drop_succ_cons, List.drop_zero, List.take_succ_cons, List.take_zero, List.reverse_cons, List.reverse_nil, List.nil_append, List.cons_append, List.length_cons, List.length_nil, true_and, and_true, cond_false, cond_true, Bool.false_or, Bool.or_false, Bool.or_true, Bool.true_or, true_or, or_true, false_or, or_false, if_true, if_false, reduceIte, ite_true, ite_false, implies_true, true_implies, false_implies, forall_const, not_true_eq_false, not_false_eq_true, Nat.reduceAdd, Nat.reduceMul, Nat.reduceSub, Nat.reduceBEq, Nat.reduceEqDiff, Nat.reduceLeDiff, Nat.reduceLT, Int.reduceAdd, Int.reduceSub, Int.reduceMul, Int.reduceNeg, Int.reduceToNat, Int.reduceLE, Int.reduceLT, Int.reduceEq, Int.reduceNe, Int.reduceNatCast, Nat.add_zero, Nat.zero_add, reduceCtorEq, Int.reduceNatCast', wp_c, wp_g, e2_ifCond, e2_if_icmp, ↓bq_t, ↓bq_f, ab_br, ↓ab_b1_s, ↓ab_b2_s, ↓ab_l1_s, ↓ab_l2_s, ↓ab_li_s, ↓ab_o1_s, ↓ab_io_s, ↓ab_lo1_s, ↓ab_iio_s, ↓ab_lio_s, ↓ab_cp5_s, moX12_isApart, dX12_isApart_0, dal_0, dX12_isApart_1, dX12_isApart_2, dg2_12_107_0, dX12_isApart_5, dil_1, dX12_isApart_6, dX12_isApart_7, dX12_isApart_8, dX12_isApart_11, dil_2, dX12_isApart_12, dX12_isApart_13, dv2_12_374_0, moX12_farOf, dX12_isApart_16, dX12_isApart_17, dg2_12_348_0, dX12_isApart_20, dX12_isApart_23, dX12_isApart_24, dX12_isApart_27, dX12_isApart_28, dal2_26, e1, e2]
  repeat' (with_reducible (first | apply And.intro | intro _))
  all_goals first | omega | skip
  refine y_farOf hJ hL.1 (ho s hs.1 hs.2).1 (ho t ht.1 ht.2).1 (fun v hv => ?_)
  unfold zFs at hv
  try simp only [cq_lt, cq_le, cq_gt, cq_ge, cq_eq, cq_r1, cq_r2, ab_r32, ab_r64, ab_go, ab_stp, wp_z, ab_in, ab_rok, ab_wsum, ab_prm, ab_ret, ab_sw, ab_cd, ab_tg, ab_cat_i, ab_cat_l, ab_cat_r, ab_cl_n, ab_cl_i, ab_cl_l, ab_cl_r, ab_f2_0, ab_f2_1, ab_f4_0, ab_f4_1, ab_f4_2, ab_f4_3, ab_op_s, ab_b1_s, ab_b2_s, ab_l1_s, ab_l2_s, ab_li_s, ab_o1_s, ab_io_s, ab_lo1_s, ab_iio_s, ab_lio_s, ab_cp5_s, ab_d2_l, ab_d2_i, ab_d2_o, ex_iconst, ex_bipush, ex_sipush, ex_lconst, ex_ldc, ex_ldc_w, ex_ldc2_w, ex_iadd, ex_isub, ex_imul, ex_iand, ex_ior, ex_ixor, ex_ishl, ex_ishr, ex_iushr, ex_idiv, ex_irem, ex_ladd, ex_lsub, ex_lmul, ex_lor, ex_ldiv, ex_lrem, ex_lshl, ex_lcmp, ex_ineg, ex_lneg, ex_i2l, ex_l2i, ex_i2b, ex_dup, ex_pop, ex_dup2, ex_goto, ex_tableswitch, ex_aaload, ex_ireturn, ex_lreturn, ex_return_, List.map_cons, List.map_nil, List.sum_cons, List.sum_nil, List.drop_succ_cons, List.drop_zero, List.take_succ_cons, List.take_zero, List.reverse_cons, List.reverse_nil, List.nil_append, List.cons_append, List.length_cons, List.length_nil, true_and, and_true, cond_false, cond_true, Bool.false_or, Bool.or_false, Bool.or_true, Bool.true_or, true_or, or_true, false_or, or_false, if_true, if_false, reduceIte, ite_true, ite_false, implies_true, true_implies, false_implies, forall_const, not_true_eq_false, not_false_eq_true, Nat.reduceAdd, Nat.reduceMul, Nat.reduceSub, Nat.reduceBEq, Nat.reduceEqDiff, Nat.reduceLeDiff, Nat.reduceLT, Int.reduceAdd, Int.reduceSub, Int.reduceMul, Int.reduceNeg, Int.reduceToNat, Int.reduceLE, Int.reduceLT, Int.reduceEq, Int.reduceNe, Int.reduceNatCast, Nat.add_zero, Nat.zero_add, reduceCtorEq, Int.reduceNatCast', wp_c, wp_g, e2_ifCond, e2_if_icmp, ↓bq_t, ↓bq_f, ab_br, ↓ab_b1_s, ↓ab_b2_s, ↓ab_l1_s, ↓ab_l2_s, ↓ab_li_s, ↓ab_o1_s, ↓ab_io_s, ↓ab_lo1_s, ↓ab_iio_s, ↓ab_lio_s, ↓ab_cp5_s, moX12_isApart, dX12_isApart_0, dal_0, dX12_isApart_1, dX12_isApart_2, dg2_12_107_0, dX12_isApart_5, dil_1, dX12_isApart_6, dX12_isApart_7, dX12_isApart_8, dX12_isApart_11, dil_2, dX12_isApart_12, dX12_isApart_13, dv2_12_374_0, moX12_farOf, dX12_isApart_16, dX12_isApart_17, dg2_12_348_0, dX12_isApart_20, dX12_isApart_23, dX12_isApart_24, dX12_isApart_27, dX12_isApart_28, dal2_26, r7]
  repeat' (with_reducible (first | apply And.intro | intro _))
  all_goals first | omega | exact h _ (by omega)
theorem zD_nn {ω : ab_S} {q p : Int} (hJ : zJ ω) (hq : zSt ω q) (hp : zSt ω p) : 0 ≤ zD ω q p := by
  have hT := hJ.1
  have w := fun c => zRe_in (c := c) hT hJ.2.2.2.1.1 hq
  unfold zD
  by_cases c : p < 100
  · rw [if_pos c]
    exact (w _ (zSt_c hp c)).1
  · obtain ⟨y1, y2, y3, y4, y5⟩ := zSt_st hT hp (by omega)
    have a := w _ y3
    have b := w _ y4
    rw [if_neg c]
    split <;> omega
theorem zDq_far {ω : ab_S} {q p : Int} (hJ : zJ ω) (hq : zSt ω q) (hp : zSt ω p) (h2 : ¬ zshp (ω 30) p) : ω 28 7 ≤ zD ω q p ↔ ω 28 7 ≤ zDq ω p q := by
  have hT := hJ.1
  have hap := hJ.2.2.2.2.2.2.1
  unfold zDq
  by_cases h1 : zshp (ω 30) q
  · rw [if_pos h1]
    have := zD_far (v := 1000000) hJ hq hp h2 (by
      unfold zDq
      rw [if_pos h1]
      exact Or.inr ⟨by omega, by omega, by omega, by omega⟩)
    omega
  · rw [if_neg h1, ← zD_sym hJ hq hp h1 h2]
theorem zFar_iff {ω : ab_S} {sp pr : Int → Int} {j p : Int} (hJ : zJ ω) (ho : zOk ω sp pr) (hp : zSt ω p) : zFar ω sp j p ↔ ∀ i, 0 ≤ i → i < ω 34 5 → i = j ∨ ω 28 7 ≤ zD ω (sp i) p := by
  unfold zFar
  constructor
  · rintro (z | z)
    · intro i i1 i2
      have := zD_nn hJ (ho i i1 i2).1 hp
      right
      omega
    · exact z
  · intro z
    exact Or.inr z
/-- a row with players on corners is let -/
def zLt (ω : ab_S) (sp : Int → Int) (x y z : Int) : Prop := zFar ω sp x (sp x) ∧ zFar ω sp y (sp y) ∧ (z ≠ -1 → zFar ω sp z (sp z))
set_option maxRecDepth 100000 in
set_option maxHeartbeats 4000000 in
theorem y_isRowLet {ω τ : ab_S} {sp rp : Int → Int} {x y z : Int} {K : ab_V → ab_S → Prop} (hJ : zJ ω) (hK : zK ω) (hL : yLd ω sp rp τ) (ho : zOk ω sp (zpr ω rp)) (hP : zPl ω x y z) (hx : sp x < 100) (hy : sp y < 100) (hz : z ≠ -1 → sp z < 100) (h : ∀ v, (zLt ω sp x y z ∧ v = 1 ∨ ¬ zLt ω sp x y z ∧ v = 0) → K (vI v) τ) : ab_Runs ab_G2 mdX12_isRowLet [vR 0, vI x, vI y, vI z] τ K := by
  refine ab_runs mwX12_isRowLet (by decide +kernel) (Nat.le_of_ble_eq_true rfl) (fun G hG => ?_)
  show G 0 [some (vR 0), some (vI x), some (vI y), some (vI z), none, none] [] _
  have hn := hK.1
  have hse := hL.2.1
  obtain ⟨px, py, pxy, pz⟩ := id hP
  have hzr : -1 ≤ z ∧ z ≤ 4 := by
    rcases pz with e | e <;> omega
  have apf : ∀ s i, (0 ≤ s ∧ s < ω 34 5) → sp s < 100 → (0 ≤ i ∧ i < ω 34 5) → (zAp ω sp s i ↔ ω 28 7 ≤ zD ω (sp i) (sp s)) := by
    intro s i hs hs2 hi
    unfold zAp
    exact (zDq_far hJ (ho i hi.1 hi.2).1 (ho s hs.1 hs.2).1 (fun q => by have := q.1; omega)).symm
  have apf2 : ∀ s i, (0 ≤ s ∧ s < ω 34 5) → sp s < 100 → (0 ≤ i ∧ i < ω 34 5) → sp i < 100 → (zAp ω sp s i ↔ ω 28 7 ≤ zD ω (sp s) (sp i)) := by
    intro s i hs hs2 hi hi2
    unfold zAp zDq
    rw [if_neg (fun q => by have := q.1; omega)]
  have hlt : zLt ω sp x y z ↔ ((zAp ω sp x y ∧ (z ≠ -1 → zAp ω sp x z ∧ zAp ω sp y z)) ∧ ∀ l, 0 ≤ l → l < ω 34 5 → l ≠ x → l ≠ y → l ≠ z → zAp ω sp x l ∧ zAp ω sp y l ∧ (z ≠ -1 → zAp ω sp z l)) := by
    unfold zLt
    rw [zFar_iff hJ ho (ho x px.1 px.2).1, zFar_iff hJ ho (ho y py.1 py.2).1]
    have hzz : z ≠ -1 → (0 ≤ z ∧ z < ω 34 5) ∧ x ≠ z ∧ y ≠ z := fun q => by
      rcases pz with e | e
      · exact absurd e q
      · exact e
    constructor
    · rintro ⟨a1, a2, a3⟩
      refine ⟨⟨?_, fun q => ⟨?_, ?_⟩⟩, fun l l1 l2 l3 l4 l5 => ⟨?_, ?_, fun q => ?_⟩⟩
      · rw [apf x y px hx py]
        rcases a1 y py.1 py.2 with e | e
        · exact absurd e.symm pxy
        · exact e
      · rw [apf x z px hx (hzz q).1]
        rcases a1 z (hzz q).1.1 (hzz q).1.2 with e | e
        · exact absurd e.symm (hzz q).2.1
        · exact e
      · rw [apf y z py hy (hzz q).1]
        rcases a2 z (hzz q).1.1 (hzz q).1.2 with e | e
        · exact absurd e.symm (hzz q).2.2
        · exact e
      · rw [apf x l px hx ⟨l1, l2⟩]
        rcases a1 l l1 l2 with e | e
        · exact absurd e l3
        · exact e
      · rw [apf y l py hy ⟨l1, l2⟩]
        rcases a2 l l1 l2 with e | e
        · exact absurd e l4
        · exact e
      · rw [apf z l (hzz q).1 (hz q) ⟨l1, l2⟩]
        have := a3 q
        rw [zFar_iff hJ ho (ho z (hzz q).1.1 (hzz q).1.2).1] at this
        rcases this l l1 l2 with e | e
        · exact absurd e l5
        · exact e
    · rintro ⟨⟨a1, a2⟩, a3⟩
      refine ⟨fun i i1 i2 => ?_, fun i i1 i2 => ?_, fun q => ?_⟩
      · by_cases e1 : i = x
        · exact Or.inl e1
        · right
          by_cases e2 : i = y
          · rw [e2, ← apf x y px hx py]
            exact a1
          · by_cases e3 : i = z
            · have q : z ≠ -1 := by omega
              rw [e3, ← apf x z px hx (hzz q).1]
              exact (a2 q).1
            · rw [← apf x i px hx ⟨i1, i2⟩]
              exact (a3 i i1 i2 e1 e2 e3).1
      · by_cases e1 : i = y
        · exact Or.inl e1
        · right
          by_cases e2 : i = x
          · rw [e2, ← apf2 x y px hx py hy]
            exact a1
          · by_cases e3 : i = z
            · have q : z ≠ -1 := by omega
              rw [e3, ← apf y z py hy (hzz q).1]
              exact (a2 q).2
            · rw [← apf y i py hy ⟨i1, i2⟩]
              exact (a3 i i1 i2 e2 e1 e3).2.1
      · rw [zFar_iff hJ ho (ho z (hzz q).1.1 (hzz q).1.2).1]
        intro i i1 i2
        by_cases e1 : i = z
        · exact Or.inl e1
        · right
          by_cases e2 : i = x
          · rw [e2, ← apf2 x z px hx (hzz q).1 (hz q)]
            exact (a2 q).1
          · by_cases e3 : i = y
            · rw [e3, ← apf2 y z py hy (hzz q).1 (hz q)]
              exact (a2 q).2
            · rw [← apf z i (hzz q).1 (hz q) ⟨i1, i2⟩]
              exact (a3 i i1 i2 e2 e3 e1).2.2 q
  rw [hlt] at h
  have key : ∀ (k : Nat) (i b : Int), ω 34 5 - i < k → 0 ≤ i → i ≤ ω 34 5 → ((((zAp ω sp x y ∧ (z ≠ -1 → zAp ω sp x z ∧ zAp ω sp y z)) ∧ ∀ l, 0 ≤ l → l < i → l ≠ x → l ≠ y → l ≠ z → zAp ω sp x l ∧ zAp ω sp y l ∧ (z ≠ -1 → zAp ω sp z l)) ∧ b = 1) ∨ (¬ ((zAp ω sp x y ∧ (z ≠ -1 → zAp ω sp x z ∧ zAp ω sp y z)) ∧ ∀ l, 0 ≤ l → l < i → l ≠ x → l ≠ y → l ≠ z → zAp ω sp x l ∧ zAp ω sp y l ∧ (z ≠ -1 → zAp ω sp z l)) ∧ b = 0)) → G 41 [some (vR 0), some (vI x), some (vI y), some (vI z), some (vI b), some (vI i)] [] τ := by
    intro k
    induction k with
    | zero => intro i b h1 h2; omega
    | succ k ih =>
      intro i b h1 h2 h3 hb
      have skip : i < ω 34 5 → (i = x ∨ i = y ∨ i = z) → G 41 [some (vR 0), some (vI x), some (vI y), some (vI z), some (vI b), some (vI (i + 1))] [] τ := by
        intro hi he
        refine ih (i + 1) b (by omega) (by omega) (by omega) ?_
        rcases hb with ⟨⟨b1, b2⟩, b3⟩ | ⟨b1, b3⟩
        · refine Or.inl ⟨⟨b1, fun l l1 l2 l3 l4 l5 => b2 l l1 (by omega) l3 l4 l5⟩, b3⟩
        · exact Or.inr ⟨fun q => b1 ⟨q.1, fun l l1 l2 l3 l4 l5 => q.2 l l1 (by omega) l3 l4 l5⟩, b3⟩
      have bad : i < ω 34 5 → ¬ (((zAp ω sp x y ∧ (z ≠ -1 → zAp ω sp x z ∧ zAp ω sp y z)) ∧ ∀ l, 0 ≤ l → l < i → l ≠ x → l ≠ y → l ≠ z → zAp ω sp x l ∧ zAp ω sp y l ∧ (z ≠ -1 → zAp ω sp z l)) ∧ (i ≠ x → i ≠ y → i ≠ z → zAp ω sp x i ∧ zAp ω sp y i ∧ (z ≠ -1 → zAp ω sp z i))) → G 41 [some (vR 0), some (vI x), some (vI y), some (vI z), some (vI 0), some (vI (i + 1))] [] τ := by
        intro hi hne
        refine ih (i + 1) 0 (by omega) (by omega) (by omega) (Or.inr ⟨fun q => hne ⟨⟨q.1, fun l l1 l2 => q.2 l l1 (by omega)⟩, q.2 i h2 (by omega)⟩, rfl⟩)
      have good : i < ω 34 5 → (((zAp ω sp x y ∧ (z ≠ -1 → zAp ω sp x z ∧ zAp ω sp y z)) ∧ ∀ l, 0 ≤ l → l < i → l ≠ x → l ≠ y → l ≠ z → zAp ω sp x l ∧ zAp ω sp y l ∧ (z ≠ -1 → zAp ω sp z l)) ∧ (i ≠ x → i ≠ y → i ≠ z → zAp ω sp x i ∧ zAp ω sp y i ∧ (z ≠ -1 → zAp ω sp z i))) → G 41 [some (vR 0), some (vI x), some (vI y), some (vI z), some (vI 1), some (vI (i + 1))] [] τ := by
        intro hi hq
        refine ih (i + 1) 1 (by omega) (by omega) (by omega) (Or.inl ⟨⟨hq.1.1, fun l l1 l2 => ?_⟩, rfl⟩)
        by_cases e : l = i
        · rw [e]
          exact hq.2
        · exact hq.1.2 l l1 (by omega)
      apply hG [41] 60
      simp only [cq_lt, cq_le, cq_gt, cq_ge, cq_eq, cq_r1, cq_r2, ab_r32, ab_r64, ab_go, ab_stp, wp_z, ab_in, ab_rok, ab_wsum, ab_prm, ab_ret, ab_sw, ab_cd, ab_tg, ab_cat_i, ab_cat_l, ab_cat_r, ab_cl_n, ab_cl_i, ab_cl_l, ab_cl_r, ab_f2_0, ab_f2_1, ab_f4_0, ab_f4_1, ab_f4_2, ab_f4_3, ab_op_s, ab_b1_s, ab_b2_s, ab_l1_s, ab_l2_s, ab_li_s, ab_o1_s, ab_io_s, ab_lo1_s, ab_iio_s, ab_lio_s, ab_cp5_s, ab_d2_l, ab_d2_i, ab_d2_o, ex_iconst, ex_bipush, ex_sipush, ex_lconst, ex_ldc, ex_ldc_w, ex_ldc2_w, ex_iadd, ex_isub, ex_imul, ex_iand, ex_ior, ex_ixor, ex_ishl, ex_ishr, ex_iushr, ex_idiv, ex_irem, ex_ladd, ex_lsub, ex_lmul, ex_lor, ex_ldiv, ex_lrem, ex_lshl, ex_lcmp, ex_ineg, ex_lneg, ex_i2l, ex_l2i, ex_i2b, ex_dup, ex_pop, ex_dup2, ex_goto, ex_tableswitch, ex_aaload, ex_ireturn, ex_lreturn, ex_return_, List.map_cons, List.map_nil, List.sum_cons, List.sum_nil, List.drop_succ_cons, List.drop_zero, List.take_succ_cons, List.take_zero, List.reverse_cons, List.reverse_nil, List.nil_append, List.cons_append, List.length_cons, List.length_nil, true_and, and_true, cond_false, cond_true, Bool.false_or, Bool.or_false, Bool.or_true, Bool.true_or, true_or, or_true, false_or, or_false, if_true, if_false, reduceIte, ite_true, ite_false, implies_true, true_implies, false_implies, forall_const, not_true_eq_false, not_false_eq_true, Nat.reduceAdd, Nat.reduceMul, Nat.reduceSub, Nat.reduceBEq, Nat.reduceEqDiff, Nat.reduceLeDiff, Nat.reduceLT, Int.reduceAdd, Int.reduceSub, Int.reduceMul, Int.reduceNeg, Int.reduceToNat, Int.reduceLE, Int.reduceLT, Int.reduceEq, Int.reduceNe, Int.reduceNatCast, Nat.add_zero, Nat.zero_add, reduceCtorEq, Int.reduceNatCast', wp_c, wp_g, e2_ifCond, e2_if_icmp, ↓bq_t, ↓bq_f, ab_br, ↓ab_b1_s, ↓ab_b2_s, ↓ab_l1_s, ↓ab_l2_s, ↓ab_li_s, ↓ab_o1_s, ↓ab_io_s, ↓ab_lo1_s, ↓ab_iio_s, ↓ab_lio_s, ↓ab_cp5_s, moX12_isRowLet, dX12_isRowLet_0, dal_0, dX12_isRowLet_1, dil_1, dX12_isRowLet_2, dil_2, dX12_isRowLet_3, dv2_12_442_0, moX12_isApart, dX12_isRowLet_6, dX12_isRowLet_9, dil_3, dX12_isRowLet_10, dX12_isRowLet_13, dX12_isRowLet_14, dX12_isRowLet_15, dX12_isRowLet_16, dX12_isRowLet_19, dX12_isRowLet_22, dX12_isRowLet_23, dX12_isRowLet_24, dX12_isRowLet_25, dX12_isRowLet_28, dX12_isRowLet_31, dX12_isRowLet_32, dX12_isRowLet_35, dX12_isRowLet_36, dis_4, dX12_isRowLet_38, dX12_isRowLet_39, dis_5, dX12_isRowLet_41, dil_5, dX12_isRowLet_43, dX12_isRowLet_44, dg2_12_329_0, dX12_isRowLet_47, dX12_isRowLet_50, dX12_isRowLet_52, dX12_isRowLet_53, dX12_isRowLet_56, dX12_isRowLet_58, dX12_isRowLet_59, dX12_isRowLet_62, dX12_isRowLet_64, dX12_isRowLet_65, dX12_isRowLet_68, dX12_isRowLet_71, dil_4, dX12_isRowLet_73, dX12_isRowLet_76, dX12_isRowLet_77, dX12_isRowLet_78, dX12_isRowLet_80, dX12_isRowLet_83, dX12_isRowLet_86, dX12_isRowLet_87, dX12_isRowLet_88, dX12_isRowLet_90, dX12_isRowLet_93, dX12_isRowLet_96, dX12_isRowLet_97, dX12_isRowLet_100, dX12_isRowLet_101, dX12_isRowLet_102, dX12_isRowLet_104, dX12_isRowLet_107, dX12_isRowLet_110, dX12_isRowLet_111, dX12_isRowLet_114, dX12_isRowLet_115, dX12_isRowLet_117, dinc_5, dX12_isRowLet_120, dX12_isRowLet_123, dX12_isRowLet_125, hse]
      repeat' (with_reducible (first | apply And.intro | intro _))
      all_goals first | omega | exact skip (by omega) (by omega) | skip
      · rename_i q1
        have e : i = ω 34 5 := by omega
        rw [e] at hb
        exact h b hb
      · rename_i q1 q2 q3 q4 q5
        refine bad (by omega) (fun q => ?_)
        rcases hb with ⟨-, y⟩ | ⟨y, -⟩
        · omega
        · exact y q.1
      · rename_i q1 q2 q3 q4 q5
        have hb1 : (zAp ω sp x y ∧ (z ≠ -1 → zAp ω sp x z ∧ zAp ω sp y z)) ∧ ∀ l, 0 ≤ l → l < i → l ≠ x → l ≠ y → l ≠ z → zAp ω sp x l ∧ zAp ω sp y l ∧ (z ≠ -1 → zAp ω sp z l) := by
          rcases hb with ⟨y, -⟩ | ⟨-, y⟩
          · exact y
          · exact absurd y q5
        refine y_isApart hJ hK hL ho px ⟨h2, by omega⟩ (fun v hv => ?_)
        try simp only [cq_lt, cq_le, cq_gt, cq_ge, cq_eq, cq_r1, cq_r2, ab_r32, ab_r64, ab_go, ab_stp, wp_z, ab_in, ab_rok, ab_wsum, ab_prm, ab_ret, ab_sw, ab_cd, ab_tg, ab_cat_i, ab_cat_l, ab_cat_r, ab_cl_n, ab_cl_i, ab_cl_l, ab_cl_r, ab_f2_0, ab_f2_1, ab_f4_0, ab_f4_1, ab_f4_2, ab_f4_3, ab_op_s, ab_b1_s, ab_b2_s, ab_l1_s, ab_l2_s, ab_li_s, ab_o1_s, ab_io_s, ab_lo1_s, ab_iio_s, ab_lio_s, ab_cp5_s, ab_d2_l, ab_d2_i, ab_d2_o, ex_iconst, ex_bipush, ex_sipush, ex_lconst, ex_ldc, ex_ldc_w, ex_ldc2_w, ex_iadd, ex_isub, ex_imul, ex_iand, ex_ior, ex_ixor, ex_ishl, ex_ishr, ex_iushr, ex_idiv, ex_irem, ex_ladd, ex_lsub, ex_lmul, ex_lor, ex_ldiv, ex_lrem, ex_lshl, ex_lcmp, ex_ineg, ex_lneg, ex_i2l, ex_l2i, ex_i2b, ex_dup, ex_pop, ex_dup2, ex_goto, ex_tableswitch, ex_aaload, ex_ireturn, ex_lreturn, ex_return_, List.map_cons, List.map_nil, List.sum_cons, List.sum_nil, List.drop_succ_cons, List.drop_zero, List.take_succ_cons, List.take_zero, List.reverse_cons, List.reverse_nil, List.nil_append, List.cons_append, List.length_cons, List.length_nil, true_and, and_true, cond_false, cond_true, Bool.false_or, Bool.or_false, Bool.or_true, Bool.true_or, true_or, or_true, false_or, or_false, if_true, if_false, reduceIte, ite_true, ite_false, implies_true, true_implies, false_implies, forall_const, not_true_eq_false, not_false_eq_true, Nat.reduceAdd, Nat.reduceMul, Nat.reduceSub, Nat.reduceBEq, Nat.reduceEqDiff, Nat.reduceLeDiff, Nat.reduceLT, Int.reduceAdd, Int.reduceSub, Int.reduceMul, Int.reduceNeg, Int.reduceToNat, Int.reduceLE, Int.reduceLT, Int.reduceEq, Int.reduceNe, Int.reduceNatCast, Nat.add_zero, Nat.zero_add, reduceCtorEq, Int.reduceNatCast', wp_c, wp_g, e2_ifCond, e2_if_icmp, ↓bq_t, ↓bq_f, ab_br, ↓ab_b1_s, ↓ab_b2_s, ↓ab_l1_s, ↓ab_l2_s, ↓ab_li_s, ↓ab_o1_s, ↓ab_io_s, ↓ab_lo1_s, ↓ab_iio_s, ↓ab_lio_s, ↓ab_cp5_s, moX12_isRowLet, dX12_isRowLet_0, dal_0, dX12_isRowLet_1, dil_1, dX12_isRowLet_2, dil_2, dX12_isRowLet_3, dv2_12_442_0, moX12_isApart, dX12_isRowLet_6, dX12_isRowLet_9, dil_3, dX12_isRowLet_10, dX12_isRowLet_13, dX12_isRowLet_14, dX12_isRowLet_15, dX12_isRowLet_16, dX12_isRowLet_19, dX12_isRowLet_22, dX12_isRowLet_23, dX12_isRowLet_24, dX12_isRowLet_25, dX12_isRowLet_28, dX12_isRowLet_31, dX12_isRowLet_32, dX12_isRowLet_35, dX12_isRowLet_36, dis_4, dX12_isRowLet_38, dX12_isRowLet_39, dis_5, dX12_isRowLet_41, dil_5, dX12_isRowLet_43, dX12_isRowLet_44, dg2_12_329_0, dX12_isRowLet_47, dX12_isRowLet_50, dX12_isRowLet_52, dX12_isRowLet_53, dX12_isRowLet_56, dX12_isRowLet_58, dX12_isRowLet_59, dX12_isRowLet_62, dX12_isRowLet_64, dX12_isRowLet_65, dX12_isRowLet_68, dX12_isRowLet_71, dil_4, dX12_isRowLet_73, dX12_isRowLet_76, dX12_isRowLet_77, dX12_isRowLet_78, dX12_isRowLet_80, dX12_isRowLet_83, dX12_isRowLet_86, dX12_isRowLet_87, dX12_isRowLet_88, dX12_isRowLet_90, dX12_isRowLet_93, dX12_isRowLet_96, dX12_isRowLet_97, dX12_isRowLet_100, dX12_isRowLet_101, dX12_isRowLet_102, dX12_isRowLet_104, dX12_isRowLet_107, dX12_isRowLet_110, dX12_isRowLet_111, dX12_isRowLet_114, dX12_isRowLet_115, dX12_isRowLet_117, dinc_5, dX12_isRowLet_120, dX12_isRowLet_123, dX12_isRowLet_125]
        repeat' (with_reducible (first | apply And.intro | intro _))
        all_goals first | omega | skip
        · rename_i q6
          refine bad (by omega) (fun q => ?_)
          rcases hv with ⟨-, y⟩ | ⟨y, -⟩
          · omega
          · exact y (q.2 q2 q3 q4).1
        · rename_i q6
          have hv1 : zAp ω sp x i := by
            rcases hv with ⟨y, -⟩ | ⟨-, y⟩
            · exact y
            · exact absurd y q6
          refine y_isApart hJ hK hL ho py ⟨h2, by omega⟩ (fun w hw => ?_)
          try simp only [cq_lt, cq_le, cq_gt, cq_ge, cq_eq, cq_r1, cq_r2, ab_r32, ab_r64, ab_go, ab_stp, wp_z, ab_in, ab_rok, ab_wsum, ab_prm, ab_ret, ab_sw, ab_cd, ab_tg, ab_cat_i, ab_cat_l, ab_cat_r, ab_cl_n, ab_cl_i, ab_cl_l, ab_cl_r, ab_f2_0, ab_f2_1, ab_f4_0, ab_f4_1, ab_f4_2, ab_f4_3, ab_op_s, ab_b1_s, ab_b2_s, ab_l1_s, ab_l2_s, ab_li_s, ab_o1_s, ab_io_s, ab_lo1_s, ab_iio_s, ab_lio_s, ab_cp5_s, ab_d2_l, ab_d2_i, ab_d2_o, ex_iconst, ex_bipush, ex_sipush, ex_lconst, ex_ldc, ex_ldc_w, ex_ldc2_w, ex_iadd, ex_isub, ex_imul, ex_iand, ex_ior, ex_ixor, ex_ishl, ex_ishr, ex_iushr, ex_idiv, ex_irem, ex_ladd, ex_lsub, ex_lmul, ex_lor, ex_ldiv, ex_lrem, ex_lshl, ex_lcmp, ex_ineg, ex_lneg, ex_i2l, ex_l2i, ex_i2b, ex_dup, ex_pop, ex_dup2, ex_goto, ex_tableswitch, ex_aaload, ex_ireturn, ex_lreturn, ex_return_, List.map_cons, List.map_nil, List.sum_cons, List.sum_nil, List.drop_succ_cons, List.drop_zero, List.take_succ_cons, List.take_zero, List.reverse_cons, List.reverse_nil, List.nil_append, List.cons_append, List.length_cons, List.length_nil, true_and, and_true, cond_false, cond_true, Bool.false_or, Bool.or_false, Bool.or_true, Bool.true_or, true_or, or_true, false_or, or_false, if_true, if_false, reduceIte, ite_true, ite_false, implies_true, true_implies, false_implies, forall_const, not_true_eq_false, not_false_eq_true, Nat.reduceAdd, Nat.reduceMul, Nat.reduceSub, Nat.reduceBEq, Nat.reduceEqDiff, Nat.reduceLeDiff, Nat.reduceLT, Int.reduceAdd, Int.reduceSub, Int.reduceMul, Int.reduceNeg, Int.reduceToNat, Int.reduceLE, Int.reduceLT, Int.reduceEq, Int.reduceNe, Int.reduceNatCast, Nat.add_zero, Nat.zero_add, reduceCtorEq, Int.reduceNatCast', wp_c, wp_g, e2_ifCond, e2_if_icmp, ↓bq_t, ↓bq_f, ab_br, ↓ab_b1_s, ↓ab_b2_s, ↓ab_l1_s, ↓ab_l2_s, ↓ab_li_s, ↓ab_o1_s, ↓ab_io_s, ↓ab_lo1_s, ↓ab_iio_s, ↓ab_lio_s, ↓ab_cp5_s, moX12_isRowLet, dX12_isRowLet_0, dal_0, dX12_isRowLet_1, dil_1, dX12_isRowLet_2, dil_2, dX12_isRowLet_3, dv2_12_442_0, moX12_isApart, dX12_isRowLet_6, dX12_isRowLet_9, dil_3, dX12_isRowLet_10, dX12_isRowLet_13, dX12_isRowLet_14, dX12_isRowLet_15, dX12_isRowLet_16, dX12_isRowLet_19, dX12_isRowLet_22, dX12_isRowLet_23, dX12_isRowLet_24, dX12_isRowLet_25, dX12_isRowLet_28, dX12_isRowLet_31, dX12_isRowLet_32, dX12_isRowLet_35, dX12_isRowLet_36, dis_4, dX12_isRowLet_38, dX12_isRowLet_39, dis_5, dX12_isRowLet_41, dil_5, dX12_isRowLet_43, dX12_isRowLet_44, dg2_12_329_0, dX12_isRowLet_47, dX12_isRowLet_50, dX12_isRowLet_52, dX12_isRowLet_53, dX12_isRowLet_56, dX12_isRowLet_58, dX12_isRowLet_59, dX12_isRowLet_62, dX12_isRowLet_64, dX12_isRowLet_65, dX12_isRowLet_68, dX12_isRowLet_71, dil_4, dX12_isRowLet_73, dX12_isRowLet_76, dX12_isRowLet_77, dX12_isRowLet_78, dX12_isRowLet_80, dX12_isRowLet_83, dX12_isRowLet_86, dX12_isRowLet_87, dX12_isRowLet_88, dX12_isRowLet_90, dX12_isRowLet_93, dX12_isRowLet_96, dX12_isRowLet_97, dX12_isRowLet_100, dX12_isRowLet_101, dX12_isRowLet_102, dX12_isRowLet_104, dX12_isRowLet_107, dX12_isRowLet_110, dX12_isRowLet_111, dX12_isRowLet_114, dX12_isRowLet_115, dX12_isRowLet_117, dinc_5, dX12_isRowLet_120, dX12_isRowLet_123, dX12_isRowLet_125]
          repeat' (with_reducible (first | apply And.intro | intro _))
          all_goals first | omega | skip
          · rename_i q7
            refine bad (by omega) (fun q => ?_)
            rcases hw with ⟨-, y⟩ | ⟨y, -⟩
            · omega
            · exact y (q.2 q2 q3 q4).2.1
          · rename_i q7 q8
            have hw1 : zAp ω sp y i := by
              rcases hw with ⟨y, -⟩ | ⟨-, y⟩
              · exact y
              · exact absurd y q7
            exact good (by omega) ⟨hb1, fun _ _ _ => ⟨hv1, hw1, fun q => by omega⟩⟩
          · rename_i q7 q8
            have hw1 : zAp ω sp y i := by
              rcases hw with ⟨y, -⟩ | ⟨-, y⟩
              · exact y
              · exact absurd y q7
            refine y_isApart hJ hK hL ho ⟨by omega, by omega⟩ ⟨h2, by omega⟩ (fun u hu => ?_)
            try simp only [cq_lt, cq_le, cq_gt, cq_ge, cq_eq, cq_r1, cq_r2, ab_r32, ab_r64, ab_go, ab_stp, wp_z, ab_in, ab_rok, ab_wsum, ab_prm, ab_ret, ab_sw, ab_cd, ab_tg, ab_cat_i, ab_cat_l, ab_cat_r, ab_cl_n, ab_cl_i, ab_cl_l, ab_cl_r, ab_f2_0, ab_f2_1, ab_f4_0, ab_f4_1, ab_f4_2, ab_f4_3, ab_op_s, ab_b1_s, ab_b2_s, ab_l1_s, ab_l2_s, ab_li_s, ab_o1_s, ab_io_s, ab_lo1_s, ab_iio_s, ab_lio_s, ab_cp5_s, ab_d2_l, ab_d2_i, ab_d2_o, ex_iconst, ex_bipush, ex_sipush, ex_lconst, ex_ldc, ex_ldc_w, ex_ldc2_w, ex_iadd, ex_isub, ex_imul, ex_iand, ex_ior, ex_ixor, ex_ishl, ex_ishr, ex_iushr, ex_idiv, ex_irem, ex_ladd, ex_lsub, ex_lmul, ex_lor, ex_ldiv, ex_lrem, ex_lshl, ex_lcmp, ex_ineg, ex_lneg, ex_i2l, ex_l2i, ex_i2b, ex_dup, ex_pop, ex_dup2, ex_goto, ex_tableswitch, ex_aaload, ex_ireturn, ex_lreturn, ex_return_, List.map_cons, List.map_nil, List.sum_cons, List.sum_nil, List.drop_succ_cons, List.drop_zero, List.take_succ_cons, List.take_zero, List.reverse_cons, List.reverse_nil, List.nil_append, List.cons_append, List.length_cons, List.length_nil, true_and, and_true, cond_false, cond_true, Bool.false_or, Bool.or_false, Bool.or_true, Bool.true_or, true_or, or_true, false_or, or_false, if_true, if_false, reduceIte, ite_true, ite_false, implies_true, true_implies, false_implies, forall_const, not_true_eq_false, not_false_eq_true, Nat.reduceAdd, Nat.reduceMul, Nat.reduceSub, Nat.reduceBEq, Nat.reduceEqDiff, Nat.reduceLeDiff, Nat.reduceLT, Int.reduceAdd, Int.reduceSub, Int.reduceMul, Int.reduceNeg, Int.reduceToNat, Int.reduceLE, Int.reduceLT, Int.reduceEq, Int.reduceNe, Int.reduceNatCast, Nat.add_zero, Nat.zero_add, reduceCtorEq, Int.reduceNatCast', wp_c, wp_g, e2_ifCond, e2_if_icmp, ↓bq_t, ↓bq_f, ab_br, ↓ab_b1_s, ↓ab_b2_s, ↓ab_l1_s, ↓ab_l2_s, ↓ab_li_s, ↓ab_o1_s, ↓ab_io_s, ↓ab_lo1_s, ↓ab_iio_s, ↓ab_lio_s, ↓ab_cp5_s, moX12_isRowLet, dX12_isRowLet_0, dal_0, dX12_isRowLet_1, dil_1, dX12_isRowLet_2, dil_2, dX12_isRowLet_3, dv2_12_442_0, moX12_isApart, dX12_isRowLet_6, dX12_isRowLet_9, dil_3, dX12_isRowLet_10, dX12_isRowLet_13, dX12_isRowLet_14, dX12_isRowLet_15, dX12_isRowLet_16, dX12_isRowLet_19, dX12_isRowLet_22, dX12_isRowLet_23, dX12_isRowLet_24, dX12_isRowLet_25, dX12_isRowLet_28, dX12_isRowLet_31, dX12_isRowLet_32, dX12_isRowLet_35, dX12_isRowLet_36, dis_4, dX12_isRowLet_38, dX12_isRowLet_39, dis_5, dX12_isRowLet_41, dil_5, dX12_isRowLet_43, dX12_isRowLet_44, dg2_12_329_0, dX12_isRowLet_47, dX12_isRowLet_50, dX12_isRowLet_52, dX12_isRowLet_53, dX12_isRowLet_56, dX12_isRowLet_58, dX12_isRowLet_59, dX12_isRowLet_62, dX12_isRowLet_64, dX12_isRowLet_65, dX12_isRowLet_68, dX12_isRowLet_71, dil_4, dX12_isRowLet_73, dX12_isRowLet_76, dX12_isRowLet_77, dX12_isRowLet_78, dX12_isRowLet_80, dX12_isRowLet_83, dX12_isRowLet_86, dX12_isRowLet_87, dX12_isRowLet_88, dX12_isRowLet_90, dX12_isRowLet_93, dX12_isRowLet_96, dX12_isRowLet_97, dX12_isRowLet_100, dX12_isRowLet_101, dX12_isRowLet_102, dX12_isRowLet_104, dX12_isRowLet_107, dX12_isRowLet_110, dX12_isRowLet_111, dX12_isRowLet_114, dX12_isRowLet_115, dX12_isRowLet_117, dinc_5, dX12_isRowLet_120, dX12_isRowLet_123, dX12_isRowLet_125]
            repeat' (with_reducible (first | apply And.intro | intro _))
            all_goals first | omega | skip
            · rename_i q9
              refine bad (by omega) (fun q => ?_)
              rcases hu with ⟨-, y⟩ | ⟨y, -⟩
              · omega
              · exact y ((q.2 q2 q3 q4).2.2 (by omega))
            · rename_i q9
              refine good (by omega) ⟨hb1, fun _ _ _ => ⟨hv1, hw1, fun q => ?_⟩⟩
              rcases hu with ⟨y, -⟩ | ⟨-, y⟩
              · exact y
              · exact absurd y q9
  have st0 : ¬ (zAp ω sp x y ∧ (z ≠ -1 → zAp ω sp x z ∧ zAp ω sp y z)) → G 41 [some (vR 0), some (vI x), some (vI y), some (vI z), some (vI 0), some (vI 0)] [] τ := fun q => key 5 0 0 (by omega) (by omega) (by omega) (Or.inr ⟨fun z => q z.1, rfl⟩)
  have st1 : (zAp ω sp x y ∧ (z ≠ -1 → zAp ω sp x z ∧ zAp ω sp y z)) → G 41 [some (vR 0), some (vI x), some (vI y), some (vI z), some (vI 1), some (vI 0)] [] τ := fun q => key 5 0 1 (by omega) (by omega) (by omega) (Or.inl ⟨⟨q, fun l l1 l2 => by omega⟩, rfl⟩)
  apply hG [41] 60
  simp only [cq_lt, cq_le, cq_gt, cq_ge, cq_eq, cq_r1, cq_r2, ab_r32, ab_r64, ab_go, ab_stp, wp_z, ab_in, ab_rok, ab_wsum, ab_prm, ab_ret, ab_sw, ab_cd, ab_tg, ab_cat_i, ab_cat_l, ab_cat_r, ab_cl_n, ab_cl_i, ab_cl_l, ab_cl_r, ab_f2_0, ab_f2_1, ab_f4_0, ab_f4_1, ab_f4_2, ab_f4_3, ab_op_s, ab_b1_s, ab_b2_s, ab_l1_s, ab_l2_s, ab_li_s, ab_o1_s, ab_io_s, ab_lo1_s, ab_iio_s, ab_lio_s, ab_cp5_s, ab_d2_l, ab_d2_i, ab_d2_o, ex_iconst, ex_bipush, ex_sipush, ex_lconst, ex_ldc, ex_ldc_w, ex_ldc2_w, ex_iadd, ex_isub, ex_imul, ex_iand, ex_ior, ex_ixor, ex_ishl, ex_ishr, ex_iushr, ex_idiv, ex_irem, ex_ladd, ex_lsub, ex_lmul, ex_lor, ex_ldiv, ex_lrem, ex_lshl, ex_lcmp, ex_ineg, ex_lneg, ex_i2l, ex_l2i, ex_i2b, ex_dup, ex_pop, ex_dup2, ex_goto, ex_tableswitch, ex_aaload, ex_ireturn, ex_lreturn, ex_return_, List.map_cons, List.map_nil, List.sum_cons, List.sum_nil, List.drop_succ_cons, List.drop_zero, List.take_succ_cons, List.take_zero, List.reverse_cons, List.reverse_nil, List.nil_append, List.cons_append, List.length_cons, List.length_nil, true_and, and_true, cond_false, cond_true, Bool.false_or, Bool.or_false, Bool.or_true, Bool.true_or, true_or, or_true, false_or, or_false, if_true, if_false, reduceIte, ite_true, ite_false, implies_true, true_implies, false_implies, forall_const, not_true_eq_false, not_false_eq_true, Nat.reduceAdd, Nat.reduceMul, Nat.reduceSub, Nat.reduceBEq, Nat.reduceEqDiff, Nat.reduceLeDiff, Nat.reduceLT, Int.reduceAdd, Int.reduceSub, Int.reduceMul, Int.reduceNeg, Int.reduceToNat, Int.reduceLE, Int.reduceLT, Int.reduceEq, Int.reduceNe, Int.reduceNatCast, Nat.add_zero, Nat.zero_add, reduceCtorEq, Int.reduceNatCast', wp_c, wp_g, e2_ifCond, e2_if_icmp, ↓bq_t, ↓bq_f, ab_br, ↓ab_b1_s, ↓ab_b2_s, ↓ab_l1_s, ↓ab_l2_s, ↓ab_li_s, ↓ab_o1_s, ↓ab_io_s, ↓ab_lo1_s, ↓ab_iio_s, ↓ab_lio_s, ↓ab_cp5_s, moX12_isRowLet, dX12_isRowLet_0, dal_0, dX12_isRowLet_1, dil_1, dX12_isRowLet_2, dil_2, dX12_isRowLet_3, dv2_12_442_0, moX12_isApart, dX12_isRowLet_6, dX12_isRowLet_9, dil_3, dX12_isRowLet_10, dX12_isRowLet_13, dX12_isRowLet_14, dX12_isRowLet_15, dX12_isRowLet_16, dX12_isRowLet_19, dX12_isRowLet_22, dX12_isRowLet_23, dX12_isRowLet_24, dX12_isRowLet_25, dX12_isRowLet_28, dX12_isRowLet_31, dX12_isRowLet_32, dX12_isRowLet_35, dX12_isRowLet_36, dis_4, dX12_isRowLet_38, dX12_isRowLet_39, dis_5, dX12_isRowLet_41, dil_5, dX12_isRowLet_43, dX12_isRowLet_44, dg2_12_329_0, dX12_isRowLet_47, dX12_isRowLet_50, dX12_isRowLet_52, dX12_isRowLet_53, dX12_isRowLet_56, dX12_isRowLet_58, dX12_isRowLet_59, dX12_isRowLet_62, dX12_isRowLet_64, dX12_isRowLet_65, dX12_isRowLet_68, dX12_isRowLet_71, dil_4, dX12_isRowLet_73, dX12_isRowLet_76, dX12_isRowLet_77, dX12_isRowLet_78, dX12_isRowLet_80, dX12_isRowLet_83, dX12_isRowLet_86, dX12_isRowLet_87, dX12_isRowLet_88, dX12_isRowLet_90, dX12_isRowLet_93, dX12_isRowLet_96, dX12_isRowLet_97, dX12_isRowLet_100, dX12_isRowLet_101, dX12_isRowLet_102, dX12_isRowLet_104, dX12_isRowLet_107, dX12_isRowLet_110, dX12_isRowLet_111, dX12_isRowLet_114, dX12_isRowLet_115, dX12_isRowLet_117, dinc_5, dX12_isRowLet_120, dX12_isRowLet_123, dX12_isRowLet_125]
  repeat' (with_reducible (first | apply And.intro | intro _))
  all_goals first | omega | skip
  refine y_isApart hJ hK hL ho px py (fun v hv => ?_)
  try simp only [cq_lt, cq_le, cq_gt, cq_ge, cq_eq, cq_r1, cq_r2, ab_r32, ab_r64, ab_go, ab_stp, wp_z, ab_in, ab_rok, ab_wsum, ab_prm, ab_ret, ab_sw, ab_cd, ab_tg, ab_cat_i, ab_cat_l, ab_cat_r, ab_cl_n, ab_cl_i, ab_cl_l, ab_cl_r, ab_f2_0, ab_f2_1, ab_f4_0, ab_f4_1, ab_f4_2, ab_f4_3, ab_op_s, ab_b1_s, ab_b2_s, ab_l1_s, ab_l2_s, ab_li_s, ab_o1_s, ab_io_s, ab_lo1_s, ab_iio_s, ab_lio_s, ab_cp5_s, ab_d2_l, ab_d2_i, ab_d2_o, ex_iconst, ex_bipush, ex_sipush, ex_lconst, ex_ldc, ex_ldc_w, ex_ldc2_w, ex_iadd, ex_isub, ex_imul, ex_iand, ex_ior, ex_ixor, ex_ishl, ex_ishr, ex_iushr, ex_idiv, ex_irem, ex_ladd, ex_lsub, ex_lmul, ex_lor, ex_ldiv, ex_lrem, ex_lshl, ex_lcmp, ex_ineg, ex_lneg, ex_i2l, ex_l2i, ex_i2b, ex_dup, ex_pop, ex_dup2, ex_goto, ex_tableswitch, ex_aaload, ex_ireturn, ex_lreturn, ex_return_, List.map_cons, List.map_nil, List.sum_cons, List.sum_nil, List.drop_succ_cons, List.drop_zero, List.take_succ_cons, List.take_zero, List.reverse_cons, List.reverse_nil, List.nil_append, List.cons_append, List.length_cons, List.length_nil, true_and, and_true, cond_false, cond_true, Bool.false_or, Bool.or_false, Bool.or_true, Bool.true_or, true_or, or_true, false_or, or_false, if_true, if_false, reduceIte, ite_true, ite_false, implies_true, true_implies, false_implies, forall_const, not_true_eq_false, not_false_eq_true, Nat.reduceAdd, Nat.reduceMul, Nat.reduceSub, Nat.reduceBEq, Nat.reduceEqDiff, Nat.reduceLeDiff, Nat.reduceLT, Int.reduceAdd, Int.reduceSub, Int.reduceMul, Int.reduceNeg, Int.reduceToNat, Int.reduceLE, Int.reduceLT, Int.reduceEq, Int.reduceNe, Int.reduceNatCast, Nat.add_zero, Nat.zero_add, reduceCtorEq, Int.reduceNatCast', wp_c, wp_g, e2_ifCond, e2_if_icmp, ↓bq_t, ↓bq_f, ab_br, ↓ab_b1_s, ↓ab_b2_s, ↓ab_l1_s, ↓ab_l2_s, ↓ab_li_s, ↓ab_o1_s, ↓ab_io_s, ↓ab_lo1_s, ↓ab_iio_s, ↓ab_lio_s, ↓ab_cp5_s, moX12_isRowLet, dX12_isRowLet_0, dal_0, dX12_isRowLet_1, dil_1, dX12_isRowLet_2, dil_2, dX12_isRowLet_3, dv2_12_442_0, moX12_isApart, dX12_isRowLet_6, dX12_isRowLet_9, dil_3, dX12_isRowLet_10, dX12_isRowLet_13, dX12_isRowLet_14, dX12_isRowLet_15, dX12_isRowLet_16, dX12_isRowLet_19, dX12_isRowLet_22, dX12_isRowLet_23, dX12_isRowLet_24, dX12_isRowLet_25, dX12_isRowLet_28, dX12_isRowLet_31, dX12_isRowLet_32, dX12_isRowLet_35, dX12_isRowLet_36, dis_4, dX12_isRowLet_38, dX12_isRowLet_39, dis_5, dX12_isRowLet_41, dil_5, dX12_isRowLet_43, dX12_isRowLet_44, dg2_12_329_0, dX12_isRowLet_47, dX12_isRowLet_50, dX12_isRowLet_52, dX12_isRowLet_53, dX12_isRowLet_56, dX12_isRowLet_58, dX12_isRowLet_59, dX12_isRowLet_62, dX12_isRowLet_64, dX12_isRowLet_65, dX12_isRowLet_68, dX12_isRowLet_71, dil_4, dX12_isRowLet_73, dX12_isRowLet_76, dX12_isRowLet_77, dX12_isRowLet_78, dX12_isRowLet_80, dX12_isRowLet_83, dX12_isRowLet_86, dX12_isRowLet_87, dX12_isRowLet_88, dX12_isRowLet_90, dX12_isRowLet_93, dX12_isRowLet_96, dX12_isRowLet_97, dX12_isRowLet_100, dX12_isRowLet_101, dX12_isRowLet_102, dX12_isRowLet_104, dX12_isRowLet_107, dX12_isRowLet_110, dX12_isRowLet_111, dX12_isRowLet_114, dX12_isRowLet_115, dX12_isRowLet_117, dinc_5, dX12_isRowLet_120, dX12_isRowLet_123, dX12_isRowLet_125]
  repeat' (with_reducible (first | apply And.intro | intro _))
  all_goals first | omega | skip
  · rename_i q1
    refine st0 (fun q => ?_)
    rcases hv with ⟨-, y⟩ | ⟨y, -⟩
    · omega
    · exact y q.1
  · rename_i q1 q2
    refine st1 ⟨?_, fun q => by omega⟩
    rcases hv with ⟨y, -⟩ | ⟨-, y⟩
    · exact y
    · exact absurd y q1
  · rename_i q1 q2
    have hv1 : zAp ω sp x y := by
      rcases hv with ⟨y, -⟩ | ⟨-, y⟩
      · exact y
      · exact absurd y q1
    refine y_isApart hJ hK hL ho px ⟨by omega, by omega⟩ (fun w hw => ?_)
    try simp only [cq_lt, cq_le, cq_gt, cq_ge, cq_eq, cq_r1, cq_r2, ab_r32, ab_r64, ab_go, ab_stp, wp_z, ab_in, ab_rok, ab_wsum, ab_prm, ab_ret, ab_sw, ab_cd, ab_tg, ab_cat_i, ab_cat_l, ab_cat_r, ab_cl_n, ab_cl_i, ab_cl_l, ab_cl_r, ab_f2_0, ab_f2_1, ab_f4_0, ab_f4_1, ab_f4_2, ab_f4_3, ab_op_s, ab_b1_s, ab_b2_s, ab_l1_s, ab_l2_s, ab_li_s, ab_o1_s, ab_io_s, ab_lo1_s, ab_iio_s, ab_lio_s, ab_cp5_s, ab_d2_l, ab_d2_i, ab_d2_o, ex_iconst, ex_bipush, ex_sipush, ex_lconst, ex_ldc, ex_ldc_w, ex_ldc2_w, ex_iadd, ex_isub, ex_imul, ex_iand, ex_ior, ex_ixor, ex_ishl, ex_ishr, ex_iushr, ex_idiv, ex_irem, ex_ladd, ex_lsub, ex_lmul, ex_lor, ex_ldiv, ex_lrem, ex_lshl, ex_lcmp, ex_ineg, ex_lneg, ex_i2l, ex_l2i, ex_i2b, ex_dup, ex_pop, ex_dup2, ex_goto, ex_tableswitch, ex_aaload, ex_ireturn, ex_lreturn, ex_return_, List.map_cons, List.map_nil, List.sum_cons, List.sum_nil, List.drop_succ_cons, List.drop_zero, List.take_succ_cons, List.take_zero, List.reverse_cons, List.reverse_nil, List.nil_append, List.cons_append, List.length_cons, List.length_nil, true_and, and_true, cond_false, cond_true, Bool.false_or, Bool.or_false, Bool.or_true, Bool.true_or, true_or, or_true, false_or, or_false, if_true, if_false, reduceIte, ite_true, ite_false, implies_true, true_implies, false_implies, forall_const, not_true_eq_false, not_false_eq_true, Nat.reduceAdd, Nat.reduceMul, Nat.reduceSub, Nat.reduceBEq, Nat.reduceEqDiff, Nat.reduceLeDiff, Nat.reduceLT, Int.reduceAdd, Int.reduceSub, Int.reduceMul, Int.reduceNeg, Int.reduceToNat, Int.reduceLE, Int.reduceLT, Int.reduceEq, Int.reduceNe, Int.reduceNatCast, Nat.add_zero, Nat.zero_add, reduceCtorEq, Int.reduceNatCast', wp_c, wp_g, e2_ifCond, e2_if_icmp, ↓bq_t, ↓bq_f, ab_br, ↓ab_b1_s, ↓ab_b2_s, ↓ab_l1_s, ↓ab_l2_s, ↓ab_li_s, ↓ab_o1_s, ↓ab_io_s, ↓ab_lo1_s, ↓ab_iio_s, ↓ab_lio_s, ↓ab_cp5_s, moX12_isRowLet, dX12_isRowLet_0, dal_0, dX12_isRowLet_1, dil_1, dX12_isRowLet_2, dil_2, dX12_isRowLet_3, dv2_12_442_0, moX12_isApart, dX12_isRowLet_6, dX12_isRowLet_9, dil_3, dX12_isRowLet_10, dX12_isRowLet_13, dX12_isRowLet_14, dX12_isRowLet_15, dX12_isRowLet_16, dX12_isRowLet_19, dX12_isRowLet_22, dX12_isRowLet_23, dX12_isRowLet_24, dX12_isRowLet_25, dX12_isRowLet_28, dX12_isRowLet_31, dX12_isRowLet_32, dX12_isRowLet_35, dX12_isRowLet_36, dis_4, dX12_isRowLet_38, dX12_isRowLet_39, dis_5, dX12_isRowLet_41, dil_5, dX12_isRowLet_43, dX12_isRowLet_44, dg2_12_329_0, dX12_isRowLet_47, dX12_isRowLet_50, dX12_isRowLet_52, dX12_isRowLet_53, dX12_isRowLet_56, dX12_isRowLet_58, dX12_isRowLet_59, dX12_isRowLet_62, dX12_isRowLet_64, dX12_isRowLet_65, dX12_isRowLet_68, dX12_isRowLet_71, dil_4, dX12_isRowLet_73, dX12_isRowLet_76, dX12_isRowLet_77, dX12_isRowLet_78, dX12_isRowLet_80, dX12_isRowLet_83, dX12_isRowLet_86, dX12_isRowLet_87, dX12_isRowLet_88, dX12_isRowLet_90, dX12_isRowLet_93, dX12_isRowLet_96, dX12_isRowLet_97, dX12_isRowLet_100, dX12_isRowLet_101, dX12_isRowLet_102, dX12_isRowLet_104, dX12_isRowLet_107, dX12_isRowLet_110, dX12_isRowLet_111, dX12_isRowLet_114, dX12_isRowLet_115, dX12_isRowLet_117, dinc_5, dX12_isRowLet_120, dX12_isRowLet_123, dX12_isRowLet_125]
    repeat' (with_reducible (first | apply And.intro | intro _))
    all_goals first | omega | skip
    · rename_i q3
      refine st0 (fun q => ?_)
      rcases hw with ⟨-, y⟩ | ⟨y, -⟩
      · omega
      · exact y (q.2 (by omega)).1
    · rename_i q3
      have hw1 : zAp ω sp x z := by
        rcases hw with ⟨y, -⟩ | ⟨-, y⟩
        · exact y
        · exact absurd y q3
      refine y_isApart hJ hK hL ho py ⟨by omega, by omega⟩ (fun u hu => ?_)
      try simp only [cq_lt, cq_le, cq_gt, cq_ge, cq_eq, cq_r1, cq_r2, ab_r32, ab_r64, ab_go, ab_stp, wp_z, ab_in, ab_rok, ab_wsum, ab_prm, ab_ret, ab_sw, ab_cd, ab_tg, ab_cat_i, ab_cat_l, ab_cat_r, ab_cl_n, ab_cl_i, ab_cl_l, ab_cl_r, ab_f2_0, ab_f2_1, ab_f4_0, ab_f4_1, ab_f4_2, ab_f4_3, ab_op_s, ab_b1_s, ab_b2_s, ab_l1_s, ab_l2_s, ab_li_s, ab_o1_s, ab_io_s, ab_lo1_s, ab_iio_s, ab_lio_s, ab_cp5_s, ab_d2_l, ab_d2_i, ab_d2_o, ex_iconst, ex_bipush, ex_sipush, ex_lconst, ex_ldc, ex_ldc_w, ex_ldc2_w, ex_iadd, ex_isub, ex_imul, ex_iand, ex_ior, ex_ixor, ex_ishl, ex_ishr, ex_iushr, ex_idiv, ex_irem, ex_ladd, ex_lsub, ex_lmul, ex_lor, ex_ldiv, ex_lrem, ex_lshl, ex_lcmp, ex_ineg, ex_lneg, ex_i2l, ex_l2i, ex_i2b, ex_dup, ex_pop, ex_dup2, ex_goto, ex_tableswitch, ex_aaload, ex_ireturn, ex_lreturn, ex_return_, List.map_cons, List.map_nil, List.sum_cons, List.sum_nil, List.drop_succ_cons, List.drop_zero, List.take_succ_cons, List.take_zero, List.reverse_cons, List.reverse_nil, List.nil_append, List.cons_append, List.length_cons, List.length_nil, true_and, and_true, cond_false, cond_true, Bool.false_or, Bool.or_false, Bool.or_true, Bool.true_or, true_or, or_true, false_or, or_false, if_true, if_false, reduceIte, ite_true, ite_false, implies_true, true_implies, false_implies, forall_const, not_true_eq_false, not_false_eq_true, Nat.reduceAdd, Nat.reduceMul, Nat.reduceSub, Nat.reduceBEq, Nat.reduceEqDiff, Nat.reduceLeDiff, Nat.reduceLT, Int.reduceAdd, Int.reduceSub, Int.reduceMul, Int.reduceNeg, Int.reduceToNat, Int.reduceLE, Int.reduceLT, Int.reduceEq, Int.reduceNe, Int.reduceNatCast, Nat.add_zero, Nat.zero_add, reduceCtorEq, Int.reduceNatCast', wp_c, wp_g, e2_ifCond, e2_if_icmp, ↓bq_t, ↓bq_f, ab_br, ↓ab_b1_s, ↓ab_b2_s, ↓ab_l1_s, ↓ab_l2_s, ↓ab_li_s, ↓ab_o1_s, ↓ab_io_s, ↓ab_lo1_s, ↓ab_iio_s, ↓ab_lio_s, ↓ab_cp5_s, moX12_isRowLet, dX12_isRowLet_0, dal_0, dX12_isRowLet_1, dil_1, dX12_isRowLet_2, dil_2, dX12_isRowLet_3, dv2_12_442_0, moX12_isApart, dX12_isRowLet_6, dX12_isRowLet_9, dil_3, dX12_isRowLet_10, dX12_isRowLet_13, dX12_isRowLet_14, dX12_isRowLet_15, dX12_isRowLet_16, dX12_isRowLet_19, dX12_isRowLet_22, dX12_isRowLet_23, dX12_isRowLet_24, dX12_isRowLet_25, dX12_isRowLet_28, dX12_isRowLet_31, dX12_isRowLet_32, dX12_isRowLet_35, dX12_isRowLet_36, dis_4, dX12_isRowLet_38, dX12_isRowLet_39, dis_5, dX12_isRowLet_41, dil_5, dX12_isRowLet_43, dX12_isRowLet_44, dg2_12_329_0, dX12_isRowLet_47, dX12_isRowLet_50, dX12_isRowLet_52, dX12_isRowLet_53, dX12_isRowLet_56, dX12_isRowLet_58, dX12_isRowLet_59, dX12_isRowLet_62, dX12_isRowLet_64, dX12_isRowLet_65, dX12_isRowLet_68, dX12_isRowLet_71, dil_4, dX12_isRowLet_73, dX12_isRowLet_76, dX12_isRowLet_77, dX12_isRowLet_78, dX12_isRowLet_80, dX12_isRowLet_83, dX12_isRowLet_86, dX12_isRowLet_87, dX12_isRowLet_88, dX12_isRowLet_90, dX12_isRowLet_93, dX12_isRowLet_96, dX12_isRowLet_97, dX12_isRowLet_100, dX12_isRowLet_101, dX12_isRowLet_102, dX12_isRowLet_104, dX12_isRowLet_107, dX12_isRowLet_110, dX12_isRowLet_111, dX12_isRowLet_114, dX12_isRowLet_115, dX12_isRowLet_117, dinc_5, dX12_isRowLet_120, dX12_isRowLet_123, dX12_isRowLet_125]
      repeat' (with_reducible (first | apply And.intro | intro _))
      all_goals first | omega | skip
      · rename_i q4
        refine st0 (fun q => ?_)
        rcases hu with ⟨-, y⟩ | ⟨y, -⟩
        · omega
        · exact y (q.2 (by omega)).2
      · rename_i q4
        refine st1 ⟨hv1, fun q => ⟨hw1, ?_⟩⟩
        rcases hu with ⟨y, -⟩ | ⟨-, y⟩
        · exact y
        · exact absurd y q4
set_option maxRecDepth 100000 in
set_option maxHeartbeats 4000000 in
theorem y_rowOf {Γ : List ab_O} {τ : ab_S} {a b c : Int} {K : ab_V → ab_S → Prop} (h : K (vI (144 * c + 12 * a + b)) τ) : ab_Runs Γ mdX12_rowOf [vI a, vI b, vI c] τ K := by
  refine ab_runs mwX12_rowOf (by decide +kernel) (Nat.le_of_ble_eq_true rfl) (fun G hG => ?_)
  show G 0 [some (vI a), some (vI b), some (vI c)] [] _
  apply hG [9999] 20
  simp only [cq_lt, cq_le, cq_gt, cq_ge, cq_eq, cq_r1, cq_r2, ab_r32, ab_r64, ab_go, ab_stp, wp_z, ab_in, ab_rok, ab_wsum, ab_prm, ab_ret, ab_sw, ab_cd, ab_tg, ab_cat_i, ab_cat_l, ab_cat_r, ab_cl_n, ab_cl_i, ab_cl_l, ab_cl_r, ab_f2_0, ab_f2_1, ab_f4_0, ab_f4_1, ab_f4_2, ab_f4_3, ab_op_s, ab_b1_s, ab_b2_s, ab_l1_s, ab_l2_s, ab_li_s, ab_o1_s, ab_io_s, ab_lo1_s, ab_iio_s, ab_lio_s, ab_cp5_s, ab_d2_l, ab_d2_i, ab_d2_o, ex_iconst, ex_bipush, ex_sipush, ex_lconst, ex_ldc, ex_ldc_w, ex_ldc2_w, ex_iadd, ex_isub, ex_imul, ex_iand, ex_ior, ex_ixor, ex_ishl, ex_ishr, ex_iushr, ex_idiv, ex_irem, ex_ladd, ex_lsub, ex_lmul, ex_lor, ex_ldiv, ex_lrem, ex_lshl, ex_lcmp, ex_ineg, ex_lneg, ex_i2l, ex_l2i, ex_i2b, ex_dup, ex_pop, ex_dup2, ex_goto, ex_tableswitch, ex_aaload, ex_ireturn, ex_lreturn, ex_return_, List.map_cons, List.map_nil, List.sum_cons, List.sum_nil, List.drop_succ_cons, List.drop_zero, List.take_succ_cons, List.take_zero, List.reverse_cons, List.reverse_nil, List.nil_append, List.cons_append, List.length_cons, List.length_nil, true_and, and_true, cond_false, cond_true, Bool.false_or, Bool.or_false, Bool.or_true, Bool.true_or, true_or, or_true, false_or, or_false, if_true, if_false, reduceIte, ite_true, ite_false, implies_true, true_implies, false_implies, forall_const, not_true_eq_false, not_false_eq_true, Nat.reduceAdd, Nat.reduceMul, Nat.reduceSub, Nat.reduceBEq, Nat.reduceEqDiff, Nat.reduceLeDiff, Nat.reduceLT, Int.reduceAdd, Int.reduceSub, Int.reduceMul, Int.reduceNeg, Int.reduceToNat, Int.reduceLE, Int.reduceLT, Int.reduceEq, Int.reduceNe, Int.reduceNatCast, Nat.add_zero, Nat.zero_add, reduceCtorEq, Int.reduceNatCast', wp_c, wp_g, e2_ifCond, e2_if_icmp, ↓bq_t, ↓bq_f, ab_br, ↓ab_b1_s, ↓ab_b2_s, ↓ab_l1_s, ↓ab_l2_s, ↓ab_li_s, ↓ab_o1_s, ↓ab_io_s, ↓ab_lo1_s, ↓ab_iio_s, ↓ab_lio_s, ↓ab_cp5_s, moX12_rowOf, dX12_rowOf_0, dX12_rowOf_3, dil_2, dX12_rowOf_4, dX12_rowOf_5, dX12_rowOf_7, dil_0, dX12_rowOf_8, dX12_rowOf_9, dX12_rowOf_10, dil_1, dX12_rowOf_11, dX12_rowOf_12]
  exact h
