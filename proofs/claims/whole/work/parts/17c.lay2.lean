-- CLASS: Roads.lay; the ways are steps of a metric
/-- the model's ways before any street -/
def yd0 : Int → Int := fun k => if k / 12 = k % 12 then 0 else 1000000
theorem zdg_at {f : Int → Int} : ∀ {n : Nat}, n ≤ 12 → ∀ a b, 0 ≤ a → a < (n : Int) → 0 ≤ b → b < 12 → zdg (zfill f 144 100000) n (12 * a + b) = if a = b then 0 else 100000
  | 0, _ => fun a b h1 h2 => by omega
  | n + 1, hn => by
    intro a b a1 a2 b1 b2
    rw [zdg]
    unfold zu
    by_cases e : 12 * a + b = 12 * (n : Int) + n
    · rw [if_pos e, if_pos (by omega)]
    · rw [if_neg e]
      by_cases ea : a < (n : Int)
      · exact zdg_at (by omega) a b a1 ea b1 b2
      · have en : a = n := by omega
        have nb : a ≠ b := by omega
        rw [if_neg nb]
        have : ∀ m : Nat, m ≤ n → zdg (zfill f 144 100000) m (12 * a + b) = 100000 := by
          intro m
          induction m with
          | zero =>
            intro _
            show zfill f 144 100000 (12 * a + b) = 100000
            unfold zfill
            rw [if_pos (by omega)]
          | succ m ih =>
            intro hm
            rw [zdg]
            unfold zu
            rw [if_neg (by omega)]
            exact ih (by omega)
        exact this n (Nat.le_refl n)
theorem zNb_0 {f : Int → Int} {n : Int} (hn : 0 ≤ n ∧ n ≤ 12) : zNb n (zdg (zfill f 144 100000) n.toNat) yd0 := by
  have w0 : ∀ k, 0 ≤ k → k < 144 → 0 ≤ zfill f 144 100000 k ∧ zfill f 144 100000 k ≤ 100000 := by
    intro k h1 h2
    unfold zfill
    rw [if_pos ⟨h1, h2⟩]
    omega
  refine ⟨fun a b a1 a2 b1 b2 => ?_, fun a a1 a2 => ?_, zdg_ok w0 _, fun k k1 k2 => ?_⟩
  · rw [zdg_at (by omega) a b a1 (by omega) b1 (by omega), zdg_at (by omega) b a b1 (by omega) a1 (by omega)]
    have e1 : (12 * a + b) / 12 = a := by omega
    have e2 : (12 * a + b) % 12 = b := by omega
    unfold yd0
    rw [e1, e2]
    by_cases e : a = b
    · rw [if_pos e, if_pos e, if_pos e.symm]
      exact ⟨Or.inl (by omega), rfl⟩
    · rw [if_neg e, if_neg e, if_neg (fun z => e z.symm)]
      exact ⟨Or.inr ⟨rfl, rfl⟩, rfl⟩
  · have := zdg_at (f := f) (n := n.toNat) (by omega) a a a1 (by omega) a1 (by omega)
    rw [if_pos rfl, show 12 * a + a = 13 * a by omega] at this
    exact this
  · unfold yd0
    split <;> omega
theorem zWvl_ln {n : Int} {σ : ab_S} (hn : n ≤ 12) (h : zWvl n σ) : zLn σ := by
  obtain ⟨h1, h2, h3⟩ := h
  refine ⟨by omega, fun i i1 i2 => ?_⟩
  obtain ⟨q1, q2, q3⟩ := h3 i i1 i2
  exact ⟨q1, q2, by omega⟩
/-- the model's ways are the class's -/
def yWq (σ : ab_S) (sh wa wb ws : Int → Int) : Prop := (∀ i : Nat, (i : Int) < σ 3 9 → sh i = σ 30 i ∧ wa i = σ 8 i ∧ wb i = σ 9 i ∧ ws i = σ 10 i) ∧ (∀ i : Nat, (i : Int) < σ 28 6 → wa (σ 3 9 + i) = σ 31 i ∧ wb (σ 3 9 + i) = σ 32 i ∧ ((sh (σ 3 9 + i) = 0 ∧ ws (σ 3 9 + i) = σ 33 i ∧ 1 ≤ σ 33 i ∧ σ 33 i ≤ 12) ∨ (sh (σ 3 9 + i) = 1 ∧ σ 33 i = 100000)))
theorem zNb_str {σ : ab_S} {sh wa wb ws : Int → Int} (hT : zTn σ) (hq : yWq σ sh wa wb ws) (m : Nat) (hm : (m : Int) ≤ σ 3 9) : zNb (σ 3 8) (zst (σ 30) (σ 8) (σ 9) (σ 10) (zdg (zfill (σ 29) 144 100000) (σ 3 8).toNat) m) (yst sh wa wb ws yd0 m) := by
  obtain ⟨hC, hS, hs⟩ := hT
  refine zNb_st hC.2 (zNb_0 hC) m (fun i hi => ?_)
  obtain ⟨q1, q2, q3, q4⟩ := hq.1 i (by omega)
  obtain ⟨p1, p2, p3⟩ := hs i (by omega) (by omega)
  exact ⟨q1, q2, q3, q4, p1, p2, p3⟩
theorem zNb_lnk {σ : ab_S} {sh wa wb ws : Int → Int} (hT : zTn σ) (hW : zWvl 12 σ) (hq : yWq σ sh wa wb ws) (m : Nat) (hm : (m : Int) ≤ σ 28 6) : zNb (σ 3 8) (zst zz0 (σ 31) (σ 32) (σ 33) (zst (σ 30) (σ 8) (σ 9) (σ 10) (zdg (zfill (σ 29) 144 100000) (σ 3 8).toNat) (σ 3 9).toNat) m) (yst sh wa wb ws yd0 ((σ 3 9).toNat + m)) := by
  have hC := hT.1
  have hS := hT.2.1
  refine zNb_ln hC.2 (zNb_str hT hq _ (by omega)) m (fun i hi => ?_)
  rw [show (((σ 3 9).toNat : Nat) : Int) = σ 3 9 by omega]
  obtain ⟨q1, q2, q3⟩ := hq.2 i (by omega)
  obtain ⟨p1, p2, -⟩ := hW.2.2 i (by omega) (by omega)
  exact ⟨q1, q2, p1, p2, q3⟩
theorem zNb_all {σ : ab_S} {sh wa wb ws : Int → Int} (hT : zTn σ) (hW : zWvl 12 σ) (hq : yWq σ sh wa wb ws) : zNb (σ 3 8) (znb σ) (yst sh wa wb ws yd0 ((σ 3 9).toNat + (σ 28 6).toNat)) := zNb_lnk hT hW hq _ (by have := hW.2.1; omega)
/-- there are such ways -/
theorem yWq_ex {σ : ab_S} (hT : zTn σ) (hW : zWvl 12 σ) : yWq σ (fun i => if i < σ 3 9 then σ 30 i else if σ 33 (i - σ 3 9) = 100000 then 1 else 0) (fun i => if i < σ 3 9 then σ 8 i else σ 31 (i - σ 3 9)) (fun i => if i < σ 3 9 then σ 9 i else σ 32 (i - σ 3 9)) (fun i => if i < σ 3 9 then σ 10 i else σ 33 (i - σ 3 9)) := by
  refine ⟨fun i hi => ?_, fun i hi => ?_⟩
  · dsimp only
    rw [if_pos hi, if_pos hi, if_pos hi, if_pos hi]
    exact ⟨rfl, rfl, rfl, rfl⟩
  · dsimp only
    obtain ⟨-, -, p⟩ := hW.2.2 i (by omega) hi
    have hlt : ¬ (σ 3 9 + (i : Int) < σ 3 9) := by omega
    have he : σ 3 9 + (i : Int) - σ 3 9 = i := by omega
    simp only [if_neg hlt, he]
    refine ⟨trivial, trivial, ?_⟩
    rcases p with p | p
    · left
      rw [if_neg (by omega)]
      exact ⟨rfl, trivial, p⟩
    · right
      rw [if_pos p]
      exact ⟨rfl, p⟩
theorem zst_bd {σ : ab_S} (hT : zTn σ) (hW : zWvl 12 σ) {s : Int} (hs : 0 ≤ s ∧ s < σ 3 9) (h0 : σ 30 s = 0) : znb σ (12 * σ 8 s + σ 9 s) ≤ σ 10 s := by
  have hq := yWq_ex hT hW
  have hC := hT.1
  have hS := hT.2.1
  have hSs := hT.2.2
  have qs := hSs s hs.1 hs.2
  have sym : ∀ {w u : Int → Int}, zNb (σ 3 8) w u → ∀ a b, (0 ≤ a ∧ a < σ 3 8) → (0 ≤ b ∧ b < σ 3 8) → w (12 * b + a) = w (12 * a + b) := fun h a b ha hb => (h.1 a b ha.1 ha.2 hb.1 hb.2).2.symm
  have st : ∀ m : Nat, (m : Int) ≤ σ 3 9 → s < m → zst (σ 30) (σ 8) (σ 9) (σ 10) (zdg (zfill (σ 29) 144 100000) (σ 3 8).toNat) m (12 * σ 8 s + σ 9 s) ≤ σ 10 s := by
    intro m
    induction m with
    | zero => intro _ h; omega
    | succ m ih =>
      intro hm hsm
      have qm := hSs m (by omega) (by omega)
      rw [zst]
      by_cases e : s = m
      · subst e
        rw [if_pos h0]
        exact zjn_at
      · have i1 := ih (by omega) (by omega)
        by_cases e2 : σ 30 m = 0
        · rw [if_pos e2]
          exact Int.le_trans (zjn_le _ (sym (zNb_str hT hq m (by omega)) _ _ qm.1 qm.2.1)) i1
        · rw [if_neg e2]
          exact i1
  have s1 := st (σ 3 9).toNat (by omega) (by omega)
  have hl := hW.2.1
  have ln : ∀ m : Nat, (m : Int) ≤ σ 28 6 → zst zz0 (σ 31) (σ 32) (σ 33) (zst (σ 30) (σ 8) (σ 9) (σ 10) (zdg (zfill (σ 29) 144 100000) (σ 3 8).toNat) (σ 3 9).toNat) m (12 * σ 8 s + σ 9 s) ≤ σ 10 s := by
    intro m
    induction m with
    | zero => intro _; exact s1
    | succ m ih =>
      intro hm
      obtain ⟨p1, p2, -⟩ := hW.2.2 m (by omega) (by omega)
      rw [zst, if_pos (show zz0 (m : Int) = 0 from rfl)]
      exact Int.le_trans (zjn_le _ (sym (zNb_lnk hT hW hq m (by omega)) _ _ p1 p2)) (ih (by omega))
  exact ln (σ 28 6).toNat (by omega)
set_option maxRecDepth 100000 in
set_option maxHeartbeats 4000000 in
theorem r_lay {σ : ab_S} {c : Int} {K : ab_V → ab_S → Prop} (hT : zTn σ) (hn : 0 ≤ σ 21 6 ∧ σ 21 6 ≤ 9) (hc : c = -1 ∨ (0 ≤ c ∧ c < σ 21 6 ∧ zBc σ c)) (h : ∀ σ', zLy σ c σ' → K (vI 0) σ') : ab_Runs ab_G1 mdX7_lay [vR 28, vR 21, vI c] σ K := by
  refine ab_runs mwX7_lay (by decide +kernel) (Nat.le_of_ble_eq_true rfl) (fun G hG => ?_)
  show G 0 [some (vR 28), some (vR 21), some (vI c), none] [] _
  have fin : ∀ (σ1 σ2 : ab_S) (z : Option ab_V), ((c = -1 ∧ zB0 σ 0 (-1) σ1 ∧ σ2 = σ1) ∨ (0 ≤ c ∧ zB0 σ (σ 22 c) (σ 23 c) σ1 ∧ zCg σ1 (12 * c) (σ 24 c).toNat σ1 σ2)) → zWvl 12 σ2 → (∀ o, o ≠ 28 → ¬ (30 ≤ o ∧ o ≤ 33) → σ2 o = σ o) → G 74 [some (vR 28), some (vR 21), some (vI c), z] [] σ2 := by
    intro σ1 σ2 z h1 hw ho
    have e3 : σ2 3 = σ 3 := ho 3 (by decide) (by decide)
    have hT2 : zTn σ2 := by
      unfold zTn
      rw [e3, ho 8 (by decide) (by decide), ho 9 (by decide) (by decide), ho 10 (by decide) (by decide)]
      exact hT
    have hL2 := zWvl_ln (Int.le_refl 12) hw
    apply hG [9999] 60
    simp only [cq_lt, cq_le, cq_gt, cq_ge, cq_eq, cq_r1, cq_r2, ab_r32, ab_r64, ab_go, ab_stp, wp_z, ab_in, ab_rok, ab_wsum, ab_prm, ab_ret, ab_sw, ab_cd, ab_tg, ab_cat_i, ab_cat_l, ab_cat_r, ab_cl_n, ab_cl_i, ab_cl_l, ab_cl_r, ab_f2_0, ab_f2_1, ab_f4_0, ab_f4_1, ab_f4_2, ab_f4_3, ab_op_s, ab_b1_s, ab_b2_s, ab_l1_s, ab_l2_s, ab_li_s, ab_o1_s, ab_io_s, ab_lo1_s, ab_iio_s, ab_lio_s, ab_cp5_s, ab_d2_l, ab_d2_i, ab_d2_o, ex_iconst, ex_bipush, ex_sipush, ex_lconst, ex_ldc, ex_ldc_w, ex_ldc2_w, ex_iadd, ex_isub, ex_imul, ex_iand, ex_ior, ex_ixor, ex_ishl, ex_ishr, ex_iushr, ex_idiv, ex_irem, ex_ladd, ex_lsub, ex_lmul, ex_lor, ex_ldiv, ex_lrem, ex_lshl, ex_lcmp, ex_ineg, ex_lneg, ex_i2l, ex_l2i, ex_i2b, ex_dup, ex_pop, ex_dup2, ex_goto, ex_tableswitch, ex_aaload, ex_ireturn, ex_lreturn, ex_return_, List.map_cons, List.map_nil, List.sum_cons, List.sum_nil, List.drop_succ_cons, List.drop_zero, List.take_succ_cons, List.take_zero, List.reverse_cons, List.reverse_nil, List.nil_append, List.cons_append, List.length_cons, List.length_nil, true_and, and_true, cond_false, cond_true, Bool.false_or, Bool.or_false, Bool.or_true, Bool.true_or, true_or, or_true, false_or, or_false, if_true, if_false, reduceIte, ite_true, ite_false, implies_true, true_implies, false_implies, forall_const, not_true_eq_false, not_false_eq_true, Nat.reduceAdd, Nat.reduceMul, Nat.reduceSub, Nat.reduceBEq, Nat.reduceEqDiff, Nat.reduceLeDiff, Nat.reduceLT, Int.reduceAdd, Int.reduceSub, Int.reduceMul, Int.reduceNeg, Int.reduceToNat, Int.reduceLE, Int.reduceLT, Int.reduceEq, Int.reduceNe, Int.reduceNatCast, Nat.add_zero, Nat.zero_add, reduceCtorEq, Int.reduceNatCast', wp_c, wp_g, e2_ifCond, e2_if_icmp, ↓bq_t, ↓bq_f, ab_br, ↓ab_b1_s, ↓ab_b2_s, ↓ab_l1_s, ↓ab_l2_s, ↓ab_li_s, ↓ab_o1_s, ↓ab_io_s, ↓ab_lo1_s, ↓ab_iio_s, ↓ab_lio_s, ↓ab_cp5_s, moX7_lay, dX7_lay_0, dX7_lay_1, dis_3, dX7_lay_2, dil_3, dX7_lay_3, dX7_lay_5, dX7_lay_8, dal_0, dX7_lay_9, dg1_7_15_28, dX7_lay_12, dX7_lay_13, dX7_lay_14, dX7_lay_15, dinc_3, dX7_lay_18, dX7_lay_21, dX7_lay_22, dX7_lay_23, dp1_7_28_28, dX7_lay_26, dX7_lay_27, dX7_lay_28, dp1_7_32_28, dX7_lay_31, dX7_lay_32, dX7_lay_33, dp1_7_35_28, dX7_lay_36, dil_2, dX7_lay_37, dX7_lay_40, dX7_lay_41, dal_1, dX7_lay_42, dg1_7_42_21, dX7_lay_45, dX7_lay_48, dX7_lay_49, dX7_lay_50, dg1_7_47_21, dX7_lay_53, dX7_lay_54, dX7_lay_55, dX7_lay_58, dX7_lay_59, dX7_lay_60, dg1_7_49_21, dX7_lay_63, dX7_lay_64, dX7_lay_65, dX7_lay_68, dX7_lay_69, dX7_lay_70, dX7_lay_71, dv1_7_51_28, moX7_change, dX7_lay_74, dX7_lay_75, dv1_7_55_28, moX7_joinNeighbours, dX7_lay_78, dX7_lay_79, dv1_7_58_28, moX7_joinAll, dX7_lay_82, dal1_22, das1_22, dal1_23, das1_23, dal1_30, das1_30]
    repeat' (with_reducible (first | apply And.intro | intro _))
    all_goals first | omega | skip
    refine r_joinN hT2 hL2 hw.1 ?_
    try simp only [cq_lt, cq_le, cq_gt, cq_ge, cq_eq, cq_r1, cq_r2, ab_r32, ab_r64, ab_go, ab_stp, wp_z, ab_in, ab_rok, ab_wsum, ab_prm, ab_ret, ab_sw, ab_cd, ab_tg, ab_cat_i, ab_cat_l, ab_cat_r, ab_cl_n, ab_cl_i, ab_cl_l, ab_cl_r, ab_f2_0, ab_f2_1, ab_f4_0, ab_f4_1, ab_f4_2, ab_f4_3, ab_op_s, ab_b1_s, ab_b2_s, ab_l1_s, ab_l2_s, ab_li_s, ab_o1_s, ab_io_s, ab_lo1_s, ab_iio_s, ab_lio_s, ab_cp5_s, ab_d2_l, ab_d2_i, ab_d2_o, ex_iconst, ex_bipush, ex_sipush, ex_lconst, ex_ldc, ex_ldc_w, ex_ldc2_w, ex_iadd, ex_isub, ex_imul, ex_iand, ex_ior, ex_ixor, ex_ishl, ex_ishr, ex_iushr, ex_idiv, ex_irem, ex_ladd, ex_lsub, ex_lmul, ex_lor, ex_ldiv, ex_lrem, ex_lshl, ex_lcmp, ex_ineg, ex_lneg, ex_i2l, ex_l2i, ex_i2b, ex_dup, ex_pop, ex_dup2, ex_goto, ex_tableswitch, ex_aaload, ex_ireturn, ex_lreturn, ex_return_, List.map_cons, List.map_nil, List.sum_cons, List.sum_nil, List.drop_succ_cons, List.drop_zero, List.take_succ_cons, List.take_zero, List.reverse_cons, List.reverse_nil, List.nil_append, List.cons_append, List.length_cons, List.length_nil, true_and, and_true, cond_false, cond_true, Bool.false_or, Bool.or_false, Bool.or_true, Bool.true_or, true_or, or_true, false_or, or_false, if_true, if_false, reduceIte, ite_true, ite_false, implies_true, true_implies, false_implies, forall_const, not_true_eq_false, not_false_eq_true, Nat.reduceAdd, Nat.reduceMul, Nat.reduceSub, Nat.reduceBEq, Nat.reduceEqDiff, Nat.reduceLeDiff, Nat.reduceLT, Int.reduceAdd, Int.reduceSub, Int.reduceMul, Int.reduceNeg, Int.reduceToNat, Int.reduceLE, Int.reduceLT, Int.reduceEq, Int.reduceNe, Int.reduceNatCast, Nat.add_zero, Nat.zero_add, reduceCtorEq, Int.reduceNatCast', wp_c, wp_g, e2_ifCond, e2_if_icmp, ↓bq_t, ↓bq_f, ab_br, ↓ab_b1_s, ↓ab_b2_s, ↓ab_l1_s, ↓ab_l2_s, ↓ab_li_s, ↓ab_o1_s, ↓ab_io_s, ↓ab_lo1_s, ↓ab_iio_s, ↓ab_lio_s, ↓ab_cp5_s, moX7_lay, dX7_lay_0, dX7_lay_1, dis_3, dX7_lay_2, dil_3, dX7_lay_3, dX7_lay_5, dX7_lay_8, dal_0, dX7_lay_9, dg1_7_15_28, dX7_lay_12, dX7_lay_13, dX7_lay_14, dX7_lay_15, dinc_3, dX7_lay_18, dX7_lay_21, dX7_lay_22, dX7_lay_23, dp1_7_28_28, dX7_lay_26, dX7_lay_27, dX7_lay_28, dp1_7_32_28, dX7_lay_31, dX7_lay_32, dX7_lay_33, dp1_7_35_28, dX7_lay_36, dil_2, dX7_lay_37, dX7_lay_40, dX7_lay_41, dal_1, dX7_lay_42, dg1_7_42_21, dX7_lay_45, dX7_lay_48, dX7_lay_49, dX7_lay_50, dg1_7_47_21, dX7_lay_53, dX7_lay_54, dX7_lay_55, dX7_lay_58, dX7_lay_59, dX7_lay_60, dg1_7_49_21, dX7_lay_63, dX7_lay_64, dX7_lay_65, dX7_lay_68, dX7_lay_69, dX7_lay_70, dX7_lay_71, dv1_7_51_28, moX7_change, dX7_lay_74, dX7_lay_75, dv1_7_55_28, moX7_joinNeighbours, dX7_lay_78, dX7_lay_79, dv1_7_58_28, moX7_joinAll, dX7_lay_82, dal1_22, das1_22, dal1_23, das1_23, dal1_30, das1_30]
    repeat' (with_reducible (first | apply And.intro | intro _))
    all_goals first | omega | skip
    have nb := zNb_all hT2 hw (yWq_ex hT2 hw)
    refine r_joinAll (σ := ab_set σ2 29 (znb σ2)) hT2.1.1 hT2.1.2 (znb_in hT2 hL2) (fun i i1 i2 => nb.2.1 i i1 i2) ?_
    try simp only [cq_lt, cq_le, cq_gt, cq_ge, cq_eq, cq_r1, cq_r2, ab_r32, ab_r64, ab_go, ab_stp, wp_z, ab_in, ab_rok, ab_wsum, ab_prm, ab_ret, ab_sw, ab_cd, ab_tg, ab_cat_i, ab_cat_l, ab_cat_r, ab_cl_n, ab_cl_i, ab_cl_l, ab_cl_r, ab_f2_0, ab_f2_1, ab_f4_0, ab_f4_1, ab_f4_2, ab_f4_3, ab_op_s, ab_b1_s, ab_b2_s, ab_l1_s, ab_l2_s, ab_li_s, ab_o1_s, ab_io_s, ab_lo1_s, ab_iio_s, ab_lio_s, ab_cp5_s, ab_d2_l, ab_d2_i, ab_d2_o, ex_iconst, ex_bipush, ex_sipush, ex_lconst, ex_ldc, ex_ldc_w, ex_ldc2_w, ex_iadd, ex_isub, ex_imul, ex_iand, ex_ior, ex_ixor, ex_ishl, ex_ishr, ex_iushr, ex_idiv, ex_irem, ex_ladd, ex_lsub, ex_lmul, ex_lor, ex_ldiv, ex_lrem, ex_lshl, ex_lcmp, ex_ineg, ex_lneg, ex_i2l, ex_l2i, ex_i2b, ex_dup, ex_pop, ex_dup2, ex_goto, ex_tableswitch, ex_aaload, ex_ireturn, ex_lreturn, ex_return_, List.map_cons, List.map_nil, List.sum_cons, List.sum_nil, List.drop_succ_cons, List.drop_zero, List.take_succ_cons, List.take_zero, List.reverse_cons, List.reverse_nil, List.nil_append, List.cons_append, List.length_cons, List.length_nil, true_and, and_true, cond_false, cond_true, Bool.false_or, Bool.or_false, Bool.or_true, Bool.true_or, true_or, or_true, false_or, or_false, if_true, if_false, reduceIte, ite_true, ite_false, implies_true, true_implies, false_implies, forall_const, not_true_eq_false, not_false_eq_true, Nat.reduceAdd, Nat.reduceMul, Nat.reduceSub, Nat.reduceBEq, Nat.reduceEqDiff, Nat.reduceLeDiff, Nat.reduceLT, Int.reduceAdd, Int.reduceSub, Int.reduceMul, Int.reduceNeg, Int.reduceToNat, Int.reduceLE, Int.reduceLT, Int.reduceEq, Int.reduceNe, Int.reduceNatCast, Nat.add_zero, Nat.zero_add, reduceCtorEq, Int.reduceNatCast', wp_c, wp_g, e2_ifCond, e2_if_icmp, ↓bq_t, ↓bq_f, ab_br, ↓ab_b1_s, ↓ab_b2_s, ↓ab_l1_s, ↓ab_l2_s, ↓ab_li_s, ↓ab_o1_s, ↓ab_io_s, ↓ab_lo1_s, ↓ab_iio_s, ↓ab_lio_s, ↓ab_cp5_s, moX7_lay, dX7_lay_0, dX7_lay_1, dis_3, dX7_lay_2, dil_3, dX7_lay_3, dX7_lay_5, dX7_lay_8, dal_0, dX7_lay_9, dg1_7_15_28, dX7_lay_12, dX7_lay_13, dX7_lay_14, dX7_lay_15, dinc_3, dX7_lay_18, dX7_lay_21, dX7_lay_22, dX7_lay_23, dp1_7_28_28, dX7_lay_26, dX7_lay_27, dX7_lay_28, dp1_7_32_28, dX7_lay_31, dX7_lay_32, dX7_lay_33, dp1_7_35_28, dX7_lay_36, dil_2, dX7_lay_37, dX7_lay_40, dX7_lay_41, dal_1, dX7_lay_42, dg1_7_42_21, dX7_lay_45, dX7_lay_48, dX7_lay_49, dX7_lay_50, dg1_7_47_21, dX7_lay_53, dX7_lay_54, dX7_lay_55, dX7_lay_58, dX7_lay_59, dX7_lay_60, dg1_7_49_21, dX7_lay_63, dX7_lay_64, dX7_lay_65, dX7_lay_68, dX7_lay_69, dX7_lay_70, dX7_lay_71, dv1_7_51_28, moX7_change, dX7_lay_74, dX7_lay_75, dv1_7_55_28, moX7_joinNeighbours, dX7_lay_78, dX7_lay_79, dv1_7_58_28, moX7_joinAll, dX7_lay_82, dal1_22, das1_22, dal1_23, das1_23, dal1_30, das1_30]
    refine h _ ⟨σ1, σ2, h1, hw, ?_⟩
    rw [ab_set_set]
    show ab_set σ2 29 (zfw (σ2 3 8) (znb σ2) (σ2 3 8).toNat) = _
    rw [e3]
  have key : ∀ (k : Nat) (s : Int) (σ1 : ab_S), 16 - s < k → 0 ≤ s → s ≤ 16 → (∀ o, o ≠ 30 → σ1 o = σ o) → (∀ t, 0 ≤ t → t < s → σ1 30 t = 0) → G 2 [some (vR 28), some (vR 21), some (vI c), some (vI s)] [] σ1 := by
    intro k
    induction k with
    | zero => intro s σ1 h1 h2; omega
    | succ k ih =>
      intro s σ1 h1 h2 h3 ho hz
      apply hG [2, 21] 60
      simp only [cq_lt, cq_le, cq_gt, cq_ge, cq_eq, cq_r1, cq_r2, ab_r32, ab_r64, ab_go, ab_stp, wp_z, ab_in, ab_rok, ab_wsum, ab_prm, ab_ret, ab_sw, ab_cd, ab_tg, ab_cat_i, ab_cat_l, ab_cat_r, ab_cl_n, ab_cl_i, ab_cl_l, ab_cl_r, ab_f2_0, ab_f2_1, ab_f4_0, ab_f4_1, ab_f4_2, ab_f4_3, ab_op_s, ab_b1_s, ab_b2_s, ab_l1_s, ab_l2_s, ab_li_s, ab_o1_s, ab_io_s, ab_lo1_s, ab_iio_s, ab_lio_s, ab_cp5_s, ab_d2_l, ab_d2_i, ab_d2_o, ex_iconst, ex_bipush, ex_sipush, ex_lconst, ex_ldc, ex_ldc_w, ex_ldc2_w, ex_iadd, ex_isub, ex_imul, ex_iand, ex_ior, ex_ixor, ex_ishl, ex_ishr, ex_iushr, ex_idiv, ex_irem, ex_ladd, ex_lsub, ex_lmul, ex_lor, ex_ldiv, ex_lrem, ex_lshl, ex_lcmp, ex_ineg, ex_lneg, ex_i2l, ex_l2i, ex_i2b, ex_dup, ex_pop, ex_dup2, ex_goto, ex_tableswitch, ex_aaload, ex_ireturn, ex_lreturn, ex_return_, List.map_cons, List.map_nil, List.sum_cons, List.sum_nil, List.drop_succ_cons, List.drop_zero, List.take_succ_cons, List.take_zero, List.reverse_cons, List.reverse_nil, List.nil_append, List.cons_append, List.length_cons, List.length_nil, true_and, and_true, cond_false, cond_true, Bool.false_or, Bool.or_false, Bool.or_true, Bool.true_or, true_or, or_true, false_or, or_false, if_true, if_false, reduceIte, ite_true, ite_false, implies_true, true_implies, false_implies, forall_const, not_true_eq_false, not_false_eq_true, Nat.reduceAdd, Nat.reduceMul, Nat.reduceSub, Nat.reduceBEq, Nat.reduceEqDiff, Nat.reduceLeDiff, Nat.reduceLT, Int.reduceAdd, Int.reduceSub, Int.reduceMul, Int.reduceNeg, Int.reduceToNat, Int.reduceLE, Int.reduceLT, Int.reduceEq, Int.reduceNe, Int.reduceNatCast, Nat.add_zero, Nat.zero_add, reduceCtorEq, Int.reduceNatCast', wp_c, wp_g, e2_ifCond, e2_if_icmp, ↓bq_t, ↓bq_f, ab_br, ↓ab_b1_s, ↓ab_b2_s, ↓ab_l1_s, ↓ab_l2_s, ↓ab_li_s, ↓ab_o1_s, ↓ab_io_s, ↓ab_lo1_s, ↓ab_iio_s, ↓ab_lio_s, ↓ab_cp5_s, moX7_lay, dX7_lay_0, dX7_lay_1, dis_3, dX7_lay_2, dil_3, dX7_lay_3, dX7_lay_5, dX7_lay_8, dal_0, dX7_lay_9, dg1_7_15_28, dX7_lay_12, dX7_lay_13, dX7_lay_14, dX7_lay_15, dinc_3, dX7_lay_18, dX7_lay_21, dX7_lay_22, dX7_lay_23, dp1_7_28_28, dX7_lay_26, dX7_lay_27, dX7_lay_28, dp1_7_32_28, dX7_lay_31, dX7_lay_32, dX7_lay_33, dp1_7_35_28, dX7_lay_36, dil_2, dX7_lay_37, dX7_lay_40, dX7_lay_41, dal_1, dX7_lay_42, dg1_7_42_21, dX7_lay_45, dX7_lay_48, dX7_lay_49, dX7_lay_50, dg1_7_47_21, dX7_lay_53, dX7_lay_54, dX7_lay_55, dX7_lay_58, dX7_lay_59, dX7_lay_60, dg1_7_49_21, dX7_lay_63, dX7_lay_64, dX7_lay_65, dX7_lay_68, dX7_lay_69, dX7_lay_70, dX7_lay_71, dv1_7_51_28, moX7_change, dX7_lay_74, dX7_lay_75, dv1_7_55_28, moX7_joinNeighbours, dX7_lay_78, dX7_lay_79, dv1_7_58_28, moX7_joinAll, dX7_lay_82, dal1_22, das1_22, dal1_23, das1_23, dal1_30, das1_30]
      repeat' (with_reducible (first | apply And.intro | intro _))
      all_goals first | omega | skip
      · rename_i w
        have e28 : σ1 28 = σ 28 := ho 28 (by decide)
        have e21 : σ1 21 = σ 21 := ho 21 (by decide)
        have e22 : σ1 22 = σ 22 := ho 22 (by decide)
        have e23 : σ1 23 = σ 23 := ho 23 (by decide)
        have u0 : ∀ (x y z : Int), ab_up (ab_up (ab_up σ1 28 6 x) 28 7 y) 28 8 z 21 = σ 21 := fun _ _ _ => e21
        have u1 : ∀ (x y z : Int), ab_up (ab_up (ab_up σ1 28 6 x) 28 7 y) 28 8 z 22 = σ 22 := fun _ _ _ => e22
        have u2 : ∀ (x y z w : Int), ab_up (ab_up (ab_up (ab_up σ1 28 6 x) 28 7 y) 28 8 z) 28 7 w 23 = σ 23 := fun _ _ _ _ => e23
        have v0 : ∀ (t : ab_S), (∀ o, o ≠ 28 → t o = σ1 o) → t 28 6 = 0 → zWvl 0 t := by
          intro t ht t6
          refine ⟨fun s s1 s2 => ?_, by rw [t6]; omega, fun i i1 i2 => by rw [t6] at i2; omega⟩
          rw [ht 30 (by decide)]
          exact Or.inl (hz s s1 (by omega))
        rcases hc with rfl | ⟨c1, c2, hB⟩
        · apply hG [74] 60
          simp only [cq_lt, cq_le, cq_gt, cq_ge, cq_eq, cq_r1, cq_r2, ab_r32, ab_r64, ab_go, ab_stp, wp_z, ab_in, ab_rok, ab_wsum, ab_prm, ab_ret, ab_sw, ab_cd, ab_tg, ab_cat_i, ab_cat_l, ab_cat_r, ab_cl_n, ab_cl_i, ab_cl_l, ab_cl_r, ab_f2_0, ab_f2_1, ab_f4_0, ab_f4_1, ab_f4_2, ab_f4_3, ab_op_s, ab_b1_s, ab_b2_s, ab_l1_s, ab_l2_s, ab_li_s, ab_o1_s, ab_io_s, ab_lo1_s, ab_iio_s, ab_lio_s, ab_cp5_s, ab_d2_l, ab_d2_i, ab_d2_o, ex_iconst, ex_bipush, ex_sipush, ex_lconst, ex_ldc, ex_ldc_w, ex_ldc2_w, ex_iadd, ex_isub, ex_imul, ex_iand, ex_ior, ex_ixor, ex_ishl, ex_ishr, ex_iushr, ex_idiv, ex_irem, ex_ladd, ex_lsub, ex_lmul, ex_lor, ex_ldiv, ex_lrem, ex_lshl, ex_lcmp, ex_ineg, ex_lneg, ex_i2l, ex_l2i, ex_i2b, ex_dup, ex_pop, ex_dup2, ex_goto, ex_tableswitch, ex_aaload, ex_ireturn, ex_lreturn, ex_return_, List.map_cons, List.map_nil, List.sum_cons, List.sum_nil, List.drop_succ_cons, List.drop_zero, List.take_succ_cons, List.take_zero, List.reverse_cons, List.reverse_nil, List.nil_append, List.cons_append, List.length_cons, List.length_nil, true_and, and_true, cond_false, cond_true, Bool.false_or, Bool.or_false, Bool.or_true, Bool.true_or, true_or, or_true, false_or, or_false, if_true, if_false, reduceIte, ite_true, ite_false, implies_true, true_implies, false_implies, forall_const, not_true_eq_false, not_false_eq_true, Nat.reduceAdd, Nat.reduceMul, Nat.reduceSub, Nat.reduceBEq, Nat.reduceEqDiff, Nat.reduceLeDiff, Nat.reduceLT, Int.reduceAdd, Int.reduceSub, Int.reduceMul, Int.reduceNeg, Int.reduceToNat, Int.reduceLE, Int.reduceLT, Int.reduceEq, Int.reduceNe, Int.reduceNatCast, Nat.add_zero, Nat.zero_add, reduceCtorEq, Int.reduceNatCast', wp_c, wp_g, e2_ifCond, e2_if_icmp, ↓bq_t, ↓bq_f, ab_br, ↓ab_b1_s, ↓ab_b2_s, ↓ab_l1_s, ↓ab_l2_s, ↓ab_li_s, ↓ab_o1_s, ↓ab_io_s, ↓ab_lo1_s, ↓ab_iio_s, ↓ab_lio_s, ↓ab_cp5_s, moX7_lay, dX7_lay_0, dX7_lay_1, dis_3, dX7_lay_2, dil_3, dX7_lay_3, dX7_lay_5, dX7_lay_8, dal_0, dX7_lay_9, dg1_7_15_28, dX7_lay_12, dX7_lay_13, dX7_lay_14, dX7_lay_15, dinc_3, dX7_lay_18, dX7_lay_21, dX7_lay_22, dX7_lay_23, dp1_7_28_28, dX7_lay_26, dX7_lay_27, dX7_lay_28, dp1_7_32_28, dX7_lay_31, dX7_lay_32, dX7_lay_33, dp1_7_35_28, dX7_lay_36, dil_2, dX7_lay_37, dX7_lay_40, dX7_lay_41, dal_1, dX7_lay_42, dg1_7_42_21, dX7_lay_45, dX7_lay_48, dX7_lay_49, dX7_lay_50, dg1_7_47_21, dX7_lay_53, dX7_lay_54, dX7_lay_55, dX7_lay_58, dX7_lay_59, dX7_lay_60, dg1_7_49_21, dX7_lay_63, dX7_lay_64, dX7_lay_65, dX7_lay_68, dX7_lay_69, dX7_lay_70, dX7_lay_71, dv1_7_51_28, moX7_change, dX7_lay_74, dX7_lay_75, dv1_7_55_28, moX7_joinNeighbours, dX7_lay_78, dX7_lay_79, dv1_7_58_28, moX7_joinAll, dX7_lay_82, dal1_22, das1_22, dal1_23, das1_23, dal1_30, das1_30, u0, u1, u2]
          repeat' (with_reducible (first | apply And.intro | intro _))
          all_goals first | omega | skip
          refine fin (ab_up (ab_up (ab_up σ1 28 6 0) 28 7 0) 28 8 (-1)) (ab_up (ab_up (ab_up σ1 28 6 0) 28 7 0) 28 8 (-1)) _ (Or.inl ⟨rfl, ⟨fun o o1 o2 => ?_, fun t t1 t2 => hz t t1 (by omega), rfl, rfl, rfl⟩, rfl⟩) ?_ (fun o o1 o2 => ?_)
          · rw [ab_up_o o o1, ab_up_o o o1, ab_up_o o o1, ho o o2]
          · have := v0 (ab_up (ab_up (ab_up σ1 28 6 0) 28 7 0) 28 8 (-1)) (fun o o1 => by rw [ab_up_o o o1, ab_up_o o o1, ab_up_o o o1]) rfl
            exact ⟨this.1, by have := this.2.1; omega, this.2.2⟩
          · rw [ab_up_o o o1, ab_up_o o o1, ab_up_o o o1, ho o (by omega)]
        · apply hG [74] 60
          simp only [cq_lt, cq_le, cq_gt, cq_ge, cq_eq, cq_r1, cq_r2, ab_r32, ab_r64, ab_go, ab_stp, wp_z, ab_in, ab_rok, ab_wsum, ab_prm, ab_ret, ab_sw, ab_cd, ab_tg, ab_cat_i, ab_cat_l, ab_cat_r, ab_cl_n, ab_cl_i, ab_cl_l, ab_cl_r, ab_f2_0, ab_f2_1, ab_f4_0, ab_f4_1, ab_f4_2, ab_f4_3, ab_op_s, ab_b1_s, ab_b2_s, ab_l1_s, ab_l2_s, ab_li_s, ab_o1_s, ab_io_s, ab_lo1_s, ab_iio_s, ab_lio_s, ab_cp5_s, ab_d2_l, ab_d2_i, ab_d2_o, ex_iconst, ex_bipush, ex_sipush, ex_lconst, ex_ldc, ex_ldc_w, ex_ldc2_w, ex_iadd, ex_isub, ex_imul, ex_iand, ex_ior, ex_ixor, ex_ishl, ex_ishr, ex_iushr, ex_idiv, ex_irem, ex_ladd, ex_lsub, ex_lmul, ex_lor, ex_ldiv, ex_lrem, ex_lshl, ex_lcmp, ex_ineg, ex_lneg, ex_i2l, ex_l2i, ex_i2b, ex_dup, ex_pop, ex_dup2, ex_goto, ex_tableswitch, ex_aaload, ex_ireturn, ex_lreturn, ex_return_, List.map_cons, List.map_nil, List.sum_cons, List.sum_nil, List.drop_succ_cons, List.drop_zero, List.take_succ_cons, List.take_zero, List.reverse_cons, List.reverse_nil, List.nil_append, List.cons_append, List.length_cons, List.length_nil, true_and, and_true, cond_false, cond_true, Bool.false_or, Bool.or_false, Bool.or_true, Bool.true_or, true_or, or_true, false_or, or_false, if_true, if_false, reduceIte, ite_true, ite_false, implies_true, true_implies, false_implies, forall_const, not_true_eq_false, not_false_eq_true, Nat.reduceAdd, Nat.reduceMul, Nat.reduceSub, Nat.reduceBEq, Nat.reduceEqDiff, Nat.reduceLeDiff, Nat.reduceLT, Int.reduceAdd, Int.reduceSub, Int.reduceMul, Int.reduceNeg, Int.reduceToNat, Int.reduceLE, Int.reduceLT, Int.reduceEq, Int.reduceNe, Int.reduceNatCast, Nat.add_zero, Nat.zero_add, reduceCtorEq, Int.reduceNatCast', wp_c, wp_g, e2_ifCond, e2_if_icmp, ↓bq_t, ↓bq_f, ab_br, ↓ab_b1_s, ↓ab_b2_s, ↓ab_l1_s, ↓ab_l2_s, ↓ab_li_s, ↓ab_o1_s, ↓ab_io_s, ↓ab_lo1_s, ↓ab_iio_s, ↓ab_lio_s, ↓ab_cp5_s, moX7_lay, dX7_lay_0, dX7_lay_1, dis_3, dX7_lay_2, dil_3, dX7_lay_3, dX7_lay_5, dX7_lay_8, dal_0, dX7_lay_9, dg1_7_15_28, dX7_lay_12, dX7_lay_13, dX7_lay_14, dX7_lay_15, dinc_3, dX7_lay_18, dX7_lay_21, dX7_lay_22, dX7_lay_23, dp1_7_28_28, dX7_lay_26, dX7_lay_27, dX7_lay_28, dp1_7_32_28, dX7_lay_31, dX7_lay_32, dX7_lay_33, dp1_7_35_28, dX7_lay_36, dil_2, dX7_lay_37, dX7_lay_40, dX7_lay_41, dal_1, dX7_lay_42, dg1_7_42_21, dX7_lay_45, dX7_lay_48, dX7_lay_49, dX7_lay_50, dg1_7_47_21, dX7_lay_53, dX7_lay_54, dX7_lay_55, dX7_lay_58, dX7_lay_59, dX7_lay_60, dg1_7_49_21, dX7_lay_63, dX7_lay_64, dX7_lay_65, dX7_lay_68, dX7_lay_69, dX7_lay_70, dX7_lay_71, dv1_7_51_28, moX7_change, dX7_lay_74, dX7_lay_75, dv1_7_55_28, moX7_joinNeighbours, dX7_lay_78, dX7_lay_79, dv1_7_58_28, moX7_joinAll, dX7_lay_82, dal1_22, das1_22, dal1_23, das1_23, dal1_30, das1_30, u0, u1, u2]
          repeat' (with_reducible (first | apply And.intro | intro _))
          all_goals first | omega | skip
          have hf : ∀ o, o ≠ 28 → ab_up (ab_up (ab_up (ab_up (ab_up σ1 28 6 0) 28 7 0) 28 8 (-1)) 28 7 (σ 22 c)) 28 8 (σ 23 c) o = σ1 o := fun o o1 => by rw [ab_up_o o o1, ab_up_o o o1, ab_up_o o o1, ab_up_o o o1, ab_up_o o o1]
          have hf2 : ∀ o, o ≠ 28 → o ≠ 30 → ab_up (ab_up (ab_up (ab_up (ab_up σ1 28 6 0) 28 7 0) 28 8 (-1)) 28 7 (σ 22 c)) 28 8 (σ 23 c) o = σ o := fun o o1 o2 => (hf o o1).trans (ho o o2)
          have hv := v0 _ hf rfl
          generalize hS : ab_up (ab_up (ab_up (ab_up (ab_up σ1 28 6 0) 28 7 0) 28 8 (-1)) 28 7 (σ 22 c)) 28 8 (σ 23 c) = S at hf hf2 hv ⊢
          have b0 : zB0 σ (σ 22 c) (σ 23 c) S := by
            refine ⟨hf2, fun t t1 t2 => by rw [hf 30 (by decide)]; exact hz t t1 (by omega), ?_, ?_, ?_⟩
            · rw [← hS]; rfl
            · rw [← hS]; rfl
            · rw [← hS]; rfl
          have e24 : S 24 = σ 24 := hf2 24 (by decide) (by decide)
          have hTS : zTn S := by
            unfold zTn
            rw [hf2 3 (by decide) (by decide), hf2 8 (by decide) (by decide), hf2 9 (by decide) (by decide), hf2 10 (by decide) (by decide)]
            exact hT
          have hBS : zBc S c := by
            unfold zBc
            rw [e24, hf2 25 (by decide) (by decide), hf2 26 (by decide) (by decide), hf2 27 (by decide) (by decide), hf2 3 (by decide) (by decide)]
            exact hB
          refine r_change hTS ⟨c1, by omega⟩ hBS hv (fun σ2 g1 g2 => ?_)
          try simp only [cq_lt, cq_le, cq_gt, cq_ge, cq_eq, cq_r1, cq_r2, ab_r32, ab_r64, ab_go, ab_stp, wp_z, ab_in, ab_rok, ab_wsum, ab_prm, ab_ret, ab_sw, ab_cd, ab_tg, ab_cat_i, ab_cat_l, ab_cat_r, ab_cl_n, ab_cl_i, ab_cl_l, ab_cl_r, ab_f2_0, ab_f2_1, ab_f4_0, ab_f4_1, ab_f4_2, ab_f4_3, ab_op_s, ab_b1_s, ab_b2_s, ab_l1_s, ab_l2_s, ab_li_s, ab_o1_s, ab_io_s, ab_lo1_s, ab_iio_s, ab_lio_s, ab_cp5_s, ab_d2_l, ab_d2_i, ab_d2_o, ex_iconst, ex_bipush, ex_sipush, ex_lconst, ex_ldc, ex_ldc_w, ex_ldc2_w, ex_iadd, ex_isub, ex_imul, ex_iand, ex_ior, ex_ixor, ex_ishl, ex_ishr, ex_iushr, ex_idiv, ex_irem, ex_ladd, ex_lsub, ex_lmul, ex_lor, ex_ldiv, ex_lrem, ex_lshl, ex_lcmp, ex_ineg, ex_lneg, ex_i2l, ex_l2i, ex_i2b, ex_dup, ex_pop, ex_dup2, ex_goto, ex_tableswitch, ex_aaload, ex_ireturn, ex_lreturn, ex_return_, List.map_cons, List.map_nil, List.sum_cons, List.sum_nil, List.drop_succ_cons, List.drop_zero, List.take_succ_cons, List.take_zero, List.reverse_cons, List.reverse_nil, List.nil_append, List.cons_append, List.length_cons, List.length_nil, true_and, and_true, cond_false, cond_true, Bool.false_or, Bool.or_false, Bool.or_true, Bool.true_or, true_or, or_true, false_or, or_false, if_true, if_false, reduceIte, ite_true, ite_false, implies_true, true_implies, false_implies, forall_const, not_true_eq_false, not_false_eq_true, Nat.reduceAdd, Nat.reduceMul, Nat.reduceSub, Nat.reduceBEq, Nat.reduceEqDiff, Nat.reduceLeDiff, Nat.reduceLT, Int.reduceAdd, Int.reduceSub, Int.reduceMul, Int.reduceNeg, Int.reduceToNat, Int.reduceLE, Int.reduceLT, Int.reduceEq, Int.reduceNe, Int.reduceNatCast, Nat.add_zero, Nat.zero_add, reduceCtorEq, Int.reduceNatCast', wp_c, wp_g, e2_ifCond, e2_if_icmp, ↓bq_t, ↓bq_f, ab_br, ↓ab_b1_s, ↓ab_b2_s, ↓ab_l1_s, ↓ab_l2_s, ↓ab_li_s, ↓ab_o1_s, ↓ab_io_s, ↓ab_lo1_s, ↓ab_iio_s, ↓ab_lio_s, ↓ab_cp5_s, moX7_lay, dX7_lay_0, dX7_lay_1, dis_3, dX7_lay_2, dil_3, dX7_lay_3, dX7_lay_5, dX7_lay_8, dal_0, dX7_lay_9, dg1_7_15_28, dX7_lay_12, dX7_lay_13, dX7_lay_14, dX7_lay_15, dinc_3, dX7_lay_18, dX7_lay_21, dX7_lay_22, dX7_lay_23, dp1_7_28_28, dX7_lay_26, dX7_lay_27, dX7_lay_28, dp1_7_32_28, dX7_lay_31, dX7_lay_32, dX7_lay_33, dp1_7_35_28, dX7_lay_36, dil_2, dX7_lay_37, dX7_lay_40, dX7_lay_41, dal_1, dX7_lay_42, dg1_7_42_21, dX7_lay_45, dX7_lay_48, dX7_lay_49, dX7_lay_50, dg1_7_47_21, dX7_lay_53, dX7_lay_54, dX7_lay_55, dX7_lay_58, dX7_lay_59, dX7_lay_60, dg1_7_49_21, dX7_lay_63, dX7_lay_64, dX7_lay_65, dX7_lay_68, dX7_lay_69, dX7_lay_70, dX7_lay_71, dv1_7_51_28, moX7_change, dX7_lay_74, dX7_lay_75, dv1_7_55_28, moX7_joinNeighbours, dX7_lay_78, dX7_lay_79, dv1_7_58_28, moX7_joinAll, dX7_lay_82, dal1_22, das1_22, dal1_23, das1_23, dal1_30, das1_30]
          rw [e24] at g1
          exact fin S σ2 _ (Or.inr ⟨c1, b0, g1⟩) g2 (fun o o1 o2 => ((zCg_o g1).1 o o1 o2).trans (hf2 o o1 (by omega)))
      · refine ih (s + 1) _ (by omega) (by omega) (by omega) (fun o o1 => (ab_up_o o o1).trans (ho o o1)) (fun t t1 t2 => ?_)
        show (if t = s then _ else _) = _
        by_cases e : t = s
        · rw [if_pos e]
        · rw [if_neg e]
          exact hz t t1 (by omega)
  apply hG [2] 60
  simp only [cq_lt, cq_le, cq_gt, cq_ge, cq_eq, cq_r1, cq_r2, ab_r32, ab_r64, ab_go, ab_stp, wp_z, ab_in, ab_rok, ab_wsum, ab_prm, ab_ret, ab_sw, ab_cd, ab_tg, ab_cat_i, ab_cat_l, ab_cat_r, ab_cl_n, ab_cl_i, ab_cl_l, ab_cl_r, ab_f2_0, ab_f2_1, ab_f4_0, ab_f4_1, ab_f4_2, ab_f4_3, ab_op_s, ab_b1_s, ab_b2_s, ab_l1_s, ab_l2_s, ab_li_s, ab_o1_s, ab_io_s, ab_lo1_s, ab_iio_s, ab_lio_s, ab_cp5_s, ab_d2_l, ab_d2_i, ab_d2_o, ex_iconst, ex_bipush, ex_sipush, ex_lconst, ex_ldc, ex_ldc_w, ex_ldc2_w, ex_iadd, ex_isub, ex_imul, ex_iand, ex_ior, ex_ixor, ex_ishl, ex_ishr, ex_iushr, ex_idiv, ex_irem, ex_ladd, ex_lsub, ex_lmul, ex_lor, ex_ldiv, ex_lrem, ex_lshl, ex_lcmp, ex_ineg, ex_lneg, ex_i2l, ex_l2i, ex_i2b, ex_dup, ex_pop, ex_dup2, ex_goto, ex_tableswitch, ex_aaload, ex_ireturn, ex_lreturn, ex_return_, List.map_cons, List.map_nil, List.sum_cons, List.sum_nil, List.drop_succ_cons, List.drop_zero, List.take_succ_cons, List.take_zero, List.reverse_cons, List.reverse_nil, List.nil_append, List.cons_append, List.length_cons, List.length_nil, true_and, and_true, cond_false, cond_true, Bool.false_or, Bool.or_false, Bool.or_true, Bool.true_or, true_or, or_true, false_or, or_false, if_true, if_false, reduceIte, ite_true, ite_false, implies_true, true_implies, false_implies, forall_const, not_true_eq_false, not_false_eq_true, Nat.reduceAdd, Nat.reduceMul, Nat.reduceSub, Nat.reduceBEq, Nat.reduceEqDiff, Nat.reduceLeDiff, Nat.reduceLT, Int.reduceAdd, Int.reduceSub, Int.reduceMul, Int.reduceNeg, Int.reduceToNat, Int.reduceLE, Int.reduceLT, Int.reduceEq, Int.reduceNe, Int.reduceNatCast, Nat.add_zero, Nat.zero_add, reduceCtorEq, Int.reduceNatCast', wp_c, wp_g, e2_ifCond, e2_if_icmp, ↓bq_t, ↓bq_f, ab_br, ↓ab_b1_s, ↓ab_b2_s, ↓ab_l1_s, ↓ab_l2_s, ↓ab_li_s, ↓ab_o1_s, ↓ab_io_s, ↓ab_lo1_s, ↓ab_iio_s, ↓ab_lio_s, ↓ab_cp5_s, moX7_lay, dX7_lay_0, dX7_lay_1, dis_3, dX7_lay_2, dil_3, dX7_lay_3, dX7_lay_5, dX7_lay_8, dal_0, dX7_lay_9, dg1_7_15_28, dX7_lay_12, dX7_lay_13, dX7_lay_14, dX7_lay_15, dinc_3, dX7_lay_18, dX7_lay_21, dX7_lay_22, dX7_lay_23, dp1_7_28_28, dX7_lay_26, dX7_lay_27, dX7_lay_28, dp1_7_32_28, dX7_lay_31, dX7_lay_32, dX7_lay_33, dp1_7_35_28, dX7_lay_36, dil_2, dX7_lay_37, dX7_lay_40, dX7_lay_41, dal_1, dX7_lay_42, dg1_7_42_21, dX7_lay_45, dX7_lay_48, dX7_lay_49, dX7_lay_50, dg1_7_47_21, dX7_lay_53, dX7_lay_54, dX7_lay_55, dX7_lay_58, dX7_lay_59, dX7_lay_60, dg1_7_49_21, dX7_lay_63, dX7_lay_64, dX7_lay_65, dX7_lay_68, dX7_lay_69, dX7_lay_70, dX7_lay_71, dv1_7_51_28, moX7_change, dX7_lay_74, dX7_lay_75, dv1_7_55_28, moX7_joinNeighbours, dX7_lay_78, dX7_lay_79, dv1_7_58_28, moX7_joinAll, dX7_lay_82, dal1_22, das1_22, dal1_23, das1_23, dal1_30, das1_30]
  exact key 17 0 σ (by omega) (by omega) (by omega) (fun _ _ => rfl) (fun t t1 t2 => by omega)
