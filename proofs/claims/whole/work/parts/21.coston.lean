-- CLASS: Survey.cheapestOn
theorem zch_merge {n d m1 m2 : Int} {f g : Int → Int} (h1 : zLe n f d m1) (h2 : zLe n g d m2) (hn : 1 ≤ n) (p1 : 0 ≤ m1) (p2 : 0 ≤ m2) : zLe n (fun j => min (f j) (g j)) d (min m1 m2) ∧ zch (16 * m1 + zmsk n f m1) (16 * m2 + zmsk n g m2) = 16 * min m1 m2 + zmsk n (fun j => min (f j) (g j)) (min m1 m2) := by
  have b1 := zmsk_in n f m1
  have b2 := zmsk_in n g m2
  obtain ⟨a1, a2⟩ := h1
  obtain ⟨c1, c2⟩ := h2
  obtain ⟨j0, x1, x2, x3⟩ : ∃ j, 0 ≤ j ∧ j < n ∧ f j = m1 := by
    rcases a2 with ⟨z, -⟩ | z
    · (try dsimp only at *); omega
    · exact z
  obtain ⟨k0, y1, y2, y3⟩ : ∃ j, 0 ≤ j ∧ j < n ∧ g j = m2 := by
    rcases c2 with ⟨z, -⟩ | z
    · (try dsimp only at *); omega
    · exact z
  refine ⟨⟨fun j q1 q2 => ?_, ?_⟩, ?_⟩
  · have := a1 j q1 q2
    have := c1 j q1 q2
    (try dsimp only at *); omega
  · by_cases hc : m1 ≤ m2
    · refine Or.inr ⟨j0, x1, x2, ?_⟩
      have := c1 j0 x1 x2
      (try dsimp only at *); omega
    · refine Or.inr ⟨k0, y1, y2, ?_⟩
      have := a1 k0 y1 y2
      (try dsimp only at *); omega
  · unfold zch
    by_cases he : m1 = m2
    · rw [if_pos (by omega), ← he, zor_16 p1 b1 (by rw [he]; exact b2), Int.min_self]
      congr 1
      unfold zmsk
      rw [zor_b4]
      refine zb4_congr (fun j q1 q2 => ?_)
      rw [Bool.eq_iff_iff]
      simp only [Bool.and_eq_true, Bool.or_eq_true, decide_eq_true_eq]
      constructor
      · rintro (⟨z1, z2⟩ | ⟨z1, z2⟩)
        · have := c1 j q1 z1
          (try dsimp only at *); omega
        · have := a1 j q1 z1
          (try dsimp only at *); omega
      · rintro ⟨z1, z2⟩
        have := a1 j q1 z1
        have := c1 j q1 z1
        (try dsimp only at *); omega
    · rw [if_neg (by omega)]
      by_cases hc : m1 < m2
      · rw [if_pos (by omega), Int.min_eq_left (by omega)]
        congr 1
        unfold zmsk
        refine zb4_congr (fun j q1 q2 => ?_)
        rw [Bool.eq_iff_iff]
        simp only [Bool.and_eq_true, decide_eq_true_eq]
        constructor
        · rintro ⟨z1, z2⟩
          have := c1 j q1 z1
          (try dsimp only at *); omega
        · rintro ⟨z1, z2⟩
          have := a1 j q1 z1
          have := c1 j q1 z1
          (try dsimp only at *); omega
      · rw [if_neg (by omega), Int.min_eq_right (by omega)]
        congr 1
        unfold zmsk
        refine zb4_congr (fun j q1 q2 => ?_)
        rw [Bool.eq_iff_iff]
        simp only [Bool.and_eq_true, decide_eq_true_eq]
        constructor
        · rintro ⟨z1, z2⟩
          have := a1 j q1 z1
          (try dsimp only at *); omega
        · rintro ⟨z1, z2⟩
          have := a1 j q1 z1
          have := c1 j q1 z1
          (try dsimp only at *); omega
theorem zLe_shift {n d m x : Int} {f : Int → Int} (h : zLe n f d m) (hn : 1 ≤ n) : zLe n (fun j => f j + x) d (m + x) ∧ zmsk n f m = zmsk n (fun j => f j + x) (m + x) := by
  refine ⟨⟨fun j p1 p2 => ?_, ?_⟩, ?_⟩
  · have := h.1 j p1 p2
    (try dsimp only at *); omega
  · rcases h.2 with ⟨z, -⟩ | ⟨j, z1, z2, z3⟩
    · (try dsimp only at *); omega
    · exact Or.inr ⟨j, z1, z2, by (try dsimp only at *); omega⟩
  · unfold zmsk
    refine zb4_congr (fun j q1 q2 => ?_)
    rw [Bool.eq_iff_iff]
    simp only [Bool.and_eq_true, decide_eq_true_eq]
    (try dsimp only at *); omega
theorem zch_one {n d m x j : Int} {g : Int → Int} (h : zLe n g d m) (hn : 1 ≤ n ∧ n ≤ 4) (hj : 0 ≤ j ∧ j < n) (p1 : 0 ≤ m) (p2 : 0 ≤ x) : zLe n (fun i => if i = j then min (g i) x else g i) d (min m x) ∧ zch (16 * m + zmsk n g m) (16 * x + zp2 j) = 16 * min m x + zmsk n (fun i => if i = j then min (g i) x else g i) (min m x) := by
  have b1 := zmsk_in n g m
  have b2 := zp2_in (j := j)
  obtain ⟨a1, a2⟩ := h
  obtain ⟨j0, x1, x2, x3⟩ : ∃ j, 0 ≤ j ∧ j < n ∧ g j = m := by
    rcases a2 with ⟨z, -⟩ | z
    · (try dsimp only at *); omega
    · exact z
  have gj := a1 j hj.1 hj.2
  refine ⟨⟨fun i q1 q2 => ?_, ?_⟩, ?_⟩
  · have := a1 i q1 q2
    (try dsimp only at *); split <;> omega
  · by_cases hc : m ≤ x
    · refine Or.inr ⟨j0, x1, x2, ?_⟩
      (try dsimp only at *); split <;> omega
    · refine Or.inr ⟨j, hj.1, hj.2, ?_⟩
      dsimp only
      rw [if_pos rfl]
      omega
  · unfold zch
    by_cases he : m = x
    · rw [if_pos (by omega), ← he, zor_16 p1 b1 (by omega), Int.min_self, zp2_b4 (by omega)]
      congr 1
      unfold zmsk
      rw [zor_b4]
      refine zb4_congr (fun i q1 q2 => ?_)
      rw [Bool.eq_iff_iff]
      simp only [Bool.and_eq_true, Bool.or_eq_true, decide_eq_true_eq]
      constructor
      · rintro (⟨z1, z2⟩ | z1)
        · refine ⟨z1, ?_⟩
          (try dsimp only at *); split <;> omega
        · rw [if_pos z1, z1]
          (try dsimp only at *); omega
      · rintro ⟨z1, z2⟩
        by_cases e : i = j
        · exact Or.inr e
        · rw [if_neg e] at z2
          exact Or.inl ⟨z1, z2⟩
    · rw [if_neg (by omega)]
      by_cases hc : m < x
      · rw [if_pos (by omega), Int.min_eq_left (by omega)]
        congr 1
        unfold zmsk
        refine zb4_congr (fun i q1 q2 => ?_)
        rw [Bool.eq_iff_iff]
        simp only [Bool.and_eq_true, decide_eq_true_eq]
        constructor
        · rintro ⟨z1, z2⟩
          refine ⟨z1, ?_⟩
          (try dsimp only at *); split <;> omega
        · rintro ⟨z1, z2⟩
          refine ⟨z1, ?_⟩
          split at z2 <;> omega
      · rw [if_neg (by omega), Int.min_eq_right (by omega), zp2_b4 (by omega)]
        congr 1
        unfold zmsk
        refine zb4_congr (fun i q1 q2 => ?_)
        rw [Bool.eq_iff_iff]
        simp only [Bool.and_eq_true, decide_eq_true_eq]
        constructor
        · rintro e
          rw [if_pos e, e]
          (try dsimp only at *); omega
        · rintro ⟨z1, z2⟩
          by_cases e : i = j
          · exact e
          · rw [if_neg e] at z2
            have := a1 i q1 z1
            (try dsimp only at *); omega
/-- the base row: the least costs at the corners -/
def zBs (σ : ab_S) (o : Nat) (c : Int) : Prop := ∃ m, (0 ≤ m ∧ m ≤ 1000000) ∧ zLe (σ o 7) (fun j => σ (o + 2) j + σ o 8 * σ (o + 3) (12 * j + c)) 1000000 m ∧ σ (o + 4) c = 16 * m + zmsk (σ o 7) (fun j => σ (o + 2) j + σ o 8 * σ (o + 3) (12 * j + c)) m
theorem zmul12 {p t : Int} (hp : 1 ≤ p ∧ p ≤ 5) (ht : 0 ≤ t ∧ t ≤ 12) : 0 ≤ p * t ∧ p * t ≤ 60 := by
  rcases (show p = 1 ∨ p = 2 ∨ p = 3 ∨ p = 4 ∨ p = 5 by omega) with rfl | rfl | rfl | rfl | rfl <;> omega
set_option maxRecDepth 100000 in
set_option maxHeartbeats 4000000 in
theorem r_costOn {o : Nat} (ho : o = 65 ∨ o = 76) {σ : ab_S} {s t : Int} {K : ab_V → ab_S → Prop} (hT : zTn σ) (hS : zSv σ o) (hn : 1 ≤ σ o 7) (hs : 0 ≤ s ∧ s < σ 3 9) (ht : 0 ≤ t ∧ t ≤ σ 10 s) (hA : zBs σ o (σ 8 s)) (hB : zBs σ o (σ 9 s))
    (h : ∀ m, (0 ≤ m ∧ m ≤ 1000060) → zLe (σ o 7) (zCt σ o s t) 1000000 m → K (vI (16 * m + zmsk (σ o 7) (zCt σ o s t) m)) σ) : ab_Runs ab_G1 mdX8_cheapestOn [vR o, vI s, vI t] σ K := by
  refine ab_runs mwX8_cheapestOn (by decide +kernel) (Nat.le_of_ble_eq_true rfl) (fun G hG => ?_)
  show G 0 [some (vR o), some (vI s), some (vI t), none, none, none, none, none] [] _
  obtain ⟨⟨n1, n2⟩, hp, hj⟩ := hS
  obtain ⟨mA, qA, lA, eA⟩ := hA
  obtain ⟨mB, qB, lB, eB⟩ := hB
  have hst := hT.2.2 s hs.1 hs.2
  have hTs := hT.2.1
  have hTc := hT.1
  obtain ⟨lA', kA⟩ := zLe_shift (x := σ o 8 * t) lA hn
  obtain ⟨lB', kB⟩ := zLe_shift (x := σ o 8 * (σ 10 s - t)) lB hn
  have w1 := zmul12 hp (t := t) (by omega)
  have w2 := zmul12 hp (t := σ 10 s - t) (by omega)
  have bA := zmsk_in (σ o 7) (fun j => σ (o + 2) j + σ o 8 * σ (o + 3) (12 * j + σ 8 s)) mA
  have bB := zmsk_in (σ o 7) (fun j => σ (o + 2) j + σ o 8 * σ (o + 3) (12 * j + σ 9 s)) mB
  obtain ⟨lm, em⟩ := zch_merge lA' lB' hn (by omega) (by omega)
  rw [← kA, ← kB] at em
  -- the loop over the sellers on this street
  have key : ∀ (k : Nat) (j m : Int) (g : Int → Int) (z3 z4 z7 : Option ab_V), σ o 7 - j < k → 0 ≤ j → j ≤ σ o 7 → (0 ≤ m ∧ m ≤ 1000060) → zLe (σ o 7) g 1000000 m → (∀ i, 0 ≤ i → i < j → g i = zCt σ o s t i) → (∀ i, j ≤ i → g i = min (σ (o + 2) i + σ o 8 * σ (o + 3) (12 * i + σ 8 s) + σ o 8 * t) (σ (o + 2) i + σ o 8 * σ (o + 3) (12 * i + σ 9 s) + σ o 8 * (σ 10 s - t))) → G 72 [some (vR o), some (vI s), some (vI t), z3, z4, some (vI (16 * m + zmsk (σ o 7) g m)), some (vI j), z7] [] σ := by
    intro k
    induction k with
    | zero => intro j m g z3 z4 z7 h1 h2 h3 _ _ _ _; omega
    | succ k ih =>
      intro j m g z3 z4 z7 h1 h2 h3 hm hL g1 g2
      have b1 := zmsk_in (σ o 7) g m
      have hskip : j < σ o 7 → ¬ (100 ≤ σ (o + 1) j ∧ (σ (o + 1) j - 100) / 20 = s) → G 72 [some (vR o), some (vI s), some (vI t), z3, z4, some (vI (16 * m + zmsk (σ o 7) g m)), some (vI (j + 1)), z7] [] σ := by
        intro hlt hno
        refine ih (j + 1) m g z3 z4 z7 (by omega) (by omega) (by omega) hm hL (fun i p1 p2 => ?_) (fun i p1 => g2 i (by omega))
        by_cases e : i = j
        · rw [e, g2 j (by omega), zCt, if_neg hno]
        · exact g1 i p1 (by omega)
      have htake : j < σ o 7 → (100 ≤ σ (o + 1) j ∧ (σ (o + 1) j - 100) / 20 = s) → ∀ (v z7 : Int) (w4 : Option ab_V), v = 16 * (σ (o + 2) j + σ o 8 * (if 0 ≤ t - (σ (o + 1) j - 100) % 20 then t - (σ (o + 1) j - 100) % 20 else -(t - (σ (o + 1) j - 100) % 20))) + zp2 j → ab_Runs ab_G1 mdX8_cheaper [vI (16 * m + zmsk (σ o 7) g m), vI v] σ (fun v τ => ab_b1 [v] (fun x r => G 72 [some (vR o), some (vI s), some (vI t), z3, w4, some (vI x), some (vI (j + 1)), some (vI z7)] r τ)) := by
        intro hlt hon v z7 w4 hv
        obtain ⟨q1, q2, q3⟩ := hj j h2 hlt
        have q4 := zSt_st hT q1 hon.1
        have q5 := zmul12 hp (t := if 0 ≤ t - (σ (o + 1) j - 100) % 20 then t - (σ (o + 1) j - 100) % 20 else -(t - (σ (o + 1) j - 100) % 20)) (by rw [hon.2] at q4; split <;> omega)
        have b2 := zp2_in (j := j)
        refine r_cheaper (by omega) (by omega) ?_
        obtain ⟨l2, e2⟩ := zch_one (x := σ (o + 2) j + σ o 8 * (if 0 ≤ t - (σ (o + 1) j - 100) % 20 then t - (σ (o + 1) j - 100) % 20 else -(t - (σ (o + 1) j - 100) % 20))) hL (by omega) (by omega : 0 ≤ j ∧ j < σ o 7) (by omega) (by omega)
        rw [hv, e2]
        refine ih (j + 1) _ _ z3 w4 _ (by omega) (by omega) (by omega) (by omega) l2 (fun i p1 p2 => ?_) (fun i p1 => ?_)
        · by_cases e : i = j
          · rw [if_pos e, e, g2 j (by omega), zCt, if_pos hon]
          · rw [if_neg e]
            exact g1 i p1 (by omega)
        · rw [if_neg (by omega)]
          exact g2 i (by omega)
      have hone : j < σ o 7 → (0 ≤ σ (o + 1) j ∧ σ (o + 1) j < 420) := fun hlt => zSt_le hT (hj j h2 hlt).1
      have hpl : j < σ o 7 → 100 ≤ σ (o + 1) j → 0 ≤ (σ (o + 1) j - 100) % 20 ∧ (σ (o + 1) j - 100) % 20 < 20 := by omega
      have hexit : j = σ o 7 → K (vI (16 * m + zmsk (σ o 7) g m)) σ := by
        intro e
        have e2 : zmsk (σ o 7) g m = zmsk (σ o 7) (zCt σ o s t) m := by
          unfold zmsk
          refine zb4_congr (fun i q1 q2 => ?_)
          rw [Bool.eq_iff_iff]
          simp only [Bool.and_eq_true, decide_eq_true_eq]
          constructor
          · rintro ⟨z1, z2⟩
            rw [g1 i q1 (by omega)] at z2
            exact ⟨z1, z2⟩
          · rintro ⟨z1, z2⟩
            rw [← g1 i q1 (by omega)] at z2
            exact ⟨z1, z2⟩
        rw [e2]
        refine h m hm ⟨fun i q1 q2 => ?_, ?_⟩
        · rw [← g1 i q1 (by omega)]
          exact hL.1 i q1 q2
        · rcases hL.2 with z | ⟨i, z1, z2, z3⟩
          · exact Or.inl z
          · exact Or.inr ⟨i, z1, z2, by rw [← g1 i z1 (by omega)]; exact z3⟩
      rcases ho with rfl | rfl
      · apply hG [72] 60
        simp only [cq_lt, cq_le, cq_gt, cq_ge, cq_eq, cq_r1, cq_r2, ab_r32, ab_r64, ab_go, ab_stp, wp_z, wp_s, ab_in, ab_gv, ab_psh, ab_rok, ab_wsum, ab_prm, ab_ret, ab_sw, ab_cd, ab_tg, ab_cat_i, ab_cat_l, ab_cat_r, ab_cl_n, ab_cl_i, ab_cl_l, ab_cl_r, ab_f2_0, ab_f2_1, ab_f4_0, ab_f4_1, ab_f4_2, ab_f4_3, ab_op_s, ab_gI_s, ab_gL_s, ab_gR_s, ab_b1_s, ab_b2_s, ab_l1_s, ab_l2_s, ab_li_s, ab_o1_s, ab_io_s, ab_lo1_s, ab_iio_s, ab_lio_s, ab_cp5_s, ab_d2_l, ab_d2_i, ab_d2_o, ex_iconst, ex_bipush, ex_sipush, ex_lconst, ex_ldc, ex_ldc_w, ex_ldc2_w, ex_iload_n, ex_iload, ex_lload_n, ex_lload, ex_aload_n, ex_aload, ex_istore_n, ex_istore, ex_lstore_n, ex_lstore, ex_iinc, ex_iadd, ex_isub, ex_imul, ex_iand, ex_ior, ex_ixor, ex_ishl, ex_ishr, ex_iushr, ex_idiv, ex_irem, ex_ladd, ex_lsub, ex_lmul, ex_lor, ex_ldiv, ex_lrem, ex_lshl, ex_lcmp, ex_ineg, ex_lneg, ex_i2l, ex_l2i, ex_i2b, ex_dup, ex_pop, ex_dup2, ex_goto, ex_ifCond, ex_if_icmp, ex_tableswitch, ex_getfield, ex_putfield, ex_iaload, ex_laload, ex_baload, ex_iastore, ex_lastore, ex_bastore, ex_aaload, ex_arraylength, ex_invokevirtual, ex_invokestatic, ex_ireturn, ex_lreturn, ex_return_, List.map_cons, List.map_nil, List.sum_cons, List.sum_nil, List.drop_succ_cons, List.drop_zero, List.take_succ_cons, List.take_zero, List.reverse_cons, List.reverse_nil, List.nil_append, List.cons_append, List.length_cons, List.length_nil, true_and, and_true, cond_false, cond_true, Bool.false_or, Bool.or_false, Bool.or_true, Bool.true_or, true_or, or_true, false_or, or_false, if_true, if_false, reduceIte, ite_true, ite_false, implies_true, true_implies, false_implies, forall_const, not_true_eq_false, not_false_eq_true, Nat.reduceAdd, Nat.reduceMul, Nat.reduceSub, Nat.reduceBEq, Nat.reduceEqDiff, Nat.reduceLeDiff, Nat.reduceLT, Int.reduceAdd, Int.reduceSub, Int.reduceMul, Int.reduceNeg, Int.reduceToNat, Int.reduceLE, Int.reduceLT, Int.reduceEq, Int.reduceNe, Int.reduceNatCast, Nat.add_zero, Nat.zero_add, reduceCtorEq, Int.reduceNatCast', moX8_cheapestOn, dX8_cheapestOn_0, dX8_cheapestOn_1, gt1_8_21_65, gt1_8_21_76, dX8_cheapestOn_4, dX8_cheapestOn_5, gt1_8_34_65, gt1_8_34_76, dX8_cheapestOn_8, gt1_8_88_3, gt1_8_88_12, dX8_cheapestOn_11, dX8_cheapestOn_12, dX8_cheapestOn_13, dX8_cheapestOn_14, dX8_cheapestOn_16, dX8_cheapestOn_17, gt1_8_31_65, gt1_8_31_76, dX8_cheapestOn_20, dX8_cheapestOn_21, dX8_cheapestOn_22, dX8_cheapestOn_23, dX8_cheapestOn_24, dX8_cheapestOn_25, dX8_cheapestOn_26, dX8_cheapestOn_29, dX8_cheapestOn_30, dX8_cheapestOn_33, gt1_8_94_3, gt1_8_94_12, dX8_cheapestOn_36, dX8_cheapestOn_37, dX8_cheapestOn_38, dX8_cheapestOn_39, dX8_cheapestOn_41, dX8_cheapestOn_42, dX8_cheapestOn_45, dX8_cheapestOn_46, dX8_cheapestOn_47, dX8_cheapestOn_50, gt1_8_91_3, gt1_8_91_12, dX8_cheapestOn_53, dX8_cheapestOn_54, dX8_cheapestOn_55, dX8_cheapestOn_56, dX8_cheapestOn_57, dX8_cheapestOn_58, dX8_cheapestOn_59, dX8_cheapestOn_61, dX8_cheapestOn_62, dX8_cheapestOn_64, is8_113, moX8_cheaper, dX8_cheapestOn_67, dX8_cheapestOn_69, dX8_cheapestOn_70, dX8_cheapestOn_72, dX8_cheapestOn_74, dX8_cheapestOn_75, gt1_8_27_65, gt1_8_27_76, dX8_cheapestOn_78, dX8_cheapestOn_81, dX8_cheapestOn_82, gt1_8_9_65, gt1_8_9_76, dX8_cheapestOn_85, dX8_cheapestOn_87, dX8_cheapestOn_88, dX8_cheapestOn_90, dX8_cheapestOn_93, dX8_cheapestOn_94, dX8_cheapestOn_97, dX8_cheapestOn_99, dX8_cheapestOn_100, is8_82, moX9_streetOf, dX8_cheapestOn_103, dX8_cheapestOn_104, dX8_cheapestOn_107, dX8_cheapestOn_108, dX8_cheapestOn_109, dX8_cheapestOn_112, dX8_cheapestOn_114, dX8_cheapestOn_115, is8_85, moX9_placeOf, dX8_cheapestOn_118, dX8_cheapestOn_119, is8_103, pr8_103, dX8_cheapestOn_122, dX8_cheapestOn_124, dX8_cheapestOn_126, dX8_cheapestOn_128, dX8_cheapestOn_129, gt1_8_15_65, gt1_8_15_76, dX8_cheapestOn_132, dX8_cheapestOn_134, dX8_cheapestOn_135, dX8_cheapestOn_136, dX8_cheapestOn_139, dX8_cheapestOn_141, dX8_cheapestOn_142, dX8_cheapestOn_143, dX8_cheapestOn_144, dX8_cheapestOn_145, dX8_cheapestOn_147, dX8_cheapestOn_148, dX8_cheapestOn_149, dX8_cheapestOn_152, dX8_cheapestOn_154, dX8_cheapestOn_157, dX8_cheapestOn_160, dX8_cheapestOn_162, ar1_0, ar1_1, ar1_10, ar1_100, ar1_101, ar1_102, ar1_11, ar1_12, ar1_13, ar1_14, ar1_15, ar1_16, ar1_17, ar1_18, ar1_19, ar1_2, ar1_20, ar1_21, ar1_22, ar1_23, ar1_24, ar1_25, ar1_26, ar1_27, ar1_28, ar1_29, ar1_3, ar1_30, ar1_31, ar1_32, ar1_33, ar1_34, ar1_35, ar1_36, ar1_37, ar1_38, ar1_39, ar1_4, ar1_40, ar1_41, ar1_42, ar1_43, ar1_44, ar1_45, ar1_46, ar1_47, ar1_48, ar1_49, ar1_5, ar1_50, ar1_51, ar1_52, ar1_53, ar1_54, ar1_55, ar1_56, ar1_57, ar1_58, ar1_59, ar1_6, ar1_60, ar1_61, ar1_62, ar1_63, ar1_64, ar1_65, ar1_66, ar1_67, ar1_68, ar1_69, ar1_7, ar1_70, ar1_71, ar1_72, ar1_73, ar1_74, ar1_75, ar1_76, ar1_77, ar1_78, ar1_79, ar1_8, ar1_80, ar1_81, ar1_82, ar1_83, ar1_84, ar1_85, ar1_86, ar1_87, ar1_88, ar1_89, ar1_9, ar1_90, ar1_91, ar1_92, ar1_93, ar1_94, ar1_95, ar1_96, ar1_97, ar1_98, ar1_99, lk_0, lk_1, lk_2, lk_3, lk_4, lk_5, lk_6, lk_7, st1_3, st1_4, st1_5, st1_6, st1_7]
        repeat' (with_reducible (first | apply And.intro | intro _))
        all_goals first | omega | skip
        · rename_i hq
          exact hexit (Int.le_antisymm h3 hq)
        all_goals (have r1 := hone (by omega); simp only [Nat.reduceAdd] at r1)
        all_goals first | omega | skip
        · exact hskip (by omega) (by simp only [Nat.reduceAdd]; omega)
        · refine r_streetOf (by omega) ?_
          try simp only [cq_lt, cq_le, cq_gt, cq_ge, cq_eq, cq_r1, cq_r2, ab_r32, ab_r64, ab_go, ab_stp, wp_z, wp_s, ab_in, ab_gv, ab_psh, ab_rok, ab_wsum, ab_prm, ab_ret, ab_sw, ab_cd, ab_tg, ab_cat_i, ab_cat_l, ab_cat_r, ab_cl_n, ab_cl_i, ab_cl_l, ab_cl_r, ab_f2_0, ab_f2_1, ab_f4_0, ab_f4_1, ab_f4_2, ab_f4_3, ab_op_s, ab_gI_s, ab_gL_s, ab_gR_s, ab_b1_s, ab_b2_s, ab_l1_s, ab_l2_s, ab_li_s, ab_o1_s, ab_io_s, ab_lo1_s, ab_iio_s, ab_lio_s, ab_cp5_s, ab_d2_l, ab_d2_i, ab_d2_o, ex_iconst, ex_bipush, ex_sipush, ex_lconst, ex_ldc, ex_ldc_w, ex_ldc2_w, ex_iload_n, ex_iload, ex_lload_n, ex_lload, ex_aload_n, ex_aload, ex_istore_n, ex_istore, ex_lstore_n, ex_lstore, ex_iinc, ex_iadd, ex_isub, ex_imul, ex_iand, ex_ior, ex_ixor, ex_ishl, ex_ishr, ex_iushr, ex_idiv, ex_irem, ex_ladd, ex_lsub, ex_lmul, ex_lor, ex_ldiv, ex_lrem, ex_lshl, ex_lcmp, ex_ineg, ex_lneg, ex_i2l, ex_l2i, ex_i2b, ex_dup, ex_pop, ex_dup2, ex_goto, ex_ifCond, ex_if_icmp, ex_tableswitch, ex_getfield, ex_putfield, ex_iaload, ex_laload, ex_baload, ex_iastore, ex_lastore, ex_bastore, ex_aaload, ex_arraylength, ex_invokevirtual, ex_invokestatic, ex_ireturn, ex_lreturn, ex_return_, List.map_cons, List.map_nil, List.sum_cons, List.sum_nil, List.drop_succ_cons, List.drop_zero, List.take_succ_cons, List.take_zero, List.reverse_cons, List.reverse_nil, List.nil_append, List.cons_append, List.length_cons, List.length_nil, true_and, and_true, cond_false, cond_true, Bool.false_or, Bool.or_false, Bool.or_true, Bool.true_or, true_or, or_true, false_or, or_false, if_true, if_false, reduceIte, ite_true, ite_false, implies_true, true_implies, false_implies, forall_const, not_true_eq_false, not_false_eq_true, Nat.reduceAdd, Nat.reduceMul, Nat.reduceSub, Nat.reduceBEq, Nat.reduceEqDiff, Nat.reduceLeDiff, Nat.reduceLT, Int.reduceAdd, Int.reduceSub, Int.reduceMul, Int.reduceNeg, Int.reduceToNat, Int.reduceLE, Int.reduceLT, Int.reduceEq, Int.reduceNe, Int.reduceNatCast, Nat.add_zero, Nat.zero_add, reduceCtorEq, Int.reduceNatCast', moX8_cheapestOn, dX8_cheapestOn_0, dX8_cheapestOn_1, gt1_8_21_65, gt1_8_21_76, dX8_cheapestOn_4, dX8_cheapestOn_5, gt1_8_34_65, gt1_8_34_76, dX8_cheapestOn_8, gt1_8_88_3, gt1_8_88_12, dX8_cheapestOn_11, dX8_cheapestOn_12, dX8_cheapestOn_13, dX8_cheapestOn_14, dX8_cheapestOn_16, dX8_cheapestOn_17, gt1_8_31_65, gt1_8_31_76, dX8_cheapestOn_20, dX8_cheapestOn_21, dX8_cheapestOn_22, dX8_cheapestOn_23, dX8_cheapestOn_24, dX8_cheapestOn_25, dX8_cheapestOn_26, dX8_cheapestOn_29, dX8_cheapestOn_30, dX8_cheapestOn_33, gt1_8_94_3, gt1_8_94_12, dX8_cheapestOn_36, dX8_cheapestOn_37, dX8_cheapestOn_38, dX8_cheapestOn_39, dX8_cheapestOn_41, dX8_cheapestOn_42, dX8_cheapestOn_45, dX8_cheapestOn_46, dX8_cheapestOn_47, dX8_cheapestOn_50, gt1_8_91_3, gt1_8_91_12, dX8_cheapestOn_53, dX8_cheapestOn_54, dX8_cheapestOn_55, dX8_cheapestOn_56, dX8_cheapestOn_57, dX8_cheapestOn_58, dX8_cheapestOn_59, dX8_cheapestOn_61, dX8_cheapestOn_62, dX8_cheapestOn_64, is8_113, moX8_cheaper, dX8_cheapestOn_67, dX8_cheapestOn_69, dX8_cheapestOn_70, dX8_cheapestOn_72, dX8_cheapestOn_74, dX8_cheapestOn_75, gt1_8_27_65, gt1_8_27_76, dX8_cheapestOn_78, dX8_cheapestOn_81, dX8_cheapestOn_82, gt1_8_9_65, gt1_8_9_76, dX8_cheapestOn_85, dX8_cheapestOn_87, dX8_cheapestOn_88, dX8_cheapestOn_90, dX8_cheapestOn_93, dX8_cheapestOn_94, dX8_cheapestOn_97, dX8_cheapestOn_99, dX8_cheapestOn_100, is8_82, moX9_streetOf, dX8_cheapestOn_103, dX8_cheapestOn_104, dX8_cheapestOn_107, dX8_cheapestOn_108, dX8_cheapestOn_109, dX8_cheapestOn_112, dX8_cheapestOn_114, dX8_cheapestOn_115, is8_85, moX9_placeOf, dX8_cheapestOn_118, dX8_cheapestOn_119, is8_103, pr8_103, dX8_cheapestOn_122, dX8_cheapestOn_124, dX8_cheapestOn_126, dX8_cheapestOn_128, dX8_cheapestOn_129, gt1_8_15_65, gt1_8_15_76, dX8_cheapestOn_132, dX8_cheapestOn_134, dX8_cheapestOn_135, dX8_cheapestOn_136, dX8_cheapestOn_139, dX8_cheapestOn_141, dX8_cheapestOn_142, dX8_cheapestOn_143, dX8_cheapestOn_144, dX8_cheapestOn_145, dX8_cheapestOn_147, dX8_cheapestOn_148, dX8_cheapestOn_149, dX8_cheapestOn_152, dX8_cheapestOn_154, dX8_cheapestOn_157, dX8_cheapestOn_160, dX8_cheapestOn_162, ar1_0, ar1_1, ar1_10, ar1_100, ar1_101, ar1_102, ar1_11, ar1_12, ar1_13, ar1_14, ar1_15, ar1_16, ar1_17, ar1_18, ar1_19, ar1_2, ar1_20, ar1_21, ar1_22, ar1_23, ar1_24, ar1_25, ar1_26, ar1_27, ar1_28, ar1_29, ar1_3, ar1_30, ar1_31, ar1_32, ar1_33, ar1_34, ar1_35, ar1_36, ar1_37, ar1_38, ar1_39, ar1_4, ar1_40, ar1_41, ar1_42, ar1_43, ar1_44, ar1_45, ar1_46, ar1_47, ar1_48, ar1_49, ar1_5, ar1_50, ar1_51, ar1_52, ar1_53, ar1_54, ar1_55, ar1_56, ar1_57, ar1_58, ar1_59, ar1_6, ar1_60, ar1_61, ar1_62, ar1_63, ar1_64, ar1_65, ar1_66, ar1_67, ar1_68, ar1_69, ar1_7, ar1_70, ar1_71, ar1_72, ar1_73, ar1_74, ar1_75, ar1_76, ar1_77, ar1_78, ar1_79, ar1_8, ar1_80, ar1_81, ar1_82, ar1_83, ar1_84, ar1_85, ar1_86, ar1_87, ar1_88, ar1_89, ar1_9, ar1_90, ar1_91, ar1_92, ar1_93, ar1_94, ar1_95, ar1_96, ar1_97, ar1_98, ar1_99, lk_0, lk_1, lk_2, lk_3, lk_4, lk_5, lk_6, lk_7, st1_3, st1_4, st1_5, st1_6, st1_7]
          repeat' (with_reducible (first | apply And.intro | intro _))
          all_goals first | omega | skip
          · exact hskip (by omega) (by simp only [Nat.reduceAdd]; omega)
          · refine r_placeOf (by omega) ?_
            try simp only [cq_lt, cq_le, cq_gt, cq_ge, cq_eq, cq_r1, cq_r2, ab_r32, ab_r64, ab_go, ab_stp, wp_z, wp_s, ab_in, ab_gv, ab_psh, ab_rok, ab_wsum, ab_prm, ab_ret, ab_sw, ab_cd, ab_tg, ab_cat_i, ab_cat_l, ab_cat_r, ab_cl_n, ab_cl_i, ab_cl_l, ab_cl_r, ab_f2_0, ab_f2_1, ab_f4_0, ab_f4_1, ab_f4_2, ab_f4_3, ab_op_s, ab_gI_s, ab_gL_s, ab_gR_s, ab_b1_s, ab_b2_s, ab_l1_s, ab_l2_s, ab_li_s, ab_o1_s, ab_io_s, ab_lo1_s, ab_iio_s, ab_lio_s, ab_cp5_s, ab_d2_l, ab_d2_i, ab_d2_o, ex_iconst, ex_bipush, ex_sipush, ex_lconst, ex_ldc, ex_ldc_w, ex_ldc2_w, ex_iload_n, ex_iload, ex_lload_n, ex_lload, ex_aload_n, ex_aload, ex_istore_n, ex_istore, ex_lstore_n, ex_lstore, ex_iinc, ex_iadd, ex_isub, ex_imul, ex_iand, ex_ior, ex_ixor, ex_ishl, ex_ishr, ex_iushr, ex_idiv, ex_irem, ex_ladd, ex_lsub, ex_lmul, ex_lor, ex_ldiv, ex_lrem, ex_lshl, ex_lcmp, ex_ineg, ex_lneg, ex_i2l, ex_l2i, ex_i2b, ex_dup, ex_pop, ex_dup2, ex_goto, ex_ifCond, ex_if_icmp, ex_tableswitch, ex_getfield, ex_putfield, ex_iaload, ex_laload, ex_baload, ex_iastore, ex_lastore, ex_bastore, ex_aaload, ex_arraylength, ex_invokevirtual, ex_invokestatic, ex_ireturn, ex_lreturn, ex_return_, List.map_cons, List.map_nil, List.sum_cons, List.sum_nil, List.drop_succ_cons, List.drop_zero, List.take_succ_cons, List.take_zero, List.reverse_cons, List.reverse_nil, List.nil_append, List.cons_append, List.length_cons, List.length_nil, true_and, and_true, cond_false, cond_true, Bool.false_or, Bool.or_false, Bool.or_true, Bool.true_or, true_or, or_true, false_or, or_false, if_true, if_false, reduceIte, ite_true, ite_false, implies_true, true_implies, false_implies, forall_const, not_true_eq_false, not_false_eq_true, Nat.reduceAdd, Nat.reduceMul, Nat.reduceSub, Nat.reduceBEq, Nat.reduceEqDiff, Nat.reduceLeDiff, Nat.reduceLT, Int.reduceAdd, Int.reduceSub, Int.reduceMul, Int.reduceNeg, Int.reduceToNat, Int.reduceLE, Int.reduceLT, Int.reduceEq, Int.reduceNe, Int.reduceNatCast, Nat.add_zero, Nat.zero_add, reduceCtorEq, Int.reduceNatCast', moX8_cheapestOn, dX8_cheapestOn_0, dX8_cheapestOn_1, gt1_8_21_65, gt1_8_21_76, dX8_cheapestOn_4, dX8_cheapestOn_5, gt1_8_34_65, gt1_8_34_76, dX8_cheapestOn_8, gt1_8_88_3, gt1_8_88_12, dX8_cheapestOn_11, dX8_cheapestOn_12, dX8_cheapestOn_13, dX8_cheapestOn_14, dX8_cheapestOn_16, dX8_cheapestOn_17, gt1_8_31_65, gt1_8_31_76, dX8_cheapestOn_20, dX8_cheapestOn_21, dX8_cheapestOn_22, dX8_cheapestOn_23, dX8_cheapestOn_24, dX8_cheapestOn_25, dX8_cheapestOn_26, dX8_cheapestOn_29, dX8_cheapestOn_30, dX8_cheapestOn_33, gt1_8_94_3, gt1_8_94_12, dX8_cheapestOn_36, dX8_cheapestOn_37, dX8_cheapestOn_38, dX8_cheapestOn_39, dX8_cheapestOn_41, dX8_cheapestOn_42, dX8_cheapestOn_45, dX8_cheapestOn_46, dX8_cheapestOn_47, dX8_cheapestOn_50, gt1_8_91_3, gt1_8_91_12, dX8_cheapestOn_53, dX8_cheapestOn_54, dX8_cheapestOn_55, dX8_cheapestOn_56, dX8_cheapestOn_57, dX8_cheapestOn_58, dX8_cheapestOn_59, dX8_cheapestOn_61, dX8_cheapestOn_62, dX8_cheapestOn_64, is8_113, moX8_cheaper, dX8_cheapestOn_67, dX8_cheapestOn_69, dX8_cheapestOn_70, dX8_cheapestOn_72, dX8_cheapestOn_74, dX8_cheapestOn_75, gt1_8_27_65, gt1_8_27_76, dX8_cheapestOn_78, dX8_cheapestOn_81, dX8_cheapestOn_82, gt1_8_9_65, gt1_8_9_76, dX8_cheapestOn_85, dX8_cheapestOn_87, dX8_cheapestOn_88, dX8_cheapestOn_90, dX8_cheapestOn_93, dX8_cheapestOn_94, dX8_cheapestOn_97, dX8_cheapestOn_99, dX8_cheapestOn_100, is8_82, moX9_streetOf, dX8_cheapestOn_103, dX8_cheapestOn_104, dX8_cheapestOn_107, dX8_cheapestOn_108, dX8_cheapestOn_109, dX8_cheapestOn_112, dX8_cheapestOn_114, dX8_cheapestOn_115, is8_85, moX9_placeOf, dX8_cheapestOn_118, dX8_cheapestOn_119, is8_103, pr8_103, dX8_cheapestOn_122, dX8_cheapestOn_124, dX8_cheapestOn_126, dX8_cheapestOn_128, dX8_cheapestOn_129, gt1_8_15_65, gt1_8_15_76, dX8_cheapestOn_132, dX8_cheapestOn_134, dX8_cheapestOn_135, dX8_cheapestOn_136, dX8_cheapestOn_139, dX8_cheapestOn_141, dX8_cheapestOn_142, dX8_cheapestOn_143, dX8_cheapestOn_144, dX8_cheapestOn_145, dX8_cheapestOn_147, dX8_cheapestOn_148, dX8_cheapestOn_149, dX8_cheapestOn_152, dX8_cheapestOn_154, dX8_cheapestOn_157, dX8_cheapestOn_160, dX8_cheapestOn_162, ar1_0, ar1_1, ar1_10, ar1_100, ar1_101, ar1_102, ar1_11, ar1_12, ar1_13, ar1_14, ar1_15, ar1_16, ar1_17, ar1_18, ar1_19, ar1_2, ar1_20, ar1_21, ar1_22, ar1_23, ar1_24, ar1_25, ar1_26, ar1_27, ar1_28, ar1_29, ar1_3, ar1_30, ar1_31, ar1_32, ar1_33, ar1_34, ar1_35, ar1_36, ar1_37, ar1_38, ar1_39, ar1_4, ar1_40, ar1_41, ar1_42, ar1_43, ar1_44, ar1_45, ar1_46, ar1_47, ar1_48, ar1_49, ar1_5, ar1_50, ar1_51, ar1_52, ar1_53, ar1_54, ar1_55, ar1_56, ar1_57, ar1_58, ar1_59, ar1_6, ar1_60, ar1_61, ar1_62, ar1_63, ar1_64, ar1_65, ar1_66, ar1_67, ar1_68, ar1_69, ar1_7, ar1_70, ar1_71, ar1_72, ar1_73, ar1_74, ar1_75, ar1_76, ar1_77, ar1_78, ar1_79, ar1_8, ar1_80, ar1_81, ar1_82, ar1_83, ar1_84, ar1_85, ar1_86, ar1_87, ar1_88, ar1_89, ar1_9, ar1_90, ar1_91, ar1_92, ar1_93, ar1_94, ar1_95, ar1_96, ar1_97, ar1_98, ar1_99, lk_0, lk_1, lk_2, lk_3, lk_4, lk_5, lk_6, lk_7, st1_3, st1_4, st1_5, st1_6, st1_7]
            repeat' (with_reducible (first | apply And.intro | intro _))
            all_goals first | omega | skip
            refine htake (by omega) (by simp only [Nat.reduceAdd]; omega) _ _ _ ?_
            rw [z_shl1 (by omega)]
      · apply hG [72] 60
        simp only [cq_lt, cq_le, cq_gt, cq_ge, cq_eq, cq_r1, cq_r2, ab_r32, ab_r64, ab_go, ab_stp, wp_z, wp_s, ab_in, ab_gv, ab_psh, ab_rok, ab_wsum, ab_prm, ab_ret, ab_sw, ab_cd, ab_tg, ab_cat_i, ab_cat_l, ab_cat_r, ab_cl_n, ab_cl_i, ab_cl_l, ab_cl_r, ab_f2_0, ab_f2_1, ab_f4_0, ab_f4_1, ab_f4_2, ab_f4_3, ab_op_s, ab_gI_s, ab_gL_s, ab_gR_s, ab_b1_s, ab_b2_s, ab_l1_s, ab_l2_s, ab_li_s, ab_o1_s, ab_io_s, ab_lo1_s, ab_iio_s, ab_lio_s, ab_cp5_s, ab_d2_l, ab_d2_i, ab_d2_o, ex_iconst, ex_bipush, ex_sipush, ex_lconst, ex_ldc, ex_ldc_w, ex_ldc2_w, ex_iload_n, ex_iload, ex_lload_n, ex_lload, ex_aload_n, ex_aload, ex_istore_n, ex_istore, ex_lstore_n, ex_lstore, ex_iinc, ex_iadd, ex_isub, ex_imul, ex_iand, ex_ior, ex_ixor, ex_ishl, ex_ishr, ex_iushr, ex_idiv, ex_irem, ex_ladd, ex_lsub, ex_lmul, ex_lor, ex_ldiv, ex_lrem, ex_lshl, ex_lcmp, ex_ineg, ex_lneg, ex_i2l, ex_l2i, ex_i2b, ex_dup, ex_pop, ex_dup2, ex_goto, ex_ifCond, ex_if_icmp, ex_tableswitch, ex_getfield, ex_putfield, ex_iaload, ex_laload, ex_baload, ex_iastore, ex_lastore, ex_bastore, ex_aaload, ex_arraylength, ex_invokevirtual, ex_invokestatic, ex_ireturn, ex_lreturn, ex_return_, List.map_cons, List.map_nil, List.sum_cons, List.sum_nil, List.drop_succ_cons, List.drop_zero, List.take_succ_cons, List.take_zero, List.reverse_cons, List.reverse_nil, List.nil_append, List.cons_append, List.length_cons, List.length_nil, true_and, and_true, cond_false, cond_true, Bool.false_or, Bool.or_false, Bool.or_true, Bool.true_or, true_or, or_true, false_or, or_false, if_true, if_false, reduceIte, ite_true, ite_false, implies_true, true_implies, false_implies, forall_const, not_true_eq_false, not_false_eq_true, Nat.reduceAdd, Nat.reduceMul, Nat.reduceSub, Nat.reduceBEq, Nat.reduceEqDiff, Nat.reduceLeDiff, Nat.reduceLT, Int.reduceAdd, Int.reduceSub, Int.reduceMul, Int.reduceNeg, Int.reduceToNat, Int.reduceLE, Int.reduceLT, Int.reduceEq, Int.reduceNe, Int.reduceNatCast, Nat.add_zero, Nat.zero_add, reduceCtorEq, Int.reduceNatCast', moX8_cheapestOn, dX8_cheapestOn_0, dX8_cheapestOn_1, gt1_8_21_65, gt1_8_21_76, dX8_cheapestOn_4, dX8_cheapestOn_5, gt1_8_34_65, gt1_8_34_76, dX8_cheapestOn_8, gt1_8_88_3, gt1_8_88_12, dX8_cheapestOn_11, dX8_cheapestOn_12, dX8_cheapestOn_13, dX8_cheapestOn_14, dX8_cheapestOn_16, dX8_cheapestOn_17, gt1_8_31_65, gt1_8_31_76, dX8_cheapestOn_20, dX8_cheapestOn_21, dX8_cheapestOn_22, dX8_cheapestOn_23, dX8_cheapestOn_24, dX8_cheapestOn_25, dX8_cheapestOn_26, dX8_cheapestOn_29, dX8_cheapestOn_30, dX8_cheapestOn_33, gt1_8_94_3, gt1_8_94_12, dX8_cheapestOn_36, dX8_cheapestOn_37, dX8_cheapestOn_38, dX8_cheapestOn_39, dX8_cheapestOn_41, dX8_cheapestOn_42, dX8_cheapestOn_45, dX8_cheapestOn_46, dX8_cheapestOn_47, dX8_cheapestOn_50, gt1_8_91_3, gt1_8_91_12, dX8_cheapestOn_53, dX8_cheapestOn_54, dX8_cheapestOn_55, dX8_cheapestOn_56, dX8_cheapestOn_57, dX8_cheapestOn_58, dX8_cheapestOn_59, dX8_cheapestOn_61, dX8_cheapestOn_62, dX8_cheapestOn_64, is8_113, moX8_cheaper, dX8_cheapestOn_67, dX8_cheapestOn_69, dX8_cheapestOn_70, dX8_cheapestOn_72, dX8_cheapestOn_74, dX8_cheapestOn_75, gt1_8_27_65, gt1_8_27_76, dX8_cheapestOn_78, dX8_cheapestOn_81, dX8_cheapestOn_82, gt1_8_9_65, gt1_8_9_76, dX8_cheapestOn_85, dX8_cheapestOn_87, dX8_cheapestOn_88, dX8_cheapestOn_90, dX8_cheapestOn_93, dX8_cheapestOn_94, dX8_cheapestOn_97, dX8_cheapestOn_99, dX8_cheapestOn_100, is8_82, moX9_streetOf, dX8_cheapestOn_103, dX8_cheapestOn_104, dX8_cheapestOn_107, dX8_cheapestOn_108, dX8_cheapestOn_109, dX8_cheapestOn_112, dX8_cheapestOn_114, dX8_cheapestOn_115, is8_85, moX9_placeOf, dX8_cheapestOn_118, dX8_cheapestOn_119, is8_103, pr8_103, dX8_cheapestOn_122, dX8_cheapestOn_124, dX8_cheapestOn_126, dX8_cheapestOn_128, dX8_cheapestOn_129, gt1_8_15_65, gt1_8_15_76, dX8_cheapestOn_132, dX8_cheapestOn_134, dX8_cheapestOn_135, dX8_cheapestOn_136, dX8_cheapestOn_139, dX8_cheapestOn_141, dX8_cheapestOn_142, dX8_cheapestOn_143, dX8_cheapestOn_144, dX8_cheapestOn_145, dX8_cheapestOn_147, dX8_cheapestOn_148, dX8_cheapestOn_149, dX8_cheapestOn_152, dX8_cheapestOn_154, dX8_cheapestOn_157, dX8_cheapestOn_160, dX8_cheapestOn_162, ar1_0, ar1_1, ar1_10, ar1_100, ar1_101, ar1_102, ar1_11, ar1_12, ar1_13, ar1_14, ar1_15, ar1_16, ar1_17, ar1_18, ar1_19, ar1_2, ar1_20, ar1_21, ar1_22, ar1_23, ar1_24, ar1_25, ar1_26, ar1_27, ar1_28, ar1_29, ar1_3, ar1_30, ar1_31, ar1_32, ar1_33, ar1_34, ar1_35, ar1_36, ar1_37, ar1_38, ar1_39, ar1_4, ar1_40, ar1_41, ar1_42, ar1_43, ar1_44, ar1_45, ar1_46, ar1_47, ar1_48, ar1_49, ar1_5, ar1_50, ar1_51, ar1_52, ar1_53, ar1_54, ar1_55, ar1_56, ar1_57, ar1_58, ar1_59, ar1_6, ar1_60, ar1_61, ar1_62, ar1_63, ar1_64, ar1_65, ar1_66, ar1_67, ar1_68, ar1_69, ar1_7, ar1_70, ar1_71, ar1_72, ar1_73, ar1_74, ar1_75, ar1_76, ar1_77, ar1_78, ar1_79, ar1_8, ar1_80, ar1_81, ar1_82, ar1_83, ar1_84, ar1_85, ar1_86, ar1_87, ar1_88, ar1_89, ar1_9, ar1_90, ar1_91, ar1_92, ar1_93, ar1_94, ar1_95, ar1_96, ar1_97, ar1_98, ar1_99, lk_0, lk_1, lk_2, lk_3, lk_4, lk_5, lk_6, lk_7, st1_3, st1_4, st1_5, st1_6, st1_7]
        repeat' (with_reducible (first | apply And.intro | intro _))
        all_goals first | omega | skip
        · rename_i hq
          exact hexit (Int.le_antisymm h3 hq)
        all_goals (have r1 := hone (by omega); simp only [Nat.reduceAdd] at r1)
        all_goals first | omega | skip
        · exact hskip (by omega) (by simp only [Nat.reduceAdd]; omega)
        · refine r_streetOf (by omega) ?_
          try simp only [cq_lt, cq_le, cq_gt, cq_ge, cq_eq, cq_r1, cq_r2, ab_r32, ab_r64, ab_go, ab_stp, wp_z, wp_s, ab_in, ab_gv, ab_psh, ab_rok, ab_wsum, ab_prm, ab_ret, ab_sw, ab_cd, ab_tg, ab_cat_i, ab_cat_l, ab_cat_r, ab_cl_n, ab_cl_i, ab_cl_l, ab_cl_r, ab_f2_0, ab_f2_1, ab_f4_0, ab_f4_1, ab_f4_2, ab_f4_3, ab_op_s, ab_gI_s, ab_gL_s, ab_gR_s, ab_b1_s, ab_b2_s, ab_l1_s, ab_l2_s, ab_li_s, ab_o1_s, ab_io_s, ab_lo1_s, ab_iio_s, ab_lio_s, ab_cp5_s, ab_d2_l, ab_d2_i, ab_d2_o, ex_iconst, ex_bipush, ex_sipush, ex_lconst, ex_ldc, ex_ldc_w, ex_ldc2_w, ex_iload_n, ex_iload, ex_lload_n, ex_lload, ex_aload_n, ex_aload, ex_istore_n, ex_istore, ex_lstore_n, ex_lstore, ex_iinc, ex_iadd, ex_isub, ex_imul, ex_iand, ex_ior, ex_ixor, ex_ishl, ex_ishr, ex_iushr, ex_idiv, ex_irem, ex_ladd, ex_lsub, ex_lmul, ex_lor, ex_ldiv, ex_lrem, ex_lshl, ex_lcmp, ex_ineg, ex_lneg, ex_i2l, ex_l2i, ex_i2b, ex_dup, ex_pop, ex_dup2, ex_goto, ex_ifCond, ex_if_icmp, ex_tableswitch, ex_getfield, ex_putfield, ex_iaload, ex_laload, ex_baload, ex_iastore, ex_lastore, ex_bastore, ex_aaload, ex_arraylength, ex_invokevirtual, ex_invokestatic, ex_ireturn, ex_lreturn, ex_return_, List.map_cons, List.map_nil, List.sum_cons, List.sum_nil, List.drop_succ_cons, List.drop_zero, List.take_succ_cons, List.take_zero, List.reverse_cons, List.reverse_nil, List.nil_append, List.cons_append, List.length_cons, List.length_nil, true_and, and_true, cond_false, cond_true, Bool.false_or, Bool.or_false, Bool.or_true, Bool.true_or, true_or, or_true, false_or, or_false, if_true, if_false, reduceIte, ite_true, ite_false, implies_true, true_implies, false_implies, forall_const, not_true_eq_false, not_false_eq_true, Nat.reduceAdd, Nat.reduceMul, Nat.reduceSub, Nat.reduceBEq, Nat.reduceEqDiff, Nat.reduceLeDiff, Nat.reduceLT, Int.reduceAdd, Int.reduceSub, Int.reduceMul, Int.reduceNeg, Int.reduceToNat, Int.reduceLE, Int.reduceLT, Int.reduceEq, Int.reduceNe, Int.reduceNatCast, Nat.add_zero, Nat.zero_add, reduceCtorEq, Int.reduceNatCast', moX8_cheapestOn, dX8_cheapestOn_0, dX8_cheapestOn_1, gt1_8_21_65, gt1_8_21_76, dX8_cheapestOn_4, dX8_cheapestOn_5, gt1_8_34_65, gt1_8_34_76, dX8_cheapestOn_8, gt1_8_88_3, gt1_8_88_12, dX8_cheapestOn_11, dX8_cheapestOn_12, dX8_cheapestOn_13, dX8_cheapestOn_14, dX8_cheapestOn_16, dX8_cheapestOn_17, gt1_8_31_65, gt1_8_31_76, dX8_cheapestOn_20, dX8_cheapestOn_21, dX8_cheapestOn_22, dX8_cheapestOn_23, dX8_cheapestOn_24, dX8_cheapestOn_25, dX8_cheapestOn_26, dX8_cheapestOn_29, dX8_cheapestOn_30, dX8_cheapestOn_33, gt1_8_94_3, gt1_8_94_12, dX8_cheapestOn_36, dX8_cheapestOn_37, dX8_cheapestOn_38, dX8_cheapestOn_39, dX8_cheapestOn_41, dX8_cheapestOn_42, dX8_cheapestOn_45, dX8_cheapestOn_46, dX8_cheapestOn_47, dX8_cheapestOn_50, gt1_8_91_3, gt1_8_91_12, dX8_cheapestOn_53, dX8_cheapestOn_54, dX8_cheapestOn_55, dX8_cheapestOn_56, dX8_cheapestOn_57, dX8_cheapestOn_58, dX8_cheapestOn_59, dX8_cheapestOn_61, dX8_cheapestOn_62, dX8_cheapestOn_64, is8_113, moX8_cheaper, dX8_cheapestOn_67, dX8_cheapestOn_69, dX8_cheapestOn_70, dX8_cheapestOn_72, dX8_cheapestOn_74, dX8_cheapestOn_75, gt1_8_27_65, gt1_8_27_76, dX8_cheapestOn_78, dX8_cheapestOn_81, dX8_cheapestOn_82, gt1_8_9_65, gt1_8_9_76, dX8_cheapestOn_85, dX8_cheapestOn_87, dX8_cheapestOn_88, dX8_cheapestOn_90, dX8_cheapestOn_93, dX8_cheapestOn_94, dX8_cheapestOn_97, dX8_cheapestOn_99, dX8_cheapestOn_100, is8_82, moX9_streetOf, dX8_cheapestOn_103, dX8_cheapestOn_104, dX8_cheapestOn_107, dX8_cheapestOn_108, dX8_cheapestOn_109, dX8_cheapestOn_112, dX8_cheapestOn_114, dX8_cheapestOn_115, is8_85, moX9_placeOf, dX8_cheapestOn_118, dX8_cheapestOn_119, is8_103, pr8_103, dX8_cheapestOn_122, dX8_cheapestOn_124, dX8_cheapestOn_126, dX8_cheapestOn_128, dX8_cheapestOn_129, gt1_8_15_65, gt1_8_15_76, dX8_cheapestOn_132, dX8_cheapestOn_134, dX8_cheapestOn_135, dX8_cheapestOn_136, dX8_cheapestOn_139, dX8_cheapestOn_141, dX8_cheapestOn_142, dX8_cheapestOn_143, dX8_cheapestOn_144, dX8_cheapestOn_145, dX8_cheapestOn_147, dX8_cheapestOn_148, dX8_cheapestOn_149, dX8_cheapestOn_152, dX8_cheapestOn_154, dX8_cheapestOn_157, dX8_cheapestOn_160, dX8_cheapestOn_162, ar1_0, ar1_1, ar1_10, ar1_100, ar1_101, ar1_102, ar1_11, ar1_12, ar1_13, ar1_14, ar1_15, ar1_16, ar1_17, ar1_18, ar1_19, ar1_2, ar1_20, ar1_21, ar1_22, ar1_23, ar1_24, ar1_25, ar1_26, ar1_27, ar1_28, ar1_29, ar1_3, ar1_30, ar1_31, ar1_32, ar1_33, ar1_34, ar1_35, ar1_36, ar1_37, ar1_38, ar1_39, ar1_4, ar1_40, ar1_41, ar1_42, ar1_43, ar1_44, ar1_45, ar1_46, ar1_47, ar1_48, ar1_49, ar1_5, ar1_50, ar1_51, ar1_52, ar1_53, ar1_54, ar1_55, ar1_56, ar1_57, ar1_58, ar1_59, ar1_6, ar1_60, ar1_61, ar1_62, ar1_63, ar1_64, ar1_65, ar1_66, ar1_67, ar1_68, ar1_69, ar1_7, ar1_70, ar1_71, ar1_72, ar1_73, ar1_74, ar1_75, ar1_76, ar1_77, ar1_78, ar1_79, ar1_8, ar1_80, ar1_81, ar1_82, ar1_83, ar1_84, ar1_85, ar1_86, ar1_87, ar1_88, ar1_89, ar1_9, ar1_90, ar1_91, ar1_92, ar1_93, ar1_94, ar1_95, ar1_96, ar1_97, ar1_98, ar1_99, lk_0, lk_1, lk_2, lk_3, lk_4, lk_5, lk_6, lk_7, st1_3, st1_4, st1_5, st1_6, st1_7]
          repeat' (with_reducible (first | apply And.intro | intro _))
          all_goals first | omega | skip
          · exact hskip (by omega) (by simp only [Nat.reduceAdd]; omega)
          · refine r_placeOf (by omega) ?_
            try simp only [cq_lt, cq_le, cq_gt, cq_ge, cq_eq, cq_r1, cq_r2, ab_r32, ab_r64, ab_go, ab_stp, wp_z, wp_s, ab_in, ab_gv, ab_psh, ab_rok, ab_wsum, ab_prm, ab_ret, ab_sw, ab_cd, ab_tg, ab_cat_i, ab_cat_l, ab_cat_r, ab_cl_n, ab_cl_i, ab_cl_l, ab_cl_r, ab_f2_0, ab_f2_1, ab_f4_0, ab_f4_1, ab_f4_2, ab_f4_3, ab_op_s, ab_gI_s, ab_gL_s, ab_gR_s, ab_b1_s, ab_b2_s, ab_l1_s, ab_l2_s, ab_li_s, ab_o1_s, ab_io_s, ab_lo1_s, ab_iio_s, ab_lio_s, ab_cp5_s, ab_d2_l, ab_d2_i, ab_d2_o, ex_iconst, ex_bipush, ex_sipush, ex_lconst, ex_ldc, ex_ldc_w, ex_ldc2_w, ex_iload_n, ex_iload, ex_lload_n, ex_lload, ex_aload_n, ex_aload, ex_istore_n, ex_istore, ex_lstore_n, ex_lstore, ex_iinc, ex_iadd, ex_isub, ex_imul, ex_iand, ex_ior, ex_ixor, ex_ishl, ex_ishr, ex_iushr, ex_idiv, ex_irem, ex_ladd, ex_lsub, ex_lmul, ex_lor, ex_ldiv, ex_lrem, ex_lshl, ex_lcmp, ex_ineg, ex_lneg, ex_i2l, ex_l2i, ex_i2b, ex_dup, ex_pop, ex_dup2, ex_goto, ex_ifCond, ex_if_icmp, ex_tableswitch, ex_getfield, ex_putfield, ex_iaload, ex_laload, ex_baload, ex_iastore, ex_lastore, ex_bastore, ex_aaload, ex_arraylength, ex_invokevirtual, ex_invokestatic, ex_ireturn, ex_lreturn, ex_return_, List.map_cons, List.map_nil, List.sum_cons, List.sum_nil, List.drop_succ_cons, List.drop_zero, List.take_succ_cons, List.take_zero, List.reverse_cons, List.reverse_nil, List.nil_append, List.cons_append, List.length_cons, List.length_nil, true_and, and_true, cond_false, cond_true, Bool.false_or, Bool.or_false, Bool.or_true, Bool.true_or, true_or, or_true, false_or, or_false, if_true, if_false, reduceIte, ite_true, ite_false, implies_true, true_implies, false_implies, forall_const, not_true_eq_false, not_false_eq_true, Nat.reduceAdd, Nat.reduceMul, Nat.reduceSub, Nat.reduceBEq, Nat.reduceEqDiff, Nat.reduceLeDiff, Nat.reduceLT, Int.reduceAdd, Int.reduceSub, Int.reduceMul, Int.reduceNeg, Int.reduceToNat, Int.reduceLE, Int.reduceLT, Int.reduceEq, Int.reduceNe, Int.reduceNatCast, Nat.add_zero, Nat.zero_add, reduceCtorEq, Int.reduceNatCast', moX8_cheapestOn, dX8_cheapestOn_0, dX8_cheapestOn_1, gt1_8_21_65, gt1_8_21_76, dX8_cheapestOn_4, dX8_cheapestOn_5, gt1_8_34_65, gt1_8_34_76, dX8_cheapestOn_8, gt1_8_88_3, gt1_8_88_12, dX8_cheapestOn_11, dX8_cheapestOn_12, dX8_cheapestOn_13, dX8_cheapestOn_14, dX8_cheapestOn_16, dX8_cheapestOn_17, gt1_8_31_65, gt1_8_31_76, dX8_cheapestOn_20, dX8_cheapestOn_21, dX8_cheapestOn_22, dX8_cheapestOn_23, dX8_cheapestOn_24, dX8_cheapestOn_25, dX8_cheapestOn_26, dX8_cheapestOn_29, dX8_cheapestOn_30, dX8_cheapestOn_33, gt1_8_94_3, gt1_8_94_12, dX8_cheapestOn_36, dX8_cheapestOn_37, dX8_cheapestOn_38, dX8_cheapestOn_39, dX8_cheapestOn_41, dX8_cheapestOn_42, dX8_cheapestOn_45, dX8_cheapestOn_46, dX8_cheapestOn_47, dX8_cheapestOn_50, gt1_8_91_3, gt1_8_91_12, dX8_cheapestOn_53, dX8_cheapestOn_54, dX8_cheapestOn_55, dX8_cheapestOn_56, dX8_cheapestOn_57, dX8_cheapestOn_58, dX8_cheapestOn_59, dX8_cheapestOn_61, dX8_cheapestOn_62, dX8_cheapestOn_64, is8_113, moX8_cheaper, dX8_cheapestOn_67, dX8_cheapestOn_69, dX8_cheapestOn_70, dX8_cheapestOn_72, dX8_cheapestOn_74, dX8_cheapestOn_75, gt1_8_27_65, gt1_8_27_76, dX8_cheapestOn_78, dX8_cheapestOn_81, dX8_cheapestOn_82, gt1_8_9_65, gt1_8_9_76, dX8_cheapestOn_85, dX8_cheapestOn_87, dX8_cheapestOn_88, dX8_cheapestOn_90, dX8_cheapestOn_93, dX8_cheapestOn_94, dX8_cheapestOn_97, dX8_cheapestOn_99, dX8_cheapestOn_100, is8_82, moX9_streetOf, dX8_cheapestOn_103, dX8_cheapestOn_104, dX8_cheapestOn_107, dX8_cheapestOn_108, dX8_cheapestOn_109, dX8_cheapestOn_112, dX8_cheapestOn_114, dX8_cheapestOn_115, is8_85, moX9_placeOf, dX8_cheapestOn_118, dX8_cheapestOn_119, is8_103, pr8_103, dX8_cheapestOn_122, dX8_cheapestOn_124, dX8_cheapestOn_126, dX8_cheapestOn_128, dX8_cheapestOn_129, gt1_8_15_65, gt1_8_15_76, dX8_cheapestOn_132, dX8_cheapestOn_134, dX8_cheapestOn_135, dX8_cheapestOn_136, dX8_cheapestOn_139, dX8_cheapestOn_141, dX8_cheapestOn_142, dX8_cheapestOn_143, dX8_cheapestOn_144, dX8_cheapestOn_145, dX8_cheapestOn_147, dX8_cheapestOn_148, dX8_cheapestOn_149, dX8_cheapestOn_152, dX8_cheapestOn_154, dX8_cheapestOn_157, dX8_cheapestOn_160, dX8_cheapestOn_162, ar1_0, ar1_1, ar1_10, ar1_100, ar1_101, ar1_102, ar1_11, ar1_12, ar1_13, ar1_14, ar1_15, ar1_16, ar1_17, ar1_18, ar1_19, ar1_2, ar1_20, ar1_21, ar1_22, ar1_23, ar1_24, ar1_25, ar1_26, ar1_27, ar1_28, ar1_29, ar1_3, ar1_30, ar1_31, ar1_32, ar1_33, ar1_34, ar1_35, ar1_36, ar1_37, ar1_38, ar1_39, ar1_4, ar1_40, ar1_41, ar1_42, ar1_43, ar1_44, ar1_45, ar1_46, ar1_47, ar1_48, ar1_49, ar1_5, ar1_50, ar1_51, ar1_52, ar1_53, ar1_54, ar1_55, ar1_56, ar1_57, ar1_58, ar1_59, ar1_6, ar1_60, ar1_61, ar1_62, ar1_63, ar1_64, ar1_65, ar1_66, ar1_67, ar1_68, ar1_69, ar1_7, ar1_70, ar1_71, ar1_72, ar1_73, ar1_74, ar1_75, ar1_76, ar1_77, ar1_78, ar1_79, ar1_8, ar1_80, ar1_81, ar1_82, ar1_83, ar1_84, ar1_85, ar1_86, ar1_87, ar1_88, ar1_89, ar1_9, ar1_90, ar1_91, ar1_92, ar1_93, ar1_94, ar1_95, ar1_96, ar1_97, ar1_98, ar1_99, lk_0, lk_1, lk_2, lk_3, lk_4, lk_5, lk_6, lk_7, st1_3, st1_4, st1_5, st1_6, st1_7]
            repeat' (with_reducible (first | apply And.intro | intro _))
            all_goals first | omega | skip
            refine htake (by omega) (by simp only [Nat.reduceAdd]; omega) _ _ _ ?_
            rw [z_shl1 (by omega)]
  have hfirst : ∀ z3 z4 z7 : Option ab_V, ab_Runs ab_G1 mdX8_cheaper [vI (σ (o + 4) (σ 8 s) + 16 * σ o 8 * t), vI (σ (o + 4) (σ 9 s) + 16 * σ o 8 * (σ 10 s - t))] σ (fun v τ => ab_b1 [v] (fun x r => G 72 [some (vR o), some (vI s), some (vI t), z3, z4, some (vI x), some (vI 0), z7] r τ)) := by
    intro z3 z4 z7
    have a1 : 16 * σ o 8 * t = 16 * (σ o 8 * t) := Int.mul_assoc _ _ _
    have a2 : 16 * σ o 8 * (σ 10 s - t) = 16 * (σ o 8 * (σ 10 s - t)) := Int.mul_assoc _ _ _
    refine r_cheaper (by omega) (by omega) ?_
    have e1 : σ (o + 4) (σ 8 s) + 16 * σ o 8 * t = 16 * (mA + σ o 8 * t) + zmsk (σ o 7) (fun j => σ (o + 2) j + σ o 8 * σ (o + 3) (12 * j + σ 8 s)) mA := by omega
    have e2 : σ (o + 4) (σ 9 s) + 16 * σ o 8 * (σ 10 s - t) = 16 * (mB + σ o 8 * (σ 10 s - t)) + zmsk (σ o 7) (fun j => σ (o + 2) j + σ o 8 * σ (o + 3) (12 * j + σ 9 s)) mB := by omega
    rw [e1, e2, em]
    exact key 5 0 _ _ z3 z4 z7 (by omega) (by omega) (by omega) (by omega) lm (fun i p1 p2 => by omega) (fun i p1 => rfl)
  rcases ho with rfl | rfl
  · apply hG [72] 60
    simp only [cq_lt, cq_le, cq_gt, cq_ge, cq_eq, cq_r1, cq_r2, ab_r32, ab_r64, ab_go, ab_stp, wp_z, wp_s, ab_in, ab_gv, ab_psh, ab_rok, ab_wsum, ab_prm, ab_ret, ab_sw, ab_cd, ab_tg, ab_cat_i, ab_cat_l, ab_cat_r, ab_cl_n, ab_cl_i, ab_cl_l, ab_cl_r, ab_f2_0, ab_f2_1, ab_f4_0, ab_f4_1, ab_f4_2, ab_f4_3, ab_op_s, ab_gI_s, ab_gL_s, ab_gR_s, ab_b1_s, ab_b2_s, ab_l1_s, ab_l2_s, ab_li_s, ab_o1_s, ab_io_s, ab_lo1_s, ab_iio_s, ab_lio_s, ab_cp5_s, ab_d2_l, ab_d2_i, ab_d2_o, ex_iconst, ex_bipush, ex_sipush, ex_lconst, ex_ldc, ex_ldc_w, ex_ldc2_w, ex_iload_n, ex_iload, ex_lload_n, ex_lload, ex_aload_n, ex_aload, ex_istore_n, ex_istore, ex_lstore_n, ex_lstore, ex_iinc, ex_iadd, ex_isub, ex_imul, ex_iand, ex_ior, ex_ixor, ex_ishl, ex_ishr, ex_iushr, ex_idiv, ex_irem, ex_ladd, ex_lsub, ex_lmul, ex_lor, ex_ldiv, ex_lrem, ex_lshl, ex_lcmp, ex_ineg, ex_lneg, ex_i2l, ex_l2i, ex_i2b, ex_dup, ex_pop, ex_dup2, ex_goto, ex_ifCond, ex_if_icmp, ex_tableswitch, ex_getfield, ex_putfield, ex_iaload, ex_laload, ex_baload, ex_iastore, ex_lastore, ex_bastore, ex_aaload, ex_arraylength, ex_invokevirtual, ex_invokestatic, ex_ireturn, ex_lreturn, ex_return_, List.map_cons, List.map_nil, List.sum_cons, List.sum_nil, List.drop_succ_cons, List.drop_zero, List.take_succ_cons, List.take_zero, List.reverse_cons, List.reverse_nil, List.nil_append, List.cons_append, List.length_cons, List.length_nil, true_and, and_true, cond_false, cond_true, Bool.false_or, Bool.or_false, Bool.or_true, Bool.true_or, true_or, or_true, false_or, or_false, if_true, if_false, reduceIte, ite_true, ite_false, implies_true, true_implies, false_implies, forall_const, not_true_eq_false, not_false_eq_true, Nat.reduceAdd, Nat.reduceMul, Nat.reduceSub, Nat.reduceBEq, Nat.reduceEqDiff, Nat.reduceLeDiff, Nat.reduceLT, Int.reduceAdd, Int.reduceSub, Int.reduceMul, Int.reduceNeg, Int.reduceToNat, Int.reduceLE, Int.reduceLT, Int.reduceEq, Int.reduceNe, Int.reduceNatCast, Nat.add_zero, Nat.zero_add, reduceCtorEq, Int.reduceNatCast', moX8_cheapestOn, dX8_cheapestOn_0, dX8_cheapestOn_1, gt1_8_21_65, gt1_8_21_76, dX8_cheapestOn_4, dX8_cheapestOn_5, gt1_8_34_65, gt1_8_34_76, dX8_cheapestOn_8, gt1_8_88_3, gt1_8_88_12, dX8_cheapestOn_11, dX8_cheapestOn_12, dX8_cheapestOn_13, dX8_cheapestOn_14, dX8_cheapestOn_16, dX8_cheapestOn_17, gt1_8_31_65, gt1_8_31_76, dX8_cheapestOn_20, dX8_cheapestOn_21, dX8_cheapestOn_22, dX8_cheapestOn_23, dX8_cheapestOn_24, dX8_cheapestOn_25, dX8_cheapestOn_26, dX8_cheapestOn_29, dX8_cheapestOn_30, dX8_cheapestOn_33, gt1_8_94_3, gt1_8_94_12, dX8_cheapestOn_36, dX8_cheapestOn_37, dX8_cheapestOn_38, dX8_cheapestOn_39, dX8_cheapestOn_41, dX8_cheapestOn_42, dX8_cheapestOn_45, dX8_cheapestOn_46, dX8_cheapestOn_47, dX8_cheapestOn_50, gt1_8_91_3, gt1_8_91_12, dX8_cheapestOn_53, dX8_cheapestOn_54, dX8_cheapestOn_55, dX8_cheapestOn_56, dX8_cheapestOn_57, dX8_cheapestOn_58, dX8_cheapestOn_59, dX8_cheapestOn_61, dX8_cheapestOn_62, dX8_cheapestOn_64, is8_113, moX8_cheaper, dX8_cheapestOn_67, dX8_cheapestOn_69, dX8_cheapestOn_70, dX8_cheapestOn_72, dX8_cheapestOn_74, dX8_cheapestOn_75, gt1_8_27_65, gt1_8_27_76, dX8_cheapestOn_78, dX8_cheapestOn_81, dX8_cheapestOn_82, gt1_8_9_65, gt1_8_9_76, dX8_cheapestOn_85, dX8_cheapestOn_87, dX8_cheapestOn_88, dX8_cheapestOn_90, dX8_cheapestOn_93, dX8_cheapestOn_94, dX8_cheapestOn_97, dX8_cheapestOn_99, dX8_cheapestOn_100, is8_82, moX9_streetOf, dX8_cheapestOn_103, dX8_cheapestOn_104, dX8_cheapestOn_107, dX8_cheapestOn_108, dX8_cheapestOn_109, dX8_cheapestOn_112, dX8_cheapestOn_114, dX8_cheapestOn_115, is8_85, moX9_placeOf, dX8_cheapestOn_118, dX8_cheapestOn_119, is8_103, pr8_103, dX8_cheapestOn_122, dX8_cheapestOn_124, dX8_cheapestOn_126, dX8_cheapestOn_128, dX8_cheapestOn_129, gt1_8_15_65, gt1_8_15_76, dX8_cheapestOn_132, dX8_cheapestOn_134, dX8_cheapestOn_135, dX8_cheapestOn_136, dX8_cheapestOn_139, dX8_cheapestOn_141, dX8_cheapestOn_142, dX8_cheapestOn_143, dX8_cheapestOn_144, dX8_cheapestOn_145, dX8_cheapestOn_147, dX8_cheapestOn_148, dX8_cheapestOn_149, dX8_cheapestOn_152, dX8_cheapestOn_154, dX8_cheapestOn_157, dX8_cheapestOn_160, dX8_cheapestOn_162, ar1_0, ar1_1, ar1_10, ar1_100, ar1_101, ar1_102, ar1_11, ar1_12, ar1_13, ar1_14, ar1_15, ar1_16, ar1_17, ar1_18, ar1_19, ar1_2, ar1_20, ar1_21, ar1_22, ar1_23, ar1_24, ar1_25, ar1_26, ar1_27, ar1_28, ar1_29, ar1_3, ar1_30, ar1_31, ar1_32, ar1_33, ar1_34, ar1_35, ar1_36, ar1_37, ar1_38, ar1_39, ar1_4, ar1_40, ar1_41, ar1_42, ar1_43, ar1_44, ar1_45, ar1_46, ar1_47, ar1_48, ar1_49, ar1_5, ar1_50, ar1_51, ar1_52, ar1_53, ar1_54, ar1_55, ar1_56, ar1_57, ar1_58, ar1_59, ar1_6, ar1_60, ar1_61, ar1_62, ar1_63, ar1_64, ar1_65, ar1_66, ar1_67, ar1_68, ar1_69, ar1_7, ar1_70, ar1_71, ar1_72, ar1_73, ar1_74, ar1_75, ar1_76, ar1_77, ar1_78, ar1_79, ar1_8, ar1_80, ar1_81, ar1_82, ar1_83, ar1_84, ar1_85, ar1_86, ar1_87, ar1_88, ar1_89, ar1_9, ar1_90, ar1_91, ar1_92, ar1_93, ar1_94, ar1_95, ar1_96, ar1_97, ar1_98, ar1_99, lk_0, lk_1, lk_2, lk_3, lk_4, lk_5, lk_6, lk_7, st1_3, st1_4, st1_5, st1_6, st1_7]
    repeat' (with_reducible (first | apply And.intro | intro _))
    all_goals first | omega | skip
    exact hfirst _ _ _
  · apply hG [72] 60
    simp only [cq_lt, cq_le, cq_gt, cq_ge, cq_eq, cq_r1, cq_r2, ab_r32, ab_r64, ab_go, ab_stp, wp_z, wp_s, ab_in, ab_gv, ab_psh, ab_rok, ab_wsum, ab_prm, ab_ret, ab_sw, ab_cd, ab_tg, ab_cat_i, ab_cat_l, ab_cat_r, ab_cl_n, ab_cl_i, ab_cl_l, ab_cl_r, ab_f2_0, ab_f2_1, ab_f4_0, ab_f4_1, ab_f4_2, ab_f4_3, ab_op_s, ab_gI_s, ab_gL_s, ab_gR_s, ab_b1_s, ab_b2_s, ab_l1_s, ab_l2_s, ab_li_s, ab_o1_s, ab_io_s, ab_lo1_s, ab_iio_s, ab_lio_s, ab_cp5_s, ab_d2_l, ab_d2_i, ab_d2_o, ex_iconst, ex_bipush, ex_sipush, ex_lconst, ex_ldc, ex_ldc_w, ex_ldc2_w, ex_iload_n, ex_iload, ex_lload_n, ex_lload, ex_aload_n, ex_aload, ex_istore_n, ex_istore, ex_lstore_n, ex_lstore, ex_iinc, ex_iadd, ex_isub, ex_imul, ex_iand, ex_ior, ex_ixor, ex_ishl, ex_ishr, ex_iushr, ex_idiv, ex_irem, ex_ladd, ex_lsub, ex_lmul, ex_lor, ex_ldiv, ex_lrem, ex_lshl, ex_lcmp, ex_ineg, ex_lneg, ex_i2l, ex_l2i, ex_i2b, ex_dup, ex_pop, ex_dup2, ex_goto, ex_ifCond, ex_if_icmp, ex_tableswitch, ex_getfield, ex_putfield, ex_iaload, ex_laload, ex_baload, ex_iastore, ex_lastore, ex_bastore, ex_aaload, ex_arraylength, ex_invokevirtual, ex_invokestatic, ex_ireturn, ex_lreturn, ex_return_, List.map_cons, List.map_nil, List.sum_cons, List.sum_nil, List.drop_succ_cons, List.drop_zero, List.take_succ_cons, List.take_zero, List.reverse_cons, List.reverse_nil, List.nil_append, List.cons_append, List.length_cons, List.length_nil, true_and, and_true, cond_false, cond_true, Bool.false_or, Bool.or_false, Bool.or_true, Bool.true_or, true_or, or_true, false_or, or_false, if_true, if_false, reduceIte, ite_true, ite_false, implies_true, true_implies, false_implies, forall_const, not_true_eq_false, not_false_eq_true, Nat.reduceAdd, Nat.reduceMul, Nat.reduceSub, Nat.reduceBEq, Nat.reduceEqDiff, Nat.reduceLeDiff, Nat.reduceLT, Int.reduceAdd, Int.reduceSub, Int.reduceMul, Int.reduceNeg, Int.reduceToNat, Int.reduceLE, Int.reduceLT, Int.reduceEq, Int.reduceNe, Int.reduceNatCast, Nat.add_zero, Nat.zero_add, reduceCtorEq, Int.reduceNatCast', moX8_cheapestOn, dX8_cheapestOn_0, dX8_cheapestOn_1, gt1_8_21_65, gt1_8_21_76, dX8_cheapestOn_4, dX8_cheapestOn_5, gt1_8_34_65, gt1_8_34_76, dX8_cheapestOn_8, gt1_8_88_3, gt1_8_88_12, dX8_cheapestOn_11, dX8_cheapestOn_12, dX8_cheapestOn_13, dX8_cheapestOn_14, dX8_cheapestOn_16, dX8_cheapestOn_17, gt1_8_31_65, gt1_8_31_76, dX8_cheapestOn_20, dX8_cheapestOn_21, dX8_cheapestOn_22, dX8_cheapestOn_23, dX8_cheapestOn_24, dX8_cheapestOn_25, dX8_cheapestOn_26, dX8_cheapestOn_29, dX8_cheapestOn_30, dX8_cheapestOn_33, gt1_8_94_3, gt1_8_94_12, dX8_cheapestOn_36, dX8_cheapestOn_37, dX8_cheapestOn_38, dX8_cheapestOn_39, dX8_cheapestOn_41, dX8_cheapestOn_42, dX8_cheapestOn_45, dX8_cheapestOn_46, dX8_cheapestOn_47, dX8_cheapestOn_50, gt1_8_91_3, gt1_8_91_12, dX8_cheapestOn_53, dX8_cheapestOn_54, dX8_cheapestOn_55, dX8_cheapestOn_56, dX8_cheapestOn_57, dX8_cheapestOn_58, dX8_cheapestOn_59, dX8_cheapestOn_61, dX8_cheapestOn_62, dX8_cheapestOn_64, is8_113, moX8_cheaper, dX8_cheapestOn_67, dX8_cheapestOn_69, dX8_cheapestOn_70, dX8_cheapestOn_72, dX8_cheapestOn_74, dX8_cheapestOn_75, gt1_8_27_65, gt1_8_27_76, dX8_cheapestOn_78, dX8_cheapestOn_81, dX8_cheapestOn_82, gt1_8_9_65, gt1_8_9_76, dX8_cheapestOn_85, dX8_cheapestOn_87, dX8_cheapestOn_88, dX8_cheapestOn_90, dX8_cheapestOn_93, dX8_cheapestOn_94, dX8_cheapestOn_97, dX8_cheapestOn_99, dX8_cheapestOn_100, is8_82, moX9_streetOf, dX8_cheapestOn_103, dX8_cheapestOn_104, dX8_cheapestOn_107, dX8_cheapestOn_108, dX8_cheapestOn_109, dX8_cheapestOn_112, dX8_cheapestOn_114, dX8_cheapestOn_115, is8_85, moX9_placeOf, dX8_cheapestOn_118, dX8_cheapestOn_119, is8_103, pr8_103, dX8_cheapestOn_122, dX8_cheapestOn_124, dX8_cheapestOn_126, dX8_cheapestOn_128, dX8_cheapestOn_129, gt1_8_15_65, gt1_8_15_76, dX8_cheapestOn_132, dX8_cheapestOn_134, dX8_cheapestOn_135, dX8_cheapestOn_136, dX8_cheapestOn_139, dX8_cheapestOn_141, dX8_cheapestOn_142, dX8_cheapestOn_143, dX8_cheapestOn_144, dX8_cheapestOn_145, dX8_cheapestOn_147, dX8_cheapestOn_148, dX8_cheapestOn_149, dX8_cheapestOn_152, dX8_cheapestOn_154, dX8_cheapestOn_157, dX8_cheapestOn_160, dX8_cheapestOn_162, ar1_0, ar1_1, ar1_10, ar1_100, ar1_101, ar1_102, ar1_11, ar1_12, ar1_13, ar1_14, ar1_15, ar1_16, ar1_17, ar1_18, ar1_19, ar1_2, ar1_20, ar1_21, ar1_22, ar1_23, ar1_24, ar1_25, ar1_26, ar1_27, ar1_28, ar1_29, ar1_3, ar1_30, ar1_31, ar1_32, ar1_33, ar1_34, ar1_35, ar1_36, ar1_37, ar1_38, ar1_39, ar1_4, ar1_40, ar1_41, ar1_42, ar1_43, ar1_44, ar1_45, ar1_46, ar1_47, ar1_48, ar1_49, ar1_5, ar1_50, ar1_51, ar1_52, ar1_53, ar1_54, ar1_55, ar1_56, ar1_57, ar1_58, ar1_59, ar1_6, ar1_60, ar1_61, ar1_62, ar1_63, ar1_64, ar1_65, ar1_66, ar1_67, ar1_68, ar1_69, ar1_7, ar1_70, ar1_71, ar1_72, ar1_73, ar1_74, ar1_75, ar1_76, ar1_77, ar1_78, ar1_79, ar1_8, ar1_80, ar1_81, ar1_82, ar1_83, ar1_84, ar1_85, ar1_86, ar1_87, ar1_88, ar1_89, ar1_9, ar1_90, ar1_91, ar1_92, ar1_93, ar1_94, ar1_95, ar1_96, ar1_97, ar1_98, ar1_99, lk_0, lk_1, lk_2, lk_3, lk_4, lk_5, lk_6, lk_7, st1_3, st1_4, st1_5, st1_6, st1_7]
    repeat' (with_reducible (first | apply And.intro | intro _))
    all_goals first | omega | skip
    exact hfirst _ _ _
