-- CLASS: Market.goRound
/-- the market's own rows put anew -/
def ab_mk (σ : ab_S) (b m t c s : Int → Int) : ab_S := ab_set (ab_set (ab_set (ab_set (ab_set σ 69 b) 70 m) 73 t) 74 c) 75 s
theorem mk_all (σ : ab_S) : ab_mk σ (σ 69) (σ 70) (σ 73) (σ 74) (σ 75) = σ := by
  funext o
  unfold ab_mk ab_set
  repeat' split
  all_goals first | rfl | (rename_i h; rw [h])
theorem mk_base (σ : ab_S) (b m t c s f : Int → Int) : ab_set (ab_mk σ b m t c s) 69 f = ab_mk σ f m t c s := by
  funext o
  unfold ab_mk ab_set
  by_cases h1 : o = 75 <;> by_cases h2 : o = 74 <;> by_cases h3 : o = 73 <;> by_cases h4 : o = 70 <;> by_cases h5 : o = 69 <;> simp [h1, h2, h3, h4, h5] <;> omega
theorem mk_marks (σ : ab_S) (b m t c s f : Int → Int) : ab_set (ab_mk σ b m t c s) 70 f = ab_mk σ b f t c s := by
  funext o
  unfold ab_mk ab_set
  by_cases h1 : o = 75 <;> by_cases h2 : o = 74 <;> by_cases h3 : o = 73 <;> by_cases h4 : o = 70 <;> by_cases h5 : o = 69 <;> simp [h1, h2, h3, h4, h5] <;> omega
theorem mk_tally (σ : ab_S) (b m t c s f : Int → Int) : ab_set (ab_mk σ b m t c s) 73 f = ab_mk σ b m f c s := by
  funext o
  unfold ab_mk ab_set
  by_cases h1 : o = 75 <;> by_cases h2 : o = 74 <;> by_cases h3 : o = 73 <;> by_cases h4 : o = 70 <;> by_cases h5 : o = 69 <;> simp [h1, h2, h3, h4, h5] <;> omega
theorem mk_mask (σ : ab_S) (b m t c s f : Int → Int) : ab_set (ab_mk σ b m t c s) 74 f = ab_mk σ b m t f s := by
  funext o
  unfold ab_mk ab_set
  by_cases h1 : o = 75 <;> by_cases h2 : o = 74 <;> by_cases h3 : o = 73 <;> by_cases h4 : o = 70 <;> by_cases h5 : o = 69 <;> simp [h1, h2, h3, h4, h5] <;> omega
theorem mk_sales (σ : ab_S) (b m t c s f : Int → Int) : ab_set (ab_mk σ b m t c s) 75 f = ab_mk σ b m t c f := by
  funext o
  unfold ab_mk ab_set
  by_cases h1 : o = 75 <;> by_cases h2 : o = 74 <;> by_cases h3 : o = 73 <;> by_cases h4 : o = 70 <;> by_cases h5 : o = 69 <;> simp [h1, h2, h3, h4, h5] <;> omega
/-- all that buy by the bits x -/
def zTal (σ : ab_S) (x : Int) (k s : Nat) : Int := zS (fun i => if zCm σ i = x then 24 * σ 65 8 * σ 6 i else 0) k + zS (fun i => if σ 30 i = 0 then 12 * σ 11 i * zCells σ 65 i x (2 * (σ 65 8 * σ 10 i)).toNat else 0) s
/-- the base row at a corner, of a row b -/
def zBr (σ : ab_S) (b : Int → Int) (c : Int) : Prop := ∃ m, (0 ≤ m ∧ m ≤ 1000000) ∧ zLe (σ 65 7) (fun j => σ 67 j + σ 65 8 * σ 68 (12 * j + c)) 1000000 m ∧ b c = 16 * m + zmsk (σ 65 7) (fun j => σ 67 j + σ 65 8 * σ 68 (12 * j + c)) m
theorem zS_in {f : Nat → Int} {B : Int} (hB : 0 ≤ B) : ∀ {n : Nat}, (∀ i, i < n → 0 ≤ f i ∧ f i ≤ B) → 0 ≤ zS f n ∧ zS f n ≤ n * B
  | 0, _ => by simp [zS]
  | n + 1, h => by
    have ih := zS_in hB (n := n) (fun i hi => h i (by omega))
    have h1 := h n (by omega)
    have e : ((n + 1 : Nat) : Int) * B = n * B + B := by rw [Int.natCast_succ, Int.add_mul, Int.one_mul]
    rw [zS, e]
    omega
theorem zCells_in (σ : ab_S) (o : Nat) (s x : Int) (c : Nat) : 0 ≤ zCells σ o s x c ∧ zCells σ o s x c ≤ c := by
  have := zS_in (f := fun i : Nat => if zbits (σ o 7) (zCX σ o s (2 * i + 1)) (4 * σ 3 11) = x then 1 else 0) (B := 1) (by omega) (n := c) (fun i _ => by split <;> omega)
  unfold zCells
  omega
/-- what goRound needs of the town's people -/
def zPp (σ : ab_S) : Prop := (∀ k, 0 ≤ k → k < σ 3 8 → 0 ≤ σ 6 k ∧ σ 6 k ≤ 198) ∧ (∀ s, 0 ≤ s → s < σ 3 9 → 0 ≤ σ 11 s ∧ σ 11 s ≤ 20) ∧ (∀ s, 0 ≤ s → s < 16 → σ 30 s = 0 ∨ σ 30 s = 1) ∧ (0 ≤ σ 3 11 ∧ σ 3 11 ≤ 9999)
theorem zTal_in {σ : ab_S} {x : Int} {k s : Nat} (hT : zTn σ) (hp : 1 ≤ σ 65 8 ∧ σ 65 8 ≤ 5) (hP : zPp σ) (hk : (k : Int) ≤ σ 3 8) (hs : (s : Int) ≤ σ 3 9) : 0 ≤ zTal σ x k s ∧ zTal σ x k s ≤ 100000000 := by
  obtain ⟨p1, p2, p3, p4⟩ := hP
  have hT1 := hT.1
  have hT2 := hT.2.1
  have a := zS_in (f := fun i : Nat => if zCm σ i = x then 24 * σ 65 8 * σ 6 i else 0) (B := 24000) (by omega) (n := k) (fun i hi => by
    have q := p1 i (by omega) (by omega)
    have q2 := zmul5 hp (x := σ 6 i) (by omega)
    have e : 24 * σ 65 8 * σ 6 i = 24 * (σ 65 8 * σ 6 i) := Int.mul_assoc _ _ _
    split <;> omega)
  have b := zS_in (f := fun i : Nat => if σ 30 i = 0 then 12 * σ 11 i * zCells σ 65 i x (2 * (σ 65 8 * σ 10 i)).toNat else 0) (B := 240 * 120) (by omega) (n := s) (fun i hi => by
    have q := p2 i (by omega) (by omega)
    have q2 := hT.2.2 i (by omega) (by omega)
    have q3 := zmul12 hp (t := σ 10 i) (by omega)
    have q4 := zCells_in σ 65 i x (2 * (σ 65 8 * σ 10 i)).toNat
    have q5 : 12 * σ 11 i * zCells σ 65 i x (2 * (σ 65 8 * σ 10 i)).toNat ≤ 240 * zCells σ 65 i x (2 * (σ 65 8 * σ 10 i)).toNat := Int.mul_le_mul_of_nonneg_right (by omega) q4.1
    have q6 : 0 ≤ 12 * σ 11 i * zCells σ 65 i x (2 * (σ 65 8 * σ 10 i)).toNat := Int.mul_nonneg (by omega) q4.1
    split <;> omega)
  unfold zTal
  omega
theorem zTal_s (σ : ab_S) (x : Int) (k s : Nat) : zTal σ x k (s + 1) = zTal σ x k s + (if σ 30 s = 0 then 12 * σ 11 s * zCells σ 65 s x (2 * (σ 65 8 * σ 10 s)).toNat else 0) := by
  unfold zTal
  simp only [zS]
  omega
theorem zTal_k (σ : ab_S) (x : Int) (k : Nat) : zTal σ x (k + 1) 0 = zTal σ x k 0 + (if zCm σ k = x then 24 * σ 65 8 * σ 6 k else 0) := by
  unfold zTal
  simp only [zS]
  omega
set_option maxRecDepth 100000 in
set_option maxHeartbeats 4000000 in
theorem r_goRoundM {σ : ab_S} {K : ab_V → ab_S → Prop} (hT : zTn σ) (hS : zSv σ 65) (hb : zMb σ) (hP : zPp σ) (hTri : ∀ s, 0 ≤ s → s < σ 3 9 → σ 30 s = 0 → zTri σ 65 s)
    (h : ∀ b m t c s, (∀ k, 0 ≤ k → k < σ 3 8 → c k = zCm σ k) → (∀ x, 0 ≤ x → x < 16 → t x = zTal σ x (σ 3 8).toNat (σ 3 9).toNat) → (∀ j, 0 ≤ j → j < σ 65 7 → s j = zsl t j 15) → K (vI 0) (ab_mk σ b m t c s)) : ab_Runs ab_G1 mdX8_goRound [vR 65] σ K := by
  refine ab_runs mwX8_goRound (by decide +kernel) (Nat.le_of_ble_eq_true rfl) (fun G hG => ?_)
  show G 0 [some (vR 65), none] [] _
  have hS' := id hS
  obtain ⟨⟨n1, n2⟩, hp, hj⟩ := hS'
  have hT1 := hT.1
  have hT2 := hT.2.1
  obtain ⟨p1, p2, p3, p4⟩ := id hP
  have key2 : ∀ (k : Nat) (i : Nat) (b m t c : Int → Int), σ 3 9 - i < k → (i : Int) ≤ σ 3 9 → zMk σ 65 (σ 65 7) m → (∀ c, 0 ≤ c → c < σ 3 8 → zBr σ b c) → (∀ k, 0 ≤ k → k < σ 3 8 → c k = zCm σ k) → (∀ x, 0 ≤ x → x < 16 → t x = zTal σ x (σ 3 8).toNat i) → G 45 [some (vR 65), some (vI i)] [] (ab_mk σ b m t c (zfill (σ 75) 4 0)) := by
    intro k
    induction k with
    | zero => intro i b m t c h1 h2; omega
    | succ k ih =>
      intro i b m t c h1 h2 hm hB hc ht
      apply hG [45] 60
      simp only [cq_lt, cq_le, cq_gt, cq_ge, cq_eq, cq_r1, cq_r2, ab_r32, ab_r64, ab_go, ab_stp, wp_z, wp_s, ab_in, ab_gv, ab_psh, ab_rok, ab_wsum, ab_prm, ab_ret, ab_sw, ab_cd, ab_tg, ab_cat_i, ab_cat_l, ab_cat_r, ab_cl_n, ab_cl_i, ab_cl_l, ab_cl_r, ab_f2_0, ab_f2_1, ab_f4_0, ab_f4_1, ab_f4_2, ab_f4_3, ab_op_s, ab_gI_s, ab_gL_s, ab_gR_s, ab_b1_s, ab_b2_s, ab_l1_s, ab_l2_s, ab_li_s, ab_o1_s, ab_io_s, ab_lo1_s, ab_iio_s, ab_lio_s, ab_cp5_s, ab_d2_l, ab_d2_i, ab_d2_o, ex_iconst, ex_bipush, ex_sipush, ex_lconst, ex_ldc, ex_ldc_w, ex_ldc2_w, ex_iload_n, ex_iload, ex_lload_n, ex_lload, ex_aload_n, ex_aload, ex_istore_n, ex_istore, ex_lstore_n, ex_lstore, ex_iinc, ex_iadd, ex_isub, ex_imul, ex_iand, ex_ior, ex_ixor, ex_ishl, ex_ishr, ex_iushr, ex_idiv, ex_irem, ex_ladd, ex_lsub, ex_lmul, ex_lor, ex_ldiv, ex_lrem, ex_lshl, ex_lcmp, ex_ineg, ex_lneg, ex_i2l, ex_l2i, ex_i2b, ex_dup, ex_pop, ex_dup2, ex_goto, ex_ifCond, ex_if_icmp, ex_tableswitch, ex_getfield, ex_putfield, ex_iaload, ex_laload, ex_baload, ex_iastore, ex_lastore, ex_bastore, ex_aaload, ex_arraylength, ex_invokevirtual, ex_invokestatic, ex_ireturn, ex_lreturn, ex_return_, List.map_cons, List.map_nil, List.sum_cons, List.sum_nil, List.drop_succ_cons, List.drop_zero, List.take_succ_cons, List.take_zero, List.reverse_cons, List.reverse_nil, List.nil_append, List.cons_append, List.length_cons, List.length_nil, true_and, and_true, cond_false, cond_true, Bool.false_or, Bool.or_false, Bool.or_true, Bool.true_or, true_or, or_true, false_or, or_false, if_true, if_false, reduceIte, ite_true, ite_false, implies_true, true_implies, false_implies, forall_const, not_true_eq_false, not_false_eq_true, Nat.reduceAdd, Nat.reduceMul, Nat.reduceSub, Nat.reduceBEq, Nat.reduceEqDiff, Nat.reduceLeDiff, Nat.reduceLT, Int.reduceAdd, Int.reduceSub, Int.reduceMul, Int.reduceNeg, Int.reduceToNat, Int.reduceLE, Int.reduceLT, Int.reduceEq, Int.reduceNe, Int.reduceNatCast, Nat.add_zero, Nat.zero_add, reduceCtorEq, Int.reduceNatCast', moX8_goRound, dX8_goRound_0, dX8_goRound_1, vn8_47, iv8_47_3, moX3_open, iv8_47_9, moX10_open, dX8_goRound_4, dX8_goRound_5, vn8_50, iv8_50_3, moX8_markStreets, iv8_50_9, dX8_goRound_8, dX8_goRound_9, dX8_goRound_10, dX8_goRound_11, dX8_goRound_12, gt1_8_34_65, gt1_8_34_76, dX8_goRound_15, gt1_8_53_3, gt1_8_53_12, dX8_goRound_18, dX8_goRound_21, dX8_goRound_22, gt1_8_21_65, gt1_8_21_76, dX8_goRound_25, dX8_goRound_26, dX8_goRound_27, dX8_goRound_28, vn8_58, iv8_58_3, moX8_cheapest, iv8_58_9, dX8_goRound_31, dX8_goRound_32, dX8_goRound_33, dX8_goRound_34, vn8_62, iv8_62_3, moX3_meetCorner, iv8_62_9, moX10_meetCorner, dX8_goRound_37, dX8_goRound_40, dX8_goRound_43, dX8_goRound_44, dX8_goRound_45, dX8_goRound_46, dX8_goRound_47, dX8_goRound_50, gt1_8_66_3, gt1_8_66_12, dX8_goRound_53, dX8_goRound_56, dX8_goRound_57, dX8_goRound_60, gt1_8_69_3, gt1_8_69_12, dX8_goRound_63, dX8_goRound_64, dX8_goRound_65, dX8_goRound_68, dX8_goRound_69, gt1_8_38_65, gt1_8_38_76, dX8_goRound_72, gt1_8_72_28, dX8_goRound_75, dX8_goRound_76, dX8_goRound_77, dX8_goRound_80, dX8_goRound_81, dX8_goRound_82, vn8_76, iv8_76_3, moX8_meetStreet, iv8_76_9, dX8_goRound_85, dX8_goRound_88, dX8_goRound_91, dX8_goRound_92, vn8_79, iv8_79_3, moX3_close, iv8_79_9, moX10_close, dX8_goRound_95, ar1_0, ar1_1, ar1_10, ar1_100, ar1_101, ar1_102, ar1_11, ar1_12, ar1_13, ar1_14, ar1_15, ar1_16, ar1_17, ar1_18, ar1_19, ar1_2, ar1_20, ar1_21, ar1_22, ar1_23, ar1_24, ar1_25, ar1_26, ar1_27, ar1_28, ar1_29, ar1_3, ar1_30, ar1_31, ar1_32, ar1_33, ar1_34, ar1_35, ar1_36, ar1_37, ar1_38, ar1_39, ar1_4, ar1_40, ar1_41, ar1_42, ar1_43, ar1_44, ar1_45, ar1_46, ar1_47, ar1_48, ar1_49, ar1_5, ar1_50, ar1_51, ar1_52, ar1_53, ar1_54, ar1_55, ar1_56, ar1_57, ar1_58, ar1_59, ar1_6, ar1_60, ar1_61, ar1_62, ar1_63, ar1_64, ar1_65, ar1_66, ar1_67, ar1_68, ar1_69, ar1_7, ar1_70, ar1_71, ar1_72, ar1_73, ar1_74, ar1_75, ar1_76, ar1_77, ar1_78, ar1_79, ar1_8, ar1_80, ar1_81, ar1_82, ar1_83, ar1_84, ar1_85, ar1_86, ar1_87, ar1_88, ar1_89, ar1_9, ar1_90, ar1_91, ar1_92, ar1_93, ar1_94, ar1_95, ar1_96, ar1_97, ar1_98, ar1_99, lk_0, lk_1, st1_1, ab_mk, ab_set]
      repeat' (with_reducible (first | apply And.intro | intro _))
      all_goals first | omega | skip
      · rename_i hq
        have e : (σ 3 9).toNat = i := by omega
        refine r_mClose (σ := ab_mk σ b m t c (zfill (σ 75) 4 0)) ⟨n1, n2⟩ (fun x x1 x2 => ?_) (fun g hg => ?_)
        · show 0 ≤ t x ∧ t x ≤ 100000000
          rw [ht x x1 x2]
          exact zTal_in hT hp hP (by omega) (by omega)
        · rw [mk_sales]
          refine h b m t c g hc (fun x x1 x2 => by rw [ht x x1 x2, e]) (fun j j1 j2 => ?_)
          have q : g j = zfill (σ 75) 4 0 j + zsl t j 15 := hg j j1 j2
          rw [q]
          unfold zfill
          rw [if_pos (by omega)]
          omega
      all_goals (have q := p2 i (by omega) (by omega); have q3 := p3 i (by omega) (by omega))
      all_goals first | omega | skip
      · exact ih (i + 1) b m t c (by omega) (by omega) hm hB hc (fun x x1 x2 => by
          rw [ht x x1 x2, zTal_s, show σ 11 i = 0 by omega]
          simp)
      · rename_i hq1 hq2 hq3
        exact ih (i + 1) b m t c (by omega) (by omega) hm hB hc (fun x x1 x2 => by
          rw [ht x x1 x2, zTal_s, if_neg hq3]
          omega)
      · rename_i hq1 hq2 hq3
        have hst := hT.2.2 i (by omega) (by omega)
        refine r_mStreet (σ := ab_mk σ b m t c (zfill (σ 75) 4 0)) hT hS ⟨by omega, by show (i : Int) < σ 3 9; omega⟩ (hB (σ 8 i) hst.1.1 hst.1.2) (hB (σ 9 i) hst.2.1.1 hst.2.1.2) hm (hTri i (by omega) (by omega) (by omega)) p4 (fun f hf => ?_)
        rw [mk_tally]
        exact ih (i + 1) b m f c (by omega) (by omega) hm hB hc (fun x x1 x2 => by
          have q : f x = t x + 12 * σ 11 i * zCells σ 65 i x (2 * (σ 65 8 * σ 10 i)).toNat := hf x
          rw [q, ht x x1 x2, zTal_s, if_pos (by omega)])
  have key1 : ∀ (n : Nat) (k : Nat) (b m t c : Int → Int), σ 3 8 - k < n → (k : Int) ≤ σ 3 8 → zMk σ 65 (σ 65 7) m → (∀ i, 0 ≤ i → i < (k : Int) → zBr σ b i) → (∀ i, 0 ≤ i → i < (k : Int) → c i = zCm σ i) → (∀ x, 0 ≤ x → x < 16 → t x = zTal σ x k 0) → G 10 [some (vR 65), some (vI k)] [] (ab_mk σ b m t c (zfill (σ 75) 4 0)) := by
    intro n
    induction n with
    | zero => intro k b m t c h1 h2; omega
    | succ n ih =>
      intro k b m t c h1 h2 hm hB hc ht
      have step : (k : Int) < σ 3 8 → ∀ e, (∃ mm, (0 ≤ mm ∧ mm ≤ 1000000) ∧ zLe (σ 65 7) (fun j => σ 67 j + σ 65 8 * σ 68 (12 * j + k)) 1000000 mm ∧ e = 16 * mm + zmsk (σ 65 7) (fun j => σ 67 j + σ 65 8 * σ 68 (12 * j + k)) mm) → ab_Runs ab_G1 mdX3_meetCorner [vR 65, vI k] (ab_up (ab_mk σ b m t c (zfill (σ 75) 4 0)) 69 k e) (fun v τ => G 10 [some (vR 65), some (vI (k + 1))] [] τ) := by
        intro hk e he
        rw [ab_up_eq, mk_base]
        refine r_mCorner (σ := ab_mk σ (zu b k e) m t c (zfill (σ 75) 4 0)) hT1.2 hS hb ⟨by omega, hk⟩ p4 ?_
        rw [mk_mask, mk_tally]
        refine ih (k + 1) (zu b k e) m _ _ (by omega) (by omega) hm (fun i i1 i2 => ?_) (fun i i1 i2 => ?_) (fun x x1 x2 => ?_)
        · unfold zBr
          by_cases q : i = k
          · rw [q, zu_at]
            exact he
          · rw [zu_ne _ _ q]
            exact hB i i1 (by omega)
        · by_cases q : i = k
          · rw [q]
            exact zu_at _ _ _
          · rw [zu_ne _ _ q]
            exact hc i i1 (by omega)
        · show t x + (if zCm σ k = x then 24 * σ 65 8 * σ 6 k else 0) = _
          rw [ht x x1 x2, zTal_k]
      apply hG [10, 45] 60
      simp only [cq_lt, cq_le, cq_gt, cq_ge, cq_eq, cq_r1, cq_r2, ab_r32, ab_r64, ab_go, ab_stp, wp_z, wp_s, ab_in, ab_gv, ab_psh, ab_rok, ab_wsum, ab_prm, ab_ret, ab_sw, ab_cd, ab_tg, ab_cat_i, ab_cat_l, ab_cat_r, ab_cl_n, ab_cl_i, ab_cl_l, ab_cl_r, ab_f2_0, ab_f2_1, ab_f4_0, ab_f4_1, ab_f4_2, ab_f4_3, ab_op_s, ab_gI_s, ab_gL_s, ab_gR_s, ab_b1_s, ab_b2_s, ab_l1_s, ab_l2_s, ab_li_s, ab_o1_s, ab_io_s, ab_lo1_s, ab_iio_s, ab_lio_s, ab_cp5_s, ab_d2_l, ab_d2_i, ab_d2_o, ex_iconst, ex_bipush, ex_sipush, ex_lconst, ex_ldc, ex_ldc_w, ex_ldc2_w, ex_iload_n, ex_iload, ex_lload_n, ex_lload, ex_aload_n, ex_aload, ex_istore_n, ex_istore, ex_lstore_n, ex_lstore, ex_iinc, ex_iadd, ex_isub, ex_imul, ex_iand, ex_ior, ex_ixor, ex_ishl, ex_ishr, ex_iushr, ex_idiv, ex_irem, ex_ladd, ex_lsub, ex_lmul, ex_lor, ex_ldiv, ex_lrem, ex_lshl, ex_lcmp, ex_ineg, ex_lneg, ex_i2l, ex_l2i, ex_i2b, ex_dup, ex_pop, ex_dup2, ex_goto, ex_ifCond, ex_if_icmp, ex_tableswitch, ex_getfield, ex_putfield, ex_iaload, ex_laload, ex_baload, ex_iastore, ex_lastore, ex_bastore, ex_aaload, ex_arraylength, ex_invokevirtual, ex_invokestatic, ex_ireturn, ex_lreturn, ex_return_, List.map_cons, List.map_nil, List.sum_cons, List.sum_nil, List.drop_succ_cons, List.drop_zero, List.take_succ_cons, List.take_zero, List.reverse_cons, List.reverse_nil, List.nil_append, List.cons_append, List.length_cons, List.length_nil, true_and, and_true, cond_false, cond_true, Bool.false_or, Bool.or_false, Bool.or_true, Bool.true_or, true_or, or_true, false_or, or_false, if_true, if_false, reduceIte, ite_true, ite_false, implies_true, true_implies, false_implies, forall_const, not_true_eq_false, not_false_eq_true, Nat.reduceAdd, Nat.reduceMul, Nat.reduceSub, Nat.reduceBEq, Nat.reduceEqDiff, Nat.reduceLeDiff, Nat.reduceLT, Int.reduceAdd, Int.reduceSub, Int.reduceMul, Int.reduceNeg, Int.reduceToNat, Int.reduceLE, Int.reduceLT, Int.reduceEq, Int.reduceNe, Int.reduceNatCast, Nat.add_zero, Nat.zero_add, reduceCtorEq, Int.reduceNatCast', moX8_goRound, dX8_goRound_0, dX8_goRound_1, vn8_47, iv8_47_3, moX3_open, iv8_47_9, moX10_open, dX8_goRound_4, dX8_goRound_5, vn8_50, iv8_50_3, moX8_markStreets, iv8_50_9, dX8_goRound_8, dX8_goRound_9, dX8_goRound_10, dX8_goRound_11, dX8_goRound_12, gt1_8_34_65, gt1_8_34_76, dX8_goRound_15, gt1_8_53_3, gt1_8_53_12, dX8_goRound_18, dX8_goRound_21, dX8_goRound_22, gt1_8_21_65, gt1_8_21_76, dX8_goRound_25, dX8_goRound_26, dX8_goRound_27, dX8_goRound_28, vn8_58, iv8_58_3, moX8_cheapest, iv8_58_9, dX8_goRound_31, dX8_goRound_32, dX8_goRound_33, dX8_goRound_34, vn8_62, iv8_62_3, moX3_meetCorner, iv8_62_9, moX10_meetCorner, dX8_goRound_37, dX8_goRound_40, dX8_goRound_43, dX8_goRound_44, dX8_goRound_45, dX8_goRound_46, dX8_goRound_47, dX8_goRound_50, gt1_8_66_3, gt1_8_66_12, dX8_goRound_53, dX8_goRound_56, dX8_goRound_57, dX8_goRound_60, gt1_8_69_3, gt1_8_69_12, dX8_goRound_63, dX8_goRound_64, dX8_goRound_65, dX8_goRound_68, dX8_goRound_69, gt1_8_38_65, gt1_8_38_76, dX8_goRound_72, gt1_8_72_28, dX8_goRound_75, dX8_goRound_76, dX8_goRound_77, dX8_goRound_80, dX8_goRound_81, dX8_goRound_82, vn8_76, iv8_76_3, moX8_meetStreet, iv8_76_9, dX8_goRound_85, dX8_goRound_88, dX8_goRound_91, dX8_goRound_92, vn8_79, iv8_79_3, moX3_close, iv8_79_9, moX10_close, dX8_goRound_95, ar1_0, ar1_1, ar1_10, ar1_100, ar1_101, ar1_102, ar1_11, ar1_12, ar1_13, ar1_14, ar1_15, ar1_16, ar1_17, ar1_18, ar1_19, ar1_2, ar1_20, ar1_21, ar1_22, ar1_23, ar1_24, ar1_25, ar1_26, ar1_27, ar1_28, ar1_29, ar1_3, ar1_30, ar1_31, ar1_32, ar1_33, ar1_34, ar1_35, ar1_36, ar1_37, ar1_38, ar1_39, ar1_4, ar1_40, ar1_41, ar1_42, ar1_43, ar1_44, ar1_45, ar1_46, ar1_47, ar1_48, ar1_49, ar1_5, ar1_50, ar1_51, ar1_52, ar1_53, ar1_54, ar1_55, ar1_56, ar1_57, ar1_58, ar1_59, ar1_6, ar1_60, ar1_61, ar1_62, ar1_63, ar1_64, ar1_65, ar1_66, ar1_67, ar1_68, ar1_69, ar1_7, ar1_70, ar1_71, ar1_72, ar1_73, ar1_74, ar1_75, ar1_76, ar1_77, ar1_78, ar1_79, ar1_8, ar1_80, ar1_81, ar1_82, ar1_83, ar1_84, ar1_85, ar1_86, ar1_87, ar1_88, ar1_89, ar1_9, ar1_90, ar1_91, ar1_92, ar1_93, ar1_94, ar1_95, ar1_96, ar1_97, ar1_98, ar1_99, lk_0, lk_1, st1_1, ab_mk, ab_set]
      repeat' (with_reducible (first | apply And.intro | intro _))
      all_goals first | omega | skip
      · rename_i hq
        have e : (k : Int) = σ 3 8 := by omega
        have e2 : (σ 3 8).toNat = k := by omega
        exact key2 17 0 b m t c (by omega) (by omega) hm (fun i i1 i2 => hB i i1 (by omega)) (fun i i1 i2 => hc i i1 (by omega)) (fun x x1 x2 => by rw [ht x x1 x2, e2])
      · rename_i hq
        refine r_cheapest (σ := ab_mk σ b m t c (zfill (σ 75) 4 0)) (Or.inl rfl) hS ⟨by omega, by show (k : Int) < σ 3 8; omega⟩ hT1.2 (fun mm q1 q2 => ?_)
        try simp only [cq_lt, cq_le, cq_gt, cq_ge, cq_eq, cq_r1, cq_r2, ab_r32, ab_r64, ab_go, ab_stp, wp_z, wp_s, ab_in, ab_gv, ab_psh, ab_rok, ab_wsum, ab_prm, ab_ret, ab_sw, ab_cd, ab_tg, ab_cat_i, ab_cat_l, ab_cat_r, ab_cl_n, ab_cl_i, ab_cl_l, ab_cl_r, ab_f2_0, ab_f2_1, ab_f4_0, ab_f4_1, ab_f4_2, ab_f4_3, ab_op_s, ab_gI_s, ab_gL_s, ab_gR_s, ab_b1_s, ab_b2_s, ab_l1_s, ab_l2_s, ab_li_s, ab_o1_s, ab_io_s, ab_lo1_s, ab_iio_s, ab_lio_s, ab_cp5_s, ab_d2_l, ab_d2_i, ab_d2_o, ex_iconst, ex_bipush, ex_sipush, ex_lconst, ex_ldc, ex_ldc_w, ex_ldc2_w, ex_iload_n, ex_iload, ex_lload_n, ex_lload, ex_aload_n, ex_aload, ex_istore_n, ex_istore, ex_lstore_n, ex_lstore, ex_iinc, ex_iadd, ex_isub, ex_imul, ex_iand, ex_ior, ex_ixor, ex_ishl, ex_ishr, ex_iushr, ex_idiv, ex_irem, ex_ladd, ex_lsub, ex_lmul, ex_lor, ex_ldiv, ex_lrem, ex_lshl, ex_lcmp, ex_ineg, ex_lneg, ex_i2l, ex_l2i, ex_i2b, ex_dup, ex_pop, ex_dup2, ex_goto, ex_ifCond, ex_if_icmp, ex_tableswitch, ex_getfield, ex_putfield, ex_iaload, ex_laload, ex_baload, ex_iastore, ex_lastore, ex_bastore, ex_aaload, ex_arraylength, ex_invokevirtual, ex_invokestatic, ex_ireturn, ex_lreturn, ex_return_, List.map_cons, List.map_nil, List.sum_cons, List.sum_nil, List.drop_succ_cons, List.drop_zero, List.take_succ_cons, List.take_zero, List.reverse_cons, List.reverse_nil, List.nil_append, List.cons_append, List.length_cons, List.length_nil, true_and, and_true, cond_false, cond_true, Bool.false_or, Bool.or_false, Bool.or_true, Bool.true_or, true_or, or_true, false_or, or_false, if_true, if_false, reduceIte, ite_true, ite_false, implies_true, true_implies, false_implies, forall_const, not_true_eq_false, not_false_eq_true, Nat.reduceAdd, Nat.reduceMul, Nat.reduceSub, Nat.reduceBEq, Nat.reduceEqDiff, Nat.reduceLeDiff, Nat.reduceLT, Int.reduceAdd, Int.reduceSub, Int.reduceMul, Int.reduceNeg, Int.reduceToNat, Int.reduceLE, Int.reduceLT, Int.reduceEq, Int.reduceNe, Int.reduceNatCast, Nat.add_zero, Nat.zero_add, reduceCtorEq, Int.reduceNatCast', moX8_goRound, dX8_goRound_0, dX8_goRound_1, vn8_47, iv8_47_3, moX3_open, iv8_47_9, moX10_open, dX8_goRound_4, dX8_goRound_5, vn8_50, iv8_50_3, moX8_markStreets, iv8_50_9, dX8_goRound_8, dX8_goRound_9, dX8_goRound_10, dX8_goRound_11, dX8_goRound_12, gt1_8_34_65, gt1_8_34_76, dX8_goRound_15, gt1_8_53_3, gt1_8_53_12, dX8_goRound_18, dX8_goRound_21, dX8_goRound_22, gt1_8_21_65, gt1_8_21_76, dX8_goRound_25, dX8_goRound_26, dX8_goRound_27, dX8_goRound_28, vn8_58, iv8_58_3, moX8_cheapest, iv8_58_9, dX8_goRound_31, dX8_goRound_32, dX8_goRound_33, dX8_goRound_34, vn8_62, iv8_62_3, moX3_meetCorner, iv8_62_9, moX10_meetCorner, dX8_goRound_37, dX8_goRound_40, dX8_goRound_43, dX8_goRound_44, dX8_goRound_45, dX8_goRound_46, dX8_goRound_47, dX8_goRound_50, gt1_8_66_3, gt1_8_66_12, dX8_goRound_53, dX8_goRound_56, dX8_goRound_57, dX8_goRound_60, gt1_8_69_3, gt1_8_69_12, dX8_goRound_63, dX8_goRound_64, dX8_goRound_65, dX8_goRound_68, dX8_goRound_69, gt1_8_38_65, gt1_8_38_76, dX8_goRound_72, gt1_8_72_28, dX8_goRound_75, dX8_goRound_76, dX8_goRound_77, dX8_goRound_80, dX8_goRound_81, dX8_goRound_82, vn8_76, iv8_76_3, moX8_meetStreet, iv8_76_9, dX8_goRound_85, dX8_goRound_88, dX8_goRound_91, dX8_goRound_92, vn8_79, iv8_79_3, moX3_close, iv8_79_9, moX10_close, dX8_goRound_95, ar1_0, ar1_1, ar1_10, ar1_100, ar1_101, ar1_102, ar1_11, ar1_12, ar1_13, ar1_14, ar1_15, ar1_16, ar1_17, ar1_18, ar1_19, ar1_2, ar1_20, ar1_21, ar1_22, ar1_23, ar1_24, ar1_25, ar1_26, ar1_27, ar1_28, ar1_29, ar1_3, ar1_30, ar1_31, ar1_32, ar1_33, ar1_34, ar1_35, ar1_36, ar1_37, ar1_38, ar1_39, ar1_4, ar1_40, ar1_41, ar1_42, ar1_43, ar1_44, ar1_45, ar1_46, ar1_47, ar1_48, ar1_49, ar1_5, ar1_50, ar1_51, ar1_52, ar1_53, ar1_54, ar1_55, ar1_56, ar1_57, ar1_58, ar1_59, ar1_6, ar1_60, ar1_61, ar1_62, ar1_63, ar1_64, ar1_65, ar1_66, ar1_67, ar1_68, ar1_69, ar1_7, ar1_70, ar1_71, ar1_72, ar1_73, ar1_74, ar1_75, ar1_76, ar1_77, ar1_78, ar1_79, ar1_8, ar1_80, ar1_81, ar1_82, ar1_83, ar1_84, ar1_85, ar1_86, ar1_87, ar1_88, ar1_89, ar1_9, ar1_90, ar1_91, ar1_92, ar1_93, ar1_94, ar1_95, ar1_96, ar1_97, ar1_98, ar1_99, lk_0, lk_1, st1_1, ab_mk, ab_set]
        repeat' (with_reducible (first | apply And.intro | intro _))
        all_goals first | omega | skip
        exact step (by omega) _ ⟨mm, q1, q2, rfl⟩
  apply hG [10] 60
  simp only [cq_lt, cq_le, cq_gt, cq_ge, cq_eq, cq_r1, cq_r2, ab_r32, ab_r64, ab_go, ab_stp, wp_z, wp_s, ab_in, ab_gv, ab_psh, ab_rok, ab_wsum, ab_prm, ab_ret, ab_sw, ab_cd, ab_tg, ab_cat_i, ab_cat_l, ab_cat_r, ab_cl_n, ab_cl_i, ab_cl_l, ab_cl_r, ab_f2_0, ab_f2_1, ab_f4_0, ab_f4_1, ab_f4_2, ab_f4_3, ab_op_s, ab_gI_s, ab_gL_s, ab_gR_s, ab_b1_s, ab_b2_s, ab_l1_s, ab_l2_s, ab_li_s, ab_o1_s, ab_io_s, ab_lo1_s, ab_iio_s, ab_lio_s, ab_cp5_s, ab_d2_l, ab_d2_i, ab_d2_o, ex_iconst, ex_bipush, ex_sipush, ex_lconst, ex_ldc, ex_ldc_w, ex_ldc2_w, ex_iload_n, ex_iload, ex_lload_n, ex_lload, ex_aload_n, ex_aload, ex_istore_n, ex_istore, ex_lstore_n, ex_lstore, ex_iinc, ex_iadd, ex_isub, ex_imul, ex_iand, ex_ior, ex_ixor, ex_ishl, ex_ishr, ex_iushr, ex_idiv, ex_irem, ex_ladd, ex_lsub, ex_lmul, ex_lor, ex_ldiv, ex_lrem, ex_lshl, ex_lcmp, ex_ineg, ex_lneg, ex_i2l, ex_l2i, ex_i2b, ex_dup, ex_pop, ex_dup2, ex_goto, ex_ifCond, ex_if_icmp, ex_tableswitch, ex_getfield, ex_putfield, ex_iaload, ex_laload, ex_baload, ex_iastore, ex_lastore, ex_bastore, ex_aaload, ex_arraylength, ex_invokevirtual, ex_invokestatic, ex_ireturn, ex_lreturn, ex_return_, List.map_cons, List.map_nil, List.sum_cons, List.sum_nil, List.drop_succ_cons, List.drop_zero, List.take_succ_cons, List.take_zero, List.reverse_cons, List.reverse_nil, List.nil_append, List.cons_append, List.length_cons, List.length_nil, true_and, and_true, cond_false, cond_true, Bool.false_or, Bool.or_false, Bool.or_true, Bool.true_or, true_or, or_true, false_or, or_false, if_true, if_false, reduceIte, ite_true, ite_false, implies_true, true_implies, false_implies, forall_const, not_true_eq_false, not_false_eq_true, Nat.reduceAdd, Nat.reduceMul, Nat.reduceSub, Nat.reduceBEq, Nat.reduceEqDiff, Nat.reduceLeDiff, Nat.reduceLT, Int.reduceAdd, Int.reduceSub, Int.reduceMul, Int.reduceNeg, Int.reduceToNat, Int.reduceLE, Int.reduceLT, Int.reduceEq, Int.reduceNe, Int.reduceNatCast, Nat.add_zero, Nat.zero_add, reduceCtorEq, Int.reduceNatCast', moX8_goRound, dX8_goRound_0, dX8_goRound_1, vn8_47, iv8_47_3, moX3_open, iv8_47_9, moX10_open, dX8_goRound_4, dX8_goRound_5, vn8_50, iv8_50_3, moX8_markStreets, iv8_50_9, dX8_goRound_8, dX8_goRound_9, dX8_goRound_10, dX8_goRound_11, dX8_goRound_12, gt1_8_34_65, gt1_8_34_76, dX8_goRound_15, gt1_8_53_3, gt1_8_53_12, dX8_goRound_18, dX8_goRound_21, dX8_goRound_22, gt1_8_21_65, gt1_8_21_76, dX8_goRound_25, dX8_goRound_26, dX8_goRound_27, dX8_goRound_28, vn8_58, iv8_58_3, moX8_cheapest, iv8_58_9, dX8_goRound_31, dX8_goRound_32, dX8_goRound_33, dX8_goRound_34, vn8_62, iv8_62_3, moX3_meetCorner, iv8_62_9, moX10_meetCorner, dX8_goRound_37, dX8_goRound_40, dX8_goRound_43, dX8_goRound_44, dX8_goRound_45, dX8_goRound_46, dX8_goRound_47, dX8_goRound_50, gt1_8_66_3, gt1_8_66_12, dX8_goRound_53, dX8_goRound_56, dX8_goRound_57, dX8_goRound_60, gt1_8_69_3, gt1_8_69_12, dX8_goRound_63, dX8_goRound_64, dX8_goRound_65, dX8_goRound_68, dX8_goRound_69, gt1_8_38_65, gt1_8_38_76, dX8_goRound_72, gt1_8_72_28, dX8_goRound_75, dX8_goRound_76, dX8_goRound_77, dX8_goRound_80, dX8_goRound_81, dX8_goRound_82, vn8_76, iv8_76_3, moX8_meetStreet, iv8_76_9, dX8_goRound_85, dX8_goRound_88, dX8_goRound_91, dX8_goRound_92, vn8_79, iv8_79_3, moX3_close, iv8_79_9, moX10_close, dX8_goRound_95, ar1_0, ar1_1, ar1_10, ar1_100, ar1_101, ar1_102, ar1_11, ar1_12, ar1_13, ar1_14, ar1_15, ar1_16, ar1_17, ar1_18, ar1_19, ar1_2, ar1_20, ar1_21, ar1_22, ar1_23, ar1_24, ar1_25, ar1_26, ar1_27, ar1_28, ar1_29, ar1_3, ar1_30, ar1_31, ar1_32, ar1_33, ar1_34, ar1_35, ar1_36, ar1_37, ar1_38, ar1_39, ar1_4, ar1_40, ar1_41, ar1_42, ar1_43, ar1_44, ar1_45, ar1_46, ar1_47, ar1_48, ar1_49, ar1_5, ar1_50, ar1_51, ar1_52, ar1_53, ar1_54, ar1_55, ar1_56, ar1_57, ar1_58, ar1_59, ar1_6, ar1_60, ar1_61, ar1_62, ar1_63, ar1_64, ar1_65, ar1_66, ar1_67, ar1_68, ar1_69, ar1_7, ar1_70, ar1_71, ar1_72, ar1_73, ar1_74, ar1_75, ar1_76, ar1_77, ar1_78, ar1_79, ar1_8, ar1_80, ar1_81, ar1_82, ar1_83, ar1_84, ar1_85, ar1_86, ar1_87, ar1_88, ar1_89, ar1_9, ar1_90, ar1_91, ar1_92, ar1_93, ar1_94, ar1_95, ar1_96, ar1_97, ar1_98, ar1_99, lk_0, lk_1, st1_1]
  repeat' (with_reducible (first | apply And.intro | intro _))
  all_goals first | omega | skip
  refine r_mOpen ?_
  try simp only [cq_lt, cq_le, cq_gt, cq_ge, cq_eq, cq_r1, cq_r2, ab_r32, ab_r64, ab_go, ab_stp, wp_z, wp_s, ab_in, ab_gv, ab_psh, ab_rok, ab_wsum, ab_prm, ab_ret, ab_sw, ab_cd, ab_tg, ab_cat_i, ab_cat_l, ab_cat_r, ab_cl_n, ab_cl_i, ab_cl_l, ab_cl_r, ab_f2_0, ab_f2_1, ab_f4_0, ab_f4_1, ab_f4_2, ab_f4_3, ab_op_s, ab_gI_s, ab_gL_s, ab_gR_s, ab_b1_s, ab_b2_s, ab_l1_s, ab_l2_s, ab_li_s, ab_o1_s, ab_io_s, ab_lo1_s, ab_iio_s, ab_lio_s, ab_cp5_s, ab_d2_l, ab_d2_i, ab_d2_o, ex_iconst, ex_bipush, ex_sipush, ex_lconst, ex_ldc, ex_ldc_w, ex_ldc2_w, ex_iload_n, ex_iload, ex_lload_n, ex_lload, ex_aload_n, ex_aload, ex_istore_n, ex_istore, ex_lstore_n, ex_lstore, ex_iinc, ex_iadd, ex_isub, ex_imul, ex_iand, ex_ior, ex_ixor, ex_ishl, ex_ishr, ex_iushr, ex_idiv, ex_irem, ex_ladd, ex_lsub, ex_lmul, ex_lor, ex_ldiv, ex_lrem, ex_lshl, ex_lcmp, ex_ineg, ex_lneg, ex_i2l, ex_l2i, ex_i2b, ex_dup, ex_pop, ex_dup2, ex_goto, ex_ifCond, ex_if_icmp, ex_tableswitch, ex_getfield, ex_putfield, ex_iaload, ex_laload, ex_baload, ex_iastore, ex_lastore, ex_bastore, ex_aaload, ex_arraylength, ex_invokevirtual, ex_invokestatic, ex_ireturn, ex_lreturn, ex_return_, List.map_cons, List.map_nil, List.sum_cons, List.sum_nil, List.drop_succ_cons, List.drop_zero, List.take_succ_cons, List.take_zero, List.reverse_cons, List.reverse_nil, List.nil_append, List.cons_append, List.length_cons, List.length_nil, true_and, and_true, cond_false, cond_true, Bool.false_or, Bool.or_false, Bool.or_true, Bool.true_or, true_or, or_true, false_or, or_false, if_true, if_false, reduceIte, ite_true, ite_false, implies_true, true_implies, false_implies, forall_const, not_true_eq_false, not_false_eq_true, Nat.reduceAdd, Nat.reduceMul, Nat.reduceSub, Nat.reduceBEq, Nat.reduceEqDiff, Nat.reduceLeDiff, Nat.reduceLT, Int.reduceAdd, Int.reduceSub, Int.reduceMul, Int.reduceNeg, Int.reduceToNat, Int.reduceLE, Int.reduceLT, Int.reduceEq, Int.reduceNe, Int.reduceNatCast, Nat.add_zero, Nat.zero_add, reduceCtorEq, Int.reduceNatCast', moX8_goRound, dX8_goRound_0, dX8_goRound_1, vn8_47, iv8_47_3, moX3_open, iv8_47_9, moX10_open, dX8_goRound_4, dX8_goRound_5, vn8_50, iv8_50_3, moX8_markStreets, iv8_50_9, dX8_goRound_8, dX8_goRound_9, dX8_goRound_10, dX8_goRound_11, dX8_goRound_12, gt1_8_34_65, gt1_8_34_76, dX8_goRound_15, gt1_8_53_3, gt1_8_53_12, dX8_goRound_18, dX8_goRound_21, dX8_goRound_22, gt1_8_21_65, gt1_8_21_76, dX8_goRound_25, dX8_goRound_26, dX8_goRound_27, dX8_goRound_28, vn8_58, iv8_58_3, moX8_cheapest, iv8_58_9, dX8_goRound_31, dX8_goRound_32, dX8_goRound_33, dX8_goRound_34, vn8_62, iv8_62_3, moX3_meetCorner, iv8_62_9, moX10_meetCorner, dX8_goRound_37, dX8_goRound_40, dX8_goRound_43, dX8_goRound_44, dX8_goRound_45, dX8_goRound_46, dX8_goRound_47, dX8_goRound_50, gt1_8_66_3, gt1_8_66_12, dX8_goRound_53, dX8_goRound_56, dX8_goRound_57, dX8_goRound_60, gt1_8_69_3, gt1_8_69_12, dX8_goRound_63, dX8_goRound_64, dX8_goRound_65, dX8_goRound_68, dX8_goRound_69, gt1_8_38_65, gt1_8_38_76, dX8_goRound_72, gt1_8_72_28, dX8_goRound_75, dX8_goRound_76, dX8_goRound_77, dX8_goRound_80, dX8_goRound_81, dX8_goRound_82, vn8_76, iv8_76_3, moX8_meetStreet, iv8_76_9, dX8_goRound_85, dX8_goRound_88, dX8_goRound_91, dX8_goRound_92, vn8_79, iv8_79_3, moX3_close, iv8_79_9, moX10_close, dX8_goRound_95, ar1_0, ar1_1, ar1_10, ar1_100, ar1_101, ar1_102, ar1_11, ar1_12, ar1_13, ar1_14, ar1_15, ar1_16, ar1_17, ar1_18, ar1_19, ar1_2, ar1_20, ar1_21, ar1_22, ar1_23, ar1_24, ar1_25, ar1_26, ar1_27, ar1_28, ar1_29, ar1_3, ar1_30, ar1_31, ar1_32, ar1_33, ar1_34, ar1_35, ar1_36, ar1_37, ar1_38, ar1_39, ar1_4, ar1_40, ar1_41, ar1_42, ar1_43, ar1_44, ar1_45, ar1_46, ar1_47, ar1_48, ar1_49, ar1_5, ar1_50, ar1_51, ar1_52, ar1_53, ar1_54, ar1_55, ar1_56, ar1_57, ar1_58, ar1_59, ar1_6, ar1_60, ar1_61, ar1_62, ar1_63, ar1_64, ar1_65, ar1_66, ar1_67, ar1_68, ar1_69, ar1_7, ar1_70, ar1_71, ar1_72, ar1_73, ar1_74, ar1_75, ar1_76, ar1_77, ar1_78, ar1_79, ar1_8, ar1_80, ar1_81, ar1_82, ar1_83, ar1_84, ar1_85, ar1_86, ar1_87, ar1_88, ar1_89, ar1_9, ar1_90, ar1_91, ar1_92, ar1_93, ar1_94, ar1_95, ar1_96, ar1_97, ar1_98, ar1_99, lk_0, lk_1, st1_1]
  repeat' (with_reducible (first | apply And.intro | intro _))
  all_goals first | omega | skip
  have e0 : ab_set (ab_set σ 73 (zfill (σ 73) 16 0)) 75 (zfill (σ 75) 4 0) = ab_mk σ (σ 69) (σ 70) (zfill (σ 73) 16 0) (σ 74) (zfill (σ 75) 4 0) := by
    have h1 := mk_tally σ (σ 69) (σ 70) (σ 73) (σ 74) (σ 75) (zfill (σ 73) 16 0)
    rw [mk_all] at h1
    rw [h1, mk_sales]
  rw [e0]
  refine r_marks (σ := ab_mk σ (σ 69) (σ 70) (zfill (σ 73) 16 0) (σ 74) (zfill (σ 75) 4 0)) (Or.inl rfl) hT hS (fun f hf => ?_)
  try simp only [cq_lt, cq_le, cq_gt, cq_ge, cq_eq, cq_r1, cq_r2, ab_r32, ab_r64, ab_go, ab_stp, wp_z, wp_s, ab_in, ab_gv, ab_psh, ab_rok, ab_wsum, ab_prm, ab_ret, ab_sw, ab_cd, ab_tg, ab_cat_i, ab_cat_l, ab_cat_r, ab_cl_n, ab_cl_i, ab_cl_l, ab_cl_r, ab_f2_0, ab_f2_1, ab_f4_0, ab_f4_1, ab_f4_2, ab_f4_3, ab_op_s, ab_gI_s, ab_gL_s, ab_gR_s, ab_b1_s, ab_b2_s, ab_l1_s, ab_l2_s, ab_li_s, ab_o1_s, ab_io_s, ab_lo1_s, ab_iio_s, ab_lio_s, ab_cp5_s, ab_d2_l, ab_d2_i, ab_d2_o, ex_iconst, ex_bipush, ex_sipush, ex_lconst, ex_ldc, ex_ldc_w, ex_ldc2_w, ex_iload_n, ex_iload, ex_lload_n, ex_lload, ex_aload_n, ex_aload, ex_istore_n, ex_istore, ex_lstore_n, ex_lstore, ex_iinc, ex_iadd, ex_isub, ex_imul, ex_iand, ex_ior, ex_ixor, ex_ishl, ex_ishr, ex_iushr, ex_idiv, ex_irem, ex_ladd, ex_lsub, ex_lmul, ex_lor, ex_ldiv, ex_lrem, ex_lshl, ex_lcmp, ex_ineg, ex_lneg, ex_i2l, ex_l2i, ex_i2b, ex_dup, ex_pop, ex_dup2, ex_goto, ex_ifCond, ex_if_icmp, ex_tableswitch, ex_getfield, ex_putfield, ex_iaload, ex_laload, ex_baload, ex_iastore, ex_lastore, ex_bastore, ex_aaload, ex_arraylength, ex_invokevirtual, ex_invokestatic, ex_ireturn, ex_lreturn, ex_return_, List.map_cons, List.map_nil, List.sum_cons, List.sum_nil, List.drop_succ_cons, List.drop_zero, List.take_succ_cons, List.take_zero, List.reverse_cons, List.reverse_nil, List.nil_append, List.cons_append, List.length_cons, List.length_nil, true_and, and_true, cond_false, cond_true, Bool.false_or, Bool.or_false, Bool.or_true, Bool.true_or, true_or, or_true, false_or, or_false, if_true, if_false, reduceIte, ite_true, ite_false, implies_true, true_implies, false_implies, forall_const, not_true_eq_false, not_false_eq_true, Nat.reduceAdd, Nat.reduceMul, Nat.reduceSub, Nat.reduceBEq, Nat.reduceEqDiff, Nat.reduceLeDiff, Nat.reduceLT, Int.reduceAdd, Int.reduceSub, Int.reduceMul, Int.reduceNeg, Int.reduceToNat, Int.reduceLE, Int.reduceLT, Int.reduceEq, Int.reduceNe, Int.reduceNatCast, Nat.add_zero, Nat.zero_add, reduceCtorEq, Int.reduceNatCast', moX8_goRound, dX8_goRound_0, dX8_goRound_1, vn8_47, iv8_47_3, moX3_open, iv8_47_9, moX10_open, dX8_goRound_4, dX8_goRound_5, vn8_50, iv8_50_3, moX8_markStreets, iv8_50_9, dX8_goRound_8, dX8_goRound_9, dX8_goRound_10, dX8_goRound_11, dX8_goRound_12, gt1_8_34_65, gt1_8_34_76, dX8_goRound_15, gt1_8_53_3, gt1_8_53_12, dX8_goRound_18, dX8_goRound_21, dX8_goRound_22, gt1_8_21_65, gt1_8_21_76, dX8_goRound_25, dX8_goRound_26, dX8_goRound_27, dX8_goRound_28, vn8_58, iv8_58_3, moX8_cheapest, iv8_58_9, dX8_goRound_31, dX8_goRound_32, dX8_goRound_33, dX8_goRound_34, vn8_62, iv8_62_3, moX3_meetCorner, iv8_62_9, moX10_meetCorner, dX8_goRound_37, dX8_goRound_40, dX8_goRound_43, dX8_goRound_44, dX8_goRound_45, dX8_goRound_46, dX8_goRound_47, dX8_goRound_50, gt1_8_66_3, gt1_8_66_12, dX8_goRound_53, dX8_goRound_56, dX8_goRound_57, dX8_goRound_60, gt1_8_69_3, gt1_8_69_12, dX8_goRound_63, dX8_goRound_64, dX8_goRound_65, dX8_goRound_68, dX8_goRound_69, gt1_8_38_65, gt1_8_38_76, dX8_goRound_72, gt1_8_72_28, dX8_goRound_75, dX8_goRound_76, dX8_goRound_77, dX8_goRound_80, dX8_goRound_81, dX8_goRound_82, vn8_76, iv8_76_3, moX8_meetStreet, iv8_76_9, dX8_goRound_85, dX8_goRound_88, dX8_goRound_91, dX8_goRound_92, vn8_79, iv8_79_3, moX3_close, iv8_79_9, moX10_close, dX8_goRound_95, ar1_0, ar1_1, ar1_10, ar1_100, ar1_101, ar1_102, ar1_11, ar1_12, ar1_13, ar1_14, ar1_15, ar1_16, ar1_17, ar1_18, ar1_19, ar1_2, ar1_20, ar1_21, ar1_22, ar1_23, ar1_24, ar1_25, ar1_26, ar1_27, ar1_28, ar1_29, ar1_3, ar1_30, ar1_31, ar1_32, ar1_33, ar1_34, ar1_35, ar1_36, ar1_37, ar1_38, ar1_39, ar1_4, ar1_40, ar1_41, ar1_42, ar1_43, ar1_44, ar1_45, ar1_46, ar1_47, ar1_48, ar1_49, ar1_5, ar1_50, ar1_51, ar1_52, ar1_53, ar1_54, ar1_55, ar1_56, ar1_57, ar1_58, ar1_59, ar1_6, ar1_60, ar1_61, ar1_62, ar1_63, ar1_64, ar1_65, ar1_66, ar1_67, ar1_68, ar1_69, ar1_7, ar1_70, ar1_71, ar1_72, ar1_73, ar1_74, ar1_75, ar1_76, ar1_77, ar1_78, ar1_79, ar1_8, ar1_80, ar1_81, ar1_82, ar1_83, ar1_84, ar1_85, ar1_86, ar1_87, ar1_88, ar1_89, ar1_9, ar1_90, ar1_91, ar1_92, ar1_93, ar1_94, ar1_95, ar1_96, ar1_97, ar1_98, ar1_99, lk_0, lk_1, st1_1]
  rw [mk_marks]
  exact key1 13 0 _ f _ _ (by omega) (by omega) hf (fun i i1 i2 => by omega) (fun i i1 i2 => by omega) (fun x x1 x2 => by
    unfold zfill
    rw [if_pos ⟨x1, x2⟩]
    rfl)
