-- CLASS: Walks.goRound, toSpots, toBakers
def zNc (ω : ab_S) (n : Nat) (g : Int → Int) (c : Int) : Int := zmn (fun j => zRe ω (g j) c) n
/-- what is walked to corners below k and along streets below s, in eighths -/
def zSk (ω : ab_S) (n : Nat) (g : Int → Int) (k s : Nat) : Int := zS (fun i => 8 * ω 6 i * zNc ω n g i) k + zS (fun i => if ω 30 i = 0 then ω 11 i * zHu ω n g i (2 * ω 10 i).toNat else 0) s
/-- somebody there has no way -/
def zStd (ω : ab_S) (n : Nat) (g : Int → Int) (k s : Nat) : Prop := (∃ i : Nat, i < k ∧ 0 < ω 6 i ∧ 100000 ≤ zNc ω n g i) ∨ ∃ i : Nat, i < s ∧ ω 30 i = 0 ∧ 0 < ω 11 i ∧ 100000 ≤ zNc ω n g (ω 8 i)
/-- a way is short, or there is none -/
def zDy (ω : ab_S) : Prop := ∀ p c, zSt ω p → 0 ≤ c → c < ω 3 8 → zRe ω p c ≤ 49176 ∨ 100000 ≤ zRe ω p c
theorem zStr_iff {ω : ab_S} {n : Nat} {g : Int → Int} {s t m : Int} (hJ : zJ ω) (hD : zDy ω) (hn : 1 ≤ n) (hg : ∀ j, 0 ≤ j → j < (n : Int) → zSt ω (g j)) (hs : 0 ≤ s ∧ s < ω 3 9) (ho : ω 30 s = 0) (ht : 0 ≤ t ∧ t ≤ ω 10 s) (h : zHm ω n g s (2 * t) = 2 * m) : 100000 ≤ m ↔ 100000 ≤ zNc ω n g (ω 8 s) := by
  obtain ⟨f1, f2, f3⟩ := hJ.1.2.2 s hs.1 hs.2
  unfold zHm at h
  unfold zNc
  constructor
  · intro hm
    obtain ⟨j, a, b, c⟩ := zmn_at (fun j => zRe ω (g j) (ω 8 s)) n hn
    have q := zmn_le (fun j => zHj ω s (2 * t) (g j)) n j a b
    rcases hD (g j) (ω 8 s) (hg j a b) f1.1 f1.2 with z | z
    · exfalso
      have : zHj ω s (2 * t) (g j) ≤ 2 * zRe ω (g j) (ω 8 s) + 2 * t := by
        unfold zHj
        split <;> omega
      try dsimp only at q
      omega
    · (try dsimp only at c)
      omega
  · intro hm
    obtain ⟨j, a, b, c⟩ := zmn_at (fun j => zHj ω s (2 * t) (g j)) n hn
    have q := zmn_le (fun j => zRe ω (g j) (ω 8 s)) n j a b
    obtain ⟨t1, t2, t3⟩ := zRe_tri hJ (hg j a b) hs ho
    have d2 := hD (g j) (ω 9 s) (hg j a b) f2.1 f2.2
    have c2 : zHj ω s (2 * t) (g j) = 2 * m := c.trans h
    try dsimp only at q
    unfold zHj at c2
    by_cases e : 100 ≤ g j ∧ (g j - 100) / 20 = s
    · have := t3 e
      omega
    · rw [if_neg e] at c2
      omega
theorem zNc_c {ω σ : ab_S} {n : Nat} {g : Int → Int} {c m d : Int} (hn : 1 ≤ n) (hL : zLwk ω n g σ) (hc : 0 ≤ c ∧ c < ω 3 8) (h : zLe (σ 76 7) (fun j => σ 78 j + σ 76 8 * σ 79 (12 * j + c)) d m) : zNc ω n g c = m := by
  obtain ⟨a1, a2, a3, a4⟩ := hL
  rw [a2, a3] at h
  unfold zNc
  refine zmn_eq hn (fun j j0 j1 => ?_) ?_
  · have := h.1 j j0 j1
    obtain ⟨d1, d2, d3⟩ := a4 j j0 j1
    have := d3 c hc.1 hc.2
    try dsimp only at *
    omega
  · rcases h.2 with z | ⟨j, j0, j1, j2⟩
    · omega
    · obtain ⟨d1, d2, d3⟩ := a4 j j0 j1
      have := d3 c hc.1 hc.2
      exact ⟨j, j0, j1, by (try dsimp only at *); omega⟩
/-- the frame of a round -/
def zFw (σ ρ : ab_S) : Prop := (∀ o, o ≠ 76 → o ≠ 80 → o ≠ 81 → ρ o = σ o) ∧ ∀ k, k ≠ 9 → k ≠ 10 → ρ 76 k = σ 76 k
theorem zFw_9 {σ ρ υ : ab_S} (h1 : zFw σ ρ) (h2 : zW9 ρ υ) : zFw σ υ := ⟨fun o a b c => (h2.1 o a).trans (h1.1 o a b c), fun k a b => (h2.2 k a b).trans (h1.2 k a b)⟩
theorem zFw_L {ω σ ρ : ab_S} {n : Nat} {g : Int → Int} (hL : zLwk ω n g σ) (h : zFw σ ρ) : zLwk ω n g ρ := zLwk_m hL (fun o ho => h.1 o (by omega) (by omega) (by omega)) (h.2 7 (by decide) (by decide)) (h.2 8 (by decide) (by decide))
def zWi (ω : ab_S) (n : Nat) (g : Int → Int) (σ : ab_S) (k s : Nat) (ρ : ab_S) : Prop := zFw σ ρ ∧ zMk ρ 76 n (ρ 81) ∧ (∀ c, 0 ≤ c → c < (k : Int) → zBs ρ 76 c) ∧ ρ 76 9 = zSk ω n g k s ∧ (zStd ω n g k s ∧ ρ 76 10 = 1 ∨ ¬ zStd ω n g k s ∧ ρ 76 10 = 0)
theorem zSk_s (ω : ab_S) (n : Nat) (g : Int → Int) (k s : Nat) : zSk ω n g k (s + 1) = zSk ω n g k s + (if ω 30 s = 0 then ω 11 s * zHu ω n g s (2 * ω 10 s).toNat else 0) := by
  unfold zSk
  rw [zS]
  omega
theorem zSk_k (ω : ab_S) (n : Nat) (g : Int → Int) (k : Nat) : zSk ω n g (k + 1) 0 = zSk ω n g k 0 + 8 * ω 6 k * zNc ω n g k := by
  unfold zSk
  simp only [zS]
  omega
theorem zStd_k {ω : ab_S} {n : Nat} {g : Int → Int} {k : Nat} : zStd ω n g (k + 1) 0 ↔ zStd ω n g k 0 ∨ (0 < ω 6 k ∧ 100000 ≤ zNc ω n g k) := by
  unfold zStd
  constructor
  · rintro (⟨i, a, b⟩ | ⟨i, a, b⟩)
    · by_cases e : i = k
      · rw [e] at b
        exact Or.inr b
      · exact Or.inl (Or.inl ⟨i, by omega, b⟩)
    · omega
  · rintro ((⟨i, a, b⟩ | ⟨i, a, b⟩) | h)
    · exact Or.inl ⟨i, by omega, b⟩
    · omega
    · exact Or.inl ⟨k, by omega, h⟩
theorem zStd_s {ω : ab_S} {n : Nat} {g : Int → Int} {k s : Nat} : zStd ω n g k (s + 1) ↔ zStd ω n g k s ∨ (ω 30 s = 0 ∧ 0 < ω 11 s ∧ 100000 ≤ zNc ω n g (ω 8 s)) := by
  unfold zStd
  constructor
  · rintro (⟨i, a, b⟩ | ⟨i, a, b⟩)
    · exact Or.inl (Or.inl ⟨i, a, b⟩)
    · by_cases e : i = s
      · rw [e] at b
        exact Or.inr b
      · exact Or.inl (Or.inr ⟨i, by omega, b⟩)
  · rintro ((⟨i, a, b⟩ | ⟨i, a, b⟩) | h)
    · exact Or.inl ⟨i, a, b⟩
    · exact Or.inr ⟨i, by omega, b⟩
    · exact Or.inr ⟨s, by omega, h⟩
theorem zMk_m {σ ρ : ab_S} {n : Int} {f : Int → Int} (h : ρ 77 = σ 77) (hm : zMk σ 76 n f) : zMk ρ 76 n f := by
  unfold zMk at hm ⊢
  simp only [Nat.reduceAdd] at hm ⊢
  rw [h]
  exact hm
set_option maxRecDepth 100000 in
set_option maxHeartbeats 4000000 in
theorem l_goRoundW {ω σ : ab_S} {n : Nat} {g : Int → Int} {K : ab_V → ab_S → Prop} (hJ : zJ ω) (hD : zDy ω) (hL : zLwk ω n g σ) (hn : 1 ≤ n ∧ n ≤ 4) (hg : ∀ j, 0 ≤ j → j < (n : Int) → zSt ω (g j))
    (h : ∀ ρ, zFw σ ρ → (zStd ω n g (ω 3 8).toNat (ω 3 9).toNat ∧ ρ 76 9 = -1 ∨ ¬ zStd ω n g (ω 3 8).toNat (ω 3 9).toNat ∧ ρ 76 9 = zSk ω n g (ω 3 8).toNat (ω 3 9).toNat) → K (vI 0) ρ) : ab_Runs ab_G1 mdX8_goRound [vR 76] σ K := by
  refine ab_runs mwX8_goRound (by decide +kernel) (Nat.le_of_ble_eq_true rfl) (fun G hG => ?_)
  show G 0 [some (vR 76), none] [] _
  have hT := hJ.1
  have hT1 := hT.1
  have hT2 := hT.2.1
  have hP := hJ.2.1
  have key2 : ∀ (k : Nat) (i : Nat) (ρ : ab_S), ω 3 9 - i < k → (i : Int) ≤ ω 3 9 → zWi ω n g σ (ω 3 8).toNat i ρ → G 45 [some (vR 76), some (vI i)] [] ρ := by
    intro k
    induction k with
    | zero => intro i ρ h1; omega
    | succ k ih =>
      intro i ρ h1 h2 hW
      obtain ⟨w1, w2, w3, w4, w5⟩ := id hW
      have hLρ := zFw_L hL w1
      have e3 : ρ 3 = ω 3 := hLρ.1 3 (by decide)
      have e11 : ρ 11 = ω 11 := hLρ.1 11 (by decide)
      have e30 : ρ 30 = ω 30 := hLρ.1 30 (by decide)
      have hst : ρ 76 10 = 0 ∨ ρ 76 10 = 1 := by omega
      apply hG [45] 60
      simp only [cq_lt, cq_le, cq_gt, cq_ge, cq_eq, cq_r1, cq_r2, ab_r32, ab_r64, ab_go, ab_stp, wp_z, ab_in, ab_rok, ab_wsum, ab_prm, ab_ret, ab_sw, ab_cd, ab_tg, ab_cat_i, ab_cat_l, ab_cat_r, ab_cl_n, ab_cl_i, ab_cl_l, ab_cl_r, ab_f2_0, ab_f2_1, ab_f4_0, ab_f4_1, ab_f4_2, ab_f4_3, ab_op_s, ab_b1_s, ab_b2_s, ab_l1_s, ab_l2_s, ab_li_s, ab_o1_s, ab_io_s, ab_lo1_s, ab_iio_s, ab_lio_s, ab_cp5_s, ab_d2_l, ab_d2_i, ab_d2_o, ex_iconst, ex_bipush, ex_sipush, ex_lconst, ex_ldc, ex_ldc_w, ex_ldc2_w, ex_iadd, ex_isub, ex_imul, ex_iand, ex_ior, ex_ixor, ex_ishl, ex_ishr, ex_iushr, ex_idiv, ex_irem, ex_ladd, ex_lsub, ex_lmul, ex_lor, ex_ldiv, ex_lrem, ex_lshl, ex_lcmp, ex_ineg, ex_lneg, ex_i2l, ex_l2i, ex_i2b, ex_dup, ex_pop, ex_dup2, ex_goto, ex_tableswitch, ex_aaload, ex_ireturn, ex_lreturn, ex_return_, List.map_cons, List.map_nil, List.sum_cons, List.sum_nil, List.drop_succ_cons, List.drop_zero, List.take_succ_cons, List.take_zero, List.reverse_cons, List.reverse_nil, List.nil_append, List.cons_append, List.length_cons, List.length_nil, true_and, and_true, cond_false, cond_true, Bool.false_or, Bool.or_false, Bool.or_true, Bool.true_or, true_or, or_true, false_or, or_false, if_true, if_false, reduceIte, ite_true, ite_false, implies_true, true_implies, false_implies, forall_const, not_true_eq_false, not_false_eq_true, Nat.reduceAdd, Nat.reduceMul, Nat.reduceSub, Nat.reduceBEq, Nat.reduceEqDiff, Nat.reduceLeDiff, Nat.reduceLT, Int.reduceAdd, Int.reduceSub, Int.reduceMul, Int.reduceNeg, Int.reduceToNat, Int.reduceLE, Int.reduceLT, Int.reduceEq, Int.reduceNe, Int.reduceNatCast, Nat.add_zero, Nat.zero_add, reduceCtorEq, Int.reduceNatCast', wp_c, wp_g, e2_ifCond, e2_if_icmp, ↓bq_t, ↓bq_f, ab_br, ↓ab_b1_s, ↓ab_b2_s, ↓ab_l1_s, ↓ab_l2_s, ↓ab_li_s, ↓ab_o1_s, ↓ab_io_s, ↓ab_lo1_s, ↓ab_iio_s, ↓ab_lio_s, ↓ab_cp5_s, moX8_goRound, dX8_goRound_0, dal_0, dX8_goRound_1, dv1_8_47_65, dv1_8_47_76, moX3_open, moX10_open, dX8_goRound_4, dX8_goRound_5, dv1_8_50_65, dv1_8_50_76, moX8_markStreets, dX8_goRound_8, dX8_goRound_9, dis_1, dX8_goRound_10, dil_1, dX8_goRound_11, dX8_goRound_12, dg1_8_34_65, dg1_8_34_76, dX8_goRound_15, dg1_8_53_3, dg1_8_53_12, dX8_goRound_18, dX8_goRound_21, dX8_goRound_22, dg1_8_21_65, dg1_8_21_76, dX8_goRound_25, dX8_goRound_26, dX8_goRound_27, dX8_goRound_28, dv1_8_58_65, dv1_8_58_76, moX8_cheapest, dX8_goRound_31, dX8_goRound_32, dX8_goRound_33, dX8_goRound_34, dv1_8_62_65, dv1_8_62_76, moX3_meetCorner, moX10_meetCorner, dX8_goRound_37, dinc_1, dX8_goRound_40, dX8_goRound_43, dX8_goRound_44, dX8_goRound_45, dX8_goRound_46, dX8_goRound_47, dX8_goRound_50, dg1_8_66_3, dg1_8_66_12, dX8_goRound_53, dX8_goRound_56, dX8_goRound_57, dX8_goRound_60, dg1_8_69_3, dg1_8_69_12, dX8_goRound_63, dX8_goRound_64, dX8_goRound_65, dX8_goRound_68, dX8_goRound_69, dg1_8_38_65, dg1_8_38_76, dX8_goRound_72, dg1_8_72_28, dX8_goRound_75, dX8_goRound_76, dX8_goRound_77, dX8_goRound_80, dX8_goRound_81, dX8_goRound_82, dv1_8_76_65, dv1_8_76_76, moX8_meetStreet, dX8_goRound_85, dX8_goRound_88, dX8_goRound_91, dX8_goRound_92, dv1_8_79_65, dv1_8_79_76, moX3_close, moX10_close, dX8_goRound_95, dal1_11, das1_11, dal1_20, das1_20, dal1_30, das1_30, dal1_69, das1_69, dal1_80, das1_80, e3, e11, e30]
      repeat' (with_reducible (first | apply And.intro | intro _))
      all_goals first | omega | skip
      · rename_i hq
        have e : (ω 3 9).toNat = i := by omega
        refine r_wClose hst (fun υ u1 u2 => ?_)
        try simp only [cq_lt, cq_le, cq_gt, cq_ge, cq_eq, cq_r1, cq_r2, ab_r32, ab_r64, ab_go, ab_stp, wp_z, ab_in, ab_rok, ab_wsum, ab_prm, ab_ret, ab_sw, ab_cd, ab_tg, ab_cat_i, ab_cat_l, ab_cat_r, ab_cl_n, ab_cl_i, ab_cl_l, ab_cl_r, ab_f2_0, ab_f2_1, ab_f4_0, ab_f4_1, ab_f4_2, ab_f4_3, ab_op_s, ab_b1_s, ab_b2_s, ab_l1_s, ab_l2_s, ab_li_s, ab_o1_s, ab_io_s, ab_lo1_s, ab_iio_s, ab_lio_s, ab_cp5_s, ab_d2_l, ab_d2_i, ab_d2_o, ex_iconst, ex_bipush, ex_sipush, ex_lconst, ex_ldc, ex_ldc_w, ex_ldc2_w, ex_iadd, ex_isub, ex_imul, ex_iand, ex_ior, ex_ixor, ex_ishl, ex_ishr, ex_iushr, ex_idiv, ex_irem, ex_ladd, ex_lsub, ex_lmul, ex_lor, ex_ldiv, ex_lrem, ex_lshl, ex_lcmp, ex_ineg, ex_lneg, ex_i2l, ex_l2i, ex_i2b, ex_dup, ex_pop, ex_dup2, ex_goto, ex_tableswitch, ex_aaload, ex_ireturn, ex_lreturn, ex_return_, List.map_cons, List.map_nil, List.sum_cons, List.sum_nil, List.drop_succ_cons, List.drop_zero, List.take_succ_cons, List.take_zero, List.reverse_cons, List.reverse_nil, List.nil_append, List.cons_append, List.length_cons, List.length_nil, true_and, and_true, cond_false, cond_true, Bool.false_or, Bool.or_false, Bool.or_true, Bool.true_or, true_or, or_true, false_or, or_false, if_true, if_false, reduceIte, ite_true, ite_false, implies_true, true_implies, false_implies, forall_const, not_true_eq_false, not_false_eq_true, Nat.reduceAdd, Nat.reduceMul, Nat.reduceSub, Nat.reduceBEq, Nat.reduceEqDiff, Nat.reduceLeDiff, Nat.reduceLT, Int.reduceAdd, Int.reduceSub, Int.reduceMul, Int.reduceNeg, Int.reduceToNat, Int.reduceLE, Int.reduceLT, Int.reduceEq, Int.reduceNe, Int.reduceNatCast, Nat.add_zero, Nat.zero_add, reduceCtorEq, Int.reduceNatCast', wp_c, wp_g, e2_ifCond, e2_if_icmp, ↓bq_t, ↓bq_f, ab_br, ↓ab_b1_s, ↓ab_b2_s, ↓ab_l1_s, ↓ab_l2_s, ↓ab_li_s, ↓ab_o1_s, ↓ab_io_s, ↓ab_lo1_s, ↓ab_iio_s, ↓ab_lio_s, ↓ab_cp5_s, moX8_goRound, dX8_goRound_0, dal_0, dX8_goRound_1, dv1_8_47_65, dv1_8_47_76, moX3_open, moX10_open, dX8_goRound_4, dX8_goRound_5, dv1_8_50_65, dv1_8_50_76, moX8_markStreets, dX8_goRound_8, dX8_goRound_9, dis_1, dX8_goRound_10, dil_1, dX8_goRound_11, dX8_goRound_12, dg1_8_34_65, dg1_8_34_76, dX8_goRound_15, dg1_8_53_3, dg1_8_53_12, dX8_goRound_18, dX8_goRound_21, dX8_goRound_22, dg1_8_21_65, dg1_8_21_76, dX8_goRound_25, dX8_goRound_26, dX8_goRound_27, dX8_goRound_28, dv1_8_58_65, dv1_8_58_76, moX8_cheapest, dX8_goRound_31, dX8_goRound_32, dX8_goRound_33, dX8_goRound_34, dv1_8_62_65, dv1_8_62_76, moX3_meetCorner, moX10_meetCorner, dX8_goRound_37, dinc_1, dX8_goRound_40, dX8_goRound_43, dX8_goRound_44, dX8_goRound_45, dX8_goRound_46, dX8_goRound_47, dX8_goRound_50, dg1_8_66_3, dg1_8_66_12, dX8_goRound_53, dX8_goRound_56, dX8_goRound_57, dX8_goRound_60, dg1_8_69_3, dg1_8_69_12, dX8_goRound_63, dX8_goRound_64, dX8_goRound_65, dX8_goRound_68, dX8_goRound_69, dg1_8_38_65, dg1_8_38_76, dX8_goRound_72, dg1_8_72_28, dX8_goRound_75, dX8_goRound_76, dX8_goRound_77, dX8_goRound_80, dX8_goRound_81, dX8_goRound_82, dv1_8_76_65, dv1_8_76_76, moX8_meetStreet, dX8_goRound_85, dX8_goRound_88, dX8_goRound_91, dX8_goRound_92, dv1_8_79_65, dv1_8_79_76, moX3_close, moX10_close, dX8_goRound_95, dal1_11, das1_11, dal1_20, das1_20, dal1_30, das1_30, dal1_69, das1_69, dal1_80, das1_80]
        refine h υ (zFw_9 w1 u1) ?_
        rw [e]
        rcases w5 with ⟨w5, w6⟩ | ⟨w5, w6⟩
        · exact Or.inl ⟨w5, by omega⟩
        · exact Or.inr ⟨w5, by omega⟩
      all_goals (have q := hP.2.1 i (by omega) (by omega); have q3 := hP.2.2.1 i (by omega) (by omega))
      all_goals first | omega | skip
      · rename_i hq1 hq2
        have e0 : ω 11 i = 0 := by omega
        refine ih (i + 1) ρ (by omega) (by omega) ⟨w1, w2, w3, ?_, ?_⟩
        · rw [zSk_s, e0, w4]
          simp
        · rw [zStd_s]
          rcases w5 with ⟨w5, w6⟩ | ⟨w5, w6⟩
          · exact Or.inl ⟨Or.inl w5, w6⟩
          · refine Or.inr ⟨?_, w6⟩
            rintro (z | z)
            · exact w5 z
            · omega
      · rename_i hq1 hq2 hq3
        refine ih (i + 1) ρ (by omega) (by omega) ⟨w1, w2, w3, ?_, ?_⟩
        · rw [zSk_s, if_neg hq3, w4]
          omega
        · rw [zStd_s]
          rcases w5 with ⟨w5, w6⟩ | ⟨w5, w6⟩
          · exact Or.inl ⟨Or.inl w5, w6⟩
          · refine Or.inr ⟨?_, w6⟩
            rintro (z | z)
            · exact w5 z
            · exact hq3 z.1
      · rename_i hq1 hq2 hq3
        have ho : ω 30 i = 0 := by omega
        have hsi := hT.2.2 i (by omega) (by omega)
        refine r_wStreet (P := 100000 ≤ zNc ω n g (ω 8 i)) hJ hLρ hn hg ⟨by omega, by omega⟩ ho (w3 _ hsi.1.1 (by omega)) (w3 _ hsi.2.1.1 (by omega)) (by rw [hLρ.2.1]; exact w2) hst (fun t m t0 t1 hh => zStr_iff hJ hD hn.1 hg ⟨by omega, by omega⟩ ho ⟨t0, t1⟩ hh) (fun υ u1 u2 u3 => ?_)
        try simp only [cq_lt, cq_le, cq_gt, cq_ge, cq_eq, cq_r1, cq_r2, ab_r32, ab_r64, ab_go, ab_stp, wp_z, ab_in, ab_rok, ab_wsum, ab_prm, ab_ret, ab_sw, ab_cd, ab_tg, ab_cat_i, ab_cat_l, ab_cat_r, ab_cl_n, ab_cl_i, ab_cl_l, ab_cl_r, ab_f2_0, ab_f2_1, ab_f4_0, ab_f4_1, ab_f4_2, ab_f4_3, ab_op_s, ab_b1_s, ab_b2_s, ab_l1_s, ab_l2_s, ab_li_s, ab_o1_s, ab_io_s, ab_lo1_s, ab_iio_s, ab_lio_s, ab_cp5_s, ab_d2_l, ab_d2_i, ab_d2_o, ex_iconst, ex_bipush, ex_sipush, ex_lconst, ex_ldc, ex_ldc_w, ex_ldc2_w, ex_iadd, ex_isub, ex_imul, ex_iand, ex_ior, ex_ixor, ex_ishl, ex_ishr, ex_iushr, ex_idiv, ex_irem, ex_ladd, ex_lsub, ex_lmul, ex_lor, ex_ldiv, ex_lrem, ex_lshl, ex_lcmp, ex_ineg, ex_lneg, ex_i2l, ex_l2i, ex_i2b, ex_dup, ex_pop, ex_dup2, ex_goto, ex_tableswitch, ex_aaload, ex_ireturn, ex_lreturn, ex_return_, List.map_cons, List.map_nil, List.sum_cons, List.sum_nil, List.drop_succ_cons, List.drop_zero, List.take_succ_cons, List.take_zero, List.reverse_cons, List.reverse_nil, List.nil_append, List.cons_append, List.length_cons, List.length_nil, true_and, and_true, cond_false, cond_true, Bool.false_or, Bool.or_false, Bool.or_true, Bool.true_or, true_or, or_true, false_or, or_false, if_true, if_false, reduceIte, ite_true, ite_false, implies_true, true_implies, false_implies, forall_const, not_true_eq_false, not_false_eq_true, Nat.reduceAdd, Nat.reduceMul, Nat.reduceSub, Nat.reduceBEq, Nat.reduceEqDiff, Nat.reduceLeDiff, Nat.reduceLT, Int.reduceAdd, Int.reduceSub, Int.reduceMul, Int.reduceNeg, Int.reduceToNat, Int.reduceLE, Int.reduceLT, Int.reduceEq, Int.reduceNe, Int.reduceNatCast, Nat.add_zero, Nat.zero_add, reduceCtorEq, Int.reduceNatCast', wp_c, wp_g, e2_ifCond, e2_if_icmp, ↓bq_t, ↓bq_f, ab_br, ↓ab_b1_s, ↓ab_b2_s, ↓ab_l1_s, ↓ab_l2_s, ↓ab_li_s, ↓ab_o1_s, ↓ab_io_s, ↓ab_lo1_s, ↓ab_iio_s, ↓ab_lio_s, ↓ab_cp5_s, moX8_goRound, dX8_goRound_0, dal_0, dX8_goRound_1, dv1_8_47_65, dv1_8_47_76, moX3_open, moX10_open, dX8_goRound_4, dX8_goRound_5, dv1_8_50_65, dv1_8_50_76, moX8_markStreets, dX8_goRound_8, dX8_goRound_9, dis_1, dX8_goRound_10, dil_1, dX8_goRound_11, dX8_goRound_12, dg1_8_34_65, dg1_8_34_76, dX8_goRound_15, dg1_8_53_3, dg1_8_53_12, dX8_goRound_18, dX8_goRound_21, dX8_goRound_22, dg1_8_21_65, dg1_8_21_76, dX8_goRound_25, dX8_goRound_26, dX8_goRound_27, dX8_goRound_28, dv1_8_58_65, dv1_8_58_76, moX8_cheapest, dX8_goRound_31, dX8_goRound_32, dX8_goRound_33, dX8_goRound_34, dv1_8_62_65, dv1_8_62_76, moX3_meetCorner, moX10_meetCorner, dX8_goRound_37, dinc_1, dX8_goRound_40, dX8_goRound_43, dX8_goRound_44, dX8_goRound_45, dX8_goRound_46, dX8_goRound_47, dX8_goRound_50, dg1_8_66_3, dg1_8_66_12, dX8_goRound_53, dX8_goRound_56, dX8_goRound_57, dX8_goRound_60, dg1_8_69_3, dg1_8_69_12, dX8_goRound_63, dX8_goRound_64, dX8_goRound_65, dX8_goRound_68, dX8_goRound_69, dg1_8_38_65, dg1_8_38_76, dX8_goRound_72, dg1_8_72_28, dX8_goRound_75, dX8_goRound_76, dX8_goRound_77, dX8_goRound_80, dX8_goRound_81, dX8_goRound_82, dv1_8_76_65, dv1_8_76_76, moX8_meetStreet, dX8_goRound_85, dX8_goRound_88, dX8_goRound_91, dX8_goRound_92, dv1_8_79_65, dv1_8_79_76, moX3_close, moX10_close, dX8_goRound_95, dal1_11, das1_11, dal1_20, das1_20, dal1_30, das1_30, dal1_69, das1_69, dal1_80, das1_80]
        refine ih (i + 1) υ (by omega) (by omega) ⟨zFw_9 w1 u1, ?_, fun c c0 c1 => zBs_9 u1 (w3 c c0 c1), ?_, ?_⟩
        · rw [u1.1 81 (by decide)]
          exact zMk_m (u1.1 77 (by decide)) w2
        · rw [u2, w4, zSk_s, if_pos ho]
        · rw [zStd_s]
          rcases u3 with ⟨u3, u4⟩ | ⟨u3, u4⟩
          · exact Or.inl ⟨Or.inr ⟨ho, by omega, u3⟩, u4⟩
          · rw [u4]
            rcases w5 with ⟨w5, w6⟩ | ⟨w5, w6⟩
            · exact Or.inl ⟨Or.inl w5, w6⟩
            · refine Or.inr ⟨?_, w6⟩
              rintro (z | z)
              · exact w5 z
              · exact u3 z.2.2
  have key1 : ∀ (m : Nat) (k : Nat) (ρ : ab_S), ω 3 8 - k < m → (k : Int) ≤ ω 3 8 → zWi ω n g σ k 0 ρ → G 10 [some (vR 76), some (vI k)] [] ρ := by
    intro m
    induction m with
    | zero => intro k ρ h1; omega
    | succ m ih =>
      intro k ρ h1 h2 hW
      obtain ⟨w1, w2, w3, w4, w5⟩ := id hW
      have hLρ := zFw_L hL w1
      have e3 : ρ 3 = ω 3 := hLρ.1 3 (by decide)
      have e6 : ρ 6 = ω 6 := hLρ.1 6 (by decide)
      have hst : ρ 76 10 = 0 ∨ ρ 76 10 = 1 := by omega
      apply hG [10, 45] 60
      simp only [cq_lt, cq_le, cq_gt, cq_ge, cq_eq, cq_r1, cq_r2, ab_r32, ab_r64, ab_go, ab_stp, wp_z, ab_in, ab_rok, ab_wsum, ab_prm, ab_ret, ab_sw, ab_cd, ab_tg, ab_cat_i, ab_cat_l, ab_cat_r, ab_cl_n, ab_cl_i, ab_cl_l, ab_cl_r, ab_f2_0, ab_f2_1, ab_f4_0, ab_f4_1, ab_f4_2, ab_f4_3, ab_op_s, ab_b1_s, ab_b2_s, ab_l1_s, ab_l2_s, ab_li_s, ab_o1_s, ab_io_s, ab_lo1_s, ab_iio_s, ab_lio_s, ab_cp5_s, ab_d2_l, ab_d2_i, ab_d2_o, ex_iconst, ex_bipush, ex_sipush, ex_lconst, ex_ldc, ex_ldc_w, ex_ldc2_w, ex_iadd, ex_isub, ex_imul, ex_iand, ex_ior, ex_ixor, ex_ishl, ex_ishr, ex_iushr, ex_idiv, ex_irem, ex_ladd, ex_lsub, ex_lmul, ex_lor, ex_ldiv, ex_lrem, ex_lshl, ex_lcmp, ex_ineg, ex_lneg, ex_i2l, ex_l2i, ex_i2b, ex_dup, ex_pop, ex_dup2, ex_goto, ex_tableswitch, ex_aaload, ex_ireturn, ex_lreturn, ex_return_, List.map_cons, List.map_nil, List.sum_cons, List.sum_nil, List.drop_succ_cons, List.drop_zero, List.take_succ_cons, List.take_zero, List.reverse_cons, List.reverse_nil, List.nil_append, List.cons_append, List.length_cons, List.length_nil, true_and, and_true, cond_false, cond_true, Bool.false_or, Bool.or_false, Bool.or_true, Bool.true_or, true_or, or_true, false_or, or_false, if_true, if_false, reduceIte, ite_true, ite_false, implies_true, true_implies, false_implies, forall_const, not_true_eq_false, not_false_eq_true, Nat.reduceAdd, Nat.reduceMul, Nat.reduceSub, Nat.reduceBEq, Nat.reduceEqDiff, Nat.reduceLeDiff, Nat.reduceLT, Int.reduceAdd, Int.reduceSub, Int.reduceMul, Int.reduceNeg, Int.reduceToNat, Int.reduceLE, Int.reduceLT, Int.reduceEq, Int.reduceNe, Int.reduceNatCast, Nat.add_zero, Nat.zero_add, reduceCtorEq, Int.reduceNatCast', wp_c, wp_g, e2_ifCond, e2_if_icmp, ↓bq_t, ↓bq_f, ab_br, ↓ab_b1_s, ↓ab_b2_s, ↓ab_l1_s, ↓ab_l2_s, ↓ab_li_s, ↓ab_o1_s, ↓ab_io_s, ↓ab_lo1_s, ↓ab_iio_s, ↓ab_lio_s, ↓ab_cp5_s, moX8_goRound, dX8_goRound_0, dal_0, dX8_goRound_1, dv1_8_47_65, dv1_8_47_76, moX3_open, moX10_open, dX8_goRound_4, dX8_goRound_5, dv1_8_50_65, dv1_8_50_76, moX8_markStreets, dX8_goRound_8, dX8_goRound_9, dis_1, dX8_goRound_10, dil_1, dX8_goRound_11, dX8_goRound_12, dg1_8_34_65, dg1_8_34_76, dX8_goRound_15, dg1_8_53_3, dg1_8_53_12, dX8_goRound_18, dX8_goRound_21, dX8_goRound_22, dg1_8_21_65, dg1_8_21_76, dX8_goRound_25, dX8_goRound_26, dX8_goRound_27, dX8_goRound_28, dv1_8_58_65, dv1_8_58_76, moX8_cheapest, dX8_goRound_31, dX8_goRound_32, dX8_goRound_33, dX8_goRound_34, dv1_8_62_65, dv1_8_62_76, moX3_meetCorner, moX10_meetCorner, dX8_goRound_37, dinc_1, dX8_goRound_40, dX8_goRound_43, dX8_goRound_44, dX8_goRound_45, dX8_goRound_46, dX8_goRound_47, dX8_goRound_50, dg1_8_66_3, dg1_8_66_12, dX8_goRound_53, dX8_goRound_56, dX8_goRound_57, dX8_goRound_60, dg1_8_69_3, dg1_8_69_12, dX8_goRound_63, dX8_goRound_64, dX8_goRound_65, dX8_goRound_68, dX8_goRound_69, dg1_8_38_65, dg1_8_38_76, dX8_goRound_72, dg1_8_72_28, dX8_goRound_75, dX8_goRound_76, dX8_goRound_77, dX8_goRound_80, dX8_goRound_81, dX8_goRound_82, dv1_8_76_65, dv1_8_76_76, moX8_meetStreet, dX8_goRound_85, dX8_goRound_88, dX8_goRound_91, dX8_goRound_92, dv1_8_79_65, dv1_8_79_76, moX3_close, moX10_close, dX8_goRound_95, dal1_11, das1_11, dal1_20, das1_20, dal1_30, das1_30, dal1_69, das1_69, dal1_80, das1_80, e3]
      repeat' (with_reducible (first | apply And.intro | intro _))
      all_goals first | omega | skip
      · rename_i hq
        have e2 : (ω 3 8).toNat = k := by omega
        exact key2 17 0 ρ (by omega) (by omega) (by rw [e2]; exact hW)
      · rename_i hq
        have hk : (k : Int) < ω 3 8 := by omega
        refine r_cheapest (Or.inr rfl) (zLwk_sv hJ hn hg hLρ) ⟨by omega, by rw [e3]; exact hk⟩ (by rw [e3]; exact hT1.2) (fun mm q1 q2 => ?_)
        simp only [Nat.reduceAdd] at q2 ⊢
        have hNc := zNc_c hn.1 hLρ ⟨by omega, hk⟩ q2
        have b1 := zmsk_in (ρ 76 7) (fun j => ρ 78 j + ρ 76 8 * ρ 79 (12 * j + k)) mm
        generalize hMM : zmsk (ρ 76 7) (fun j => ρ 78 j + ρ 76 8 * ρ 79 (12 * j + k)) mm = MM at b1
        try simp only [cq_lt, cq_le, cq_gt, cq_ge, cq_eq, cq_r1, cq_r2, ab_r32, ab_r64, ab_go, ab_stp, wp_z, ab_in, ab_rok, ab_wsum, ab_prm, ab_ret, ab_sw, ab_cd, ab_tg, ab_cat_i, ab_cat_l, ab_cat_r, ab_cl_n, ab_cl_i, ab_cl_l, ab_cl_r, ab_f2_0, ab_f2_1, ab_f4_0, ab_f4_1, ab_f4_2, ab_f4_3, ab_op_s, ab_b1_s, ab_b2_s, ab_l1_s, ab_l2_s, ab_li_s, ab_o1_s, ab_io_s, ab_lo1_s, ab_iio_s, ab_lio_s, ab_cp5_s, ab_d2_l, ab_d2_i, ab_d2_o, ex_iconst, ex_bipush, ex_sipush, ex_lconst, ex_ldc, ex_ldc_w, ex_ldc2_w, ex_iadd, ex_isub, ex_imul, ex_iand, ex_ior, ex_ixor, ex_ishl, ex_ishr, ex_iushr, ex_idiv, ex_irem, ex_ladd, ex_lsub, ex_lmul, ex_lor, ex_ldiv, ex_lrem, ex_lshl, ex_lcmp, ex_ineg, ex_lneg, ex_i2l, ex_l2i, ex_i2b, ex_dup, ex_pop, ex_dup2, ex_goto, ex_tableswitch, ex_aaload, ex_ireturn, ex_lreturn, ex_return_, List.map_cons, List.map_nil, List.sum_cons, List.sum_nil, List.drop_succ_cons, List.drop_zero, List.take_succ_cons, List.take_zero, List.reverse_cons, List.reverse_nil, List.nil_append, List.cons_append, List.length_cons, List.length_nil, true_and, and_true, cond_false, cond_true, Bool.false_or, Bool.or_false, Bool.or_true, Bool.true_or, true_or, or_true, false_or, or_false, if_true, if_false, reduceIte, ite_true, ite_false, implies_true, true_implies, false_implies, forall_const, not_true_eq_false, not_false_eq_true, Nat.reduceAdd, Nat.reduceMul, Nat.reduceSub, Nat.reduceBEq, Nat.reduceEqDiff, Nat.reduceLeDiff, Nat.reduceLT, Int.reduceAdd, Int.reduceSub, Int.reduceMul, Int.reduceNeg, Int.reduceToNat, Int.reduceLE, Int.reduceLT, Int.reduceEq, Int.reduceNe, Int.reduceNatCast, Nat.add_zero, Nat.zero_add, reduceCtorEq, Int.reduceNatCast', wp_c, wp_g, e2_ifCond, e2_if_icmp, ↓bq_t, ↓bq_f, ab_br, ↓ab_b1_s, ↓ab_b2_s, ↓ab_l1_s, ↓ab_l2_s, ↓ab_li_s, ↓ab_o1_s, ↓ab_io_s, ↓ab_lo1_s, ↓ab_iio_s, ↓ab_lio_s, ↓ab_cp5_s, moX8_goRound, dX8_goRound_0, dal_0, dX8_goRound_1, dv1_8_47_65, dv1_8_47_76, moX3_open, moX10_open, dX8_goRound_4, dX8_goRound_5, dv1_8_50_65, dv1_8_50_76, moX8_markStreets, dX8_goRound_8, dX8_goRound_9, dis_1, dX8_goRound_10, dil_1, dX8_goRound_11, dX8_goRound_12, dg1_8_34_65, dg1_8_34_76, dX8_goRound_15, dg1_8_53_3, dg1_8_53_12, dX8_goRound_18, dX8_goRound_21, dX8_goRound_22, dg1_8_21_65, dg1_8_21_76, dX8_goRound_25, dX8_goRound_26, dX8_goRound_27, dX8_goRound_28, dv1_8_58_65, dv1_8_58_76, moX8_cheapest, dX8_goRound_31, dX8_goRound_32, dX8_goRound_33, dX8_goRound_34, dv1_8_62_65, dv1_8_62_76, moX3_meetCorner, moX10_meetCorner, dX8_goRound_37, dinc_1, dX8_goRound_40, dX8_goRound_43, dX8_goRound_44, dX8_goRound_45, dX8_goRound_46, dX8_goRound_47, dX8_goRound_50, dg1_8_66_3, dg1_8_66_12, dX8_goRound_53, dX8_goRound_56, dX8_goRound_57, dX8_goRound_60, dg1_8_69_3, dg1_8_69_12, dX8_goRound_63, dX8_goRound_64, dX8_goRound_65, dX8_goRound_68, dX8_goRound_69, dg1_8_38_65, dg1_8_38_76, dX8_goRound_72, dg1_8_72_28, dX8_goRound_75, dX8_goRound_76, dX8_goRound_77, dX8_goRound_80, dX8_goRound_81, dX8_goRound_82, dv1_8_76_65, dv1_8_76_76, moX8_meetStreet, dX8_goRound_85, dX8_goRound_88, dX8_goRound_91, dX8_goRound_92, dv1_8_79_65, dv1_8_79_76, moX3_close, moX10_close, dX8_goRound_95, dal1_11, das1_11, dal1_20, das1_20, dal1_30, das1_30, dal1_69, das1_69, dal1_80, das1_80]
        repeat' (with_reducible (first | apply And.intro | intro _))
        all_goals first | omega | skip
        have p1 := hP.1 k (by omega) hk
        refine r_wCorner (σ := ab_up ρ 80 k (16 * mm + MM)) (m := mm) (M := MM) (by omega) (by show 0 ≤ ρ 6 k ∧ ρ 6 k ≤ 198; rw [e6]; exact p1) (by show ab_up ρ 80 k (16 * mm + MM) 80 k = _; rw [ab_up_eq, ab_set_at, zu_at]) (by omega) b1 hst (fun υ u1 u2 u3 => ?_)
        have v1 : ∀ o, o ≠ 76 → o ≠ 80 → υ o = ρ o := fun o o1 o2 => (u1.1 o o1).trans (ab_up_o o o2)
        have v2 : ∀ i, i ≠ 9 → i ≠ 10 → υ 76 i = ρ 76 i := fun i i1 i2 => u1.2 i i1 i2
        have v3 : ∀ c, υ 80 c = if c = k then 16 * mm + MM else ρ 80 c := fun c => by
          rw [u1.1 80 (by decide), ab_up_eq, ab_set_at]
          rfl
        have u2' : υ 76 9 = ρ 76 9 + 8 * ρ 6 k * mm := u2
        have u3' : (0 < ρ 6 k ∧ 100000 ≤ mm) ∧ υ 76 10 = 1 ∨ ¬ (0 < ρ 6 k ∧ 100000 ≤ mm) ∧ υ 76 10 = ρ 76 10 := u3
        try simp only [cq_lt, cq_le, cq_gt, cq_ge, cq_eq, cq_r1, cq_r2, ab_r32, ab_r64, ab_go, ab_stp, wp_z, ab_in, ab_rok, ab_wsum, ab_prm, ab_ret, ab_sw, ab_cd, ab_tg, ab_cat_i, ab_cat_l, ab_cat_r, ab_cl_n, ab_cl_i, ab_cl_l, ab_cl_r, ab_f2_0, ab_f2_1, ab_f4_0, ab_f4_1, ab_f4_2, ab_f4_3, ab_op_s, ab_b1_s, ab_b2_s, ab_l1_s, ab_l2_s, ab_li_s, ab_o1_s, ab_io_s, ab_lo1_s, ab_iio_s, ab_lio_s, ab_cp5_s, ab_d2_l, ab_d2_i, ab_d2_o, ex_iconst, ex_bipush, ex_sipush, ex_lconst, ex_ldc, ex_ldc_w, ex_ldc2_w, ex_iadd, ex_isub, ex_imul, ex_iand, ex_ior, ex_ixor, ex_ishl, ex_ishr, ex_iushr, ex_idiv, ex_irem, ex_ladd, ex_lsub, ex_lmul, ex_lor, ex_ldiv, ex_lrem, ex_lshl, ex_lcmp, ex_ineg, ex_lneg, ex_i2l, ex_l2i, ex_i2b, ex_dup, ex_pop, ex_dup2, ex_goto, ex_tableswitch, ex_aaload, ex_ireturn, ex_lreturn, ex_return_, List.map_cons, List.map_nil, List.sum_cons, List.sum_nil, List.drop_succ_cons, List.drop_zero, List.take_succ_cons, List.take_zero, List.reverse_cons, List.reverse_nil, List.nil_append, List.cons_append, List.length_cons, List.length_nil, true_and, and_true, cond_false, cond_true, Bool.false_or, Bool.or_false, Bool.or_true, Bool.true_or, true_or, or_true, false_or, or_false, if_true, if_false, reduceIte, ite_true, ite_false, implies_true, true_implies, false_implies, forall_const, not_true_eq_false, not_false_eq_true, Nat.reduceAdd, Nat.reduceMul, Nat.reduceSub, Nat.reduceBEq, Nat.reduceEqDiff, Nat.reduceLeDiff, Nat.reduceLT, Int.reduceAdd, Int.reduceSub, Int.reduceMul, Int.reduceNeg, Int.reduceToNat, Int.reduceLE, Int.reduceLT, Int.reduceEq, Int.reduceNe, Int.reduceNatCast, Nat.add_zero, Nat.zero_add, reduceCtorEq, Int.reduceNatCast', wp_c, wp_g, e2_ifCond, e2_if_icmp, ↓bq_t, ↓bq_f, ab_br, ↓ab_b1_s, ↓ab_b2_s, ↓ab_l1_s, ↓ab_l2_s, ↓ab_li_s, ↓ab_o1_s, ↓ab_io_s, ↓ab_lo1_s, ↓ab_iio_s, ↓ab_lio_s, ↓ab_cp5_s, moX8_goRound, dX8_goRound_0, dal_0, dX8_goRound_1, dv1_8_47_65, dv1_8_47_76, moX3_open, moX10_open, dX8_goRound_4, dX8_goRound_5, dv1_8_50_65, dv1_8_50_76, moX8_markStreets, dX8_goRound_8, dX8_goRound_9, dis_1, dX8_goRound_10, dil_1, dX8_goRound_11, dX8_goRound_12, dg1_8_34_65, dg1_8_34_76, dX8_goRound_15, dg1_8_53_3, dg1_8_53_12, dX8_goRound_18, dX8_goRound_21, dX8_goRound_22, dg1_8_21_65, dg1_8_21_76, dX8_goRound_25, dX8_goRound_26, dX8_goRound_27, dX8_goRound_28, dv1_8_58_65, dv1_8_58_76, moX8_cheapest, dX8_goRound_31, dX8_goRound_32, dX8_goRound_33, dX8_goRound_34, dv1_8_62_65, dv1_8_62_76, moX3_meetCorner, moX10_meetCorner, dX8_goRound_37, dinc_1, dX8_goRound_40, dX8_goRound_43, dX8_goRound_44, dX8_goRound_45, dX8_goRound_46, dX8_goRound_47, dX8_goRound_50, dg1_8_66_3, dg1_8_66_12, dX8_goRound_53, dX8_goRound_56, dX8_goRound_57, dX8_goRound_60, dg1_8_69_3, dg1_8_69_12, dX8_goRound_63, dX8_goRound_64, dX8_goRound_65, dX8_goRound_68, dX8_goRound_69, dg1_8_38_65, dg1_8_38_76, dX8_goRound_72, dg1_8_72_28, dX8_goRound_75, dX8_goRound_76, dX8_goRound_77, dX8_goRound_80, dX8_goRound_81, dX8_goRound_82, dv1_8_76_65, dv1_8_76_76, moX8_meetStreet, dX8_goRound_85, dX8_goRound_88, dX8_goRound_91, dX8_goRound_92, dv1_8_79_65, dv1_8_79_76, moX3_close, moX10_close, dX8_goRound_95, dal1_11, das1_11, dal1_20, das1_20, dal1_30, das1_30, dal1_69, das1_69, dal1_80, das1_80]
        refine ih (k + 1) υ (by omega) (by omega) ⟨⟨fun o o1 o2 o3 => (v1 o o1 o2).trans (w1.1 o o1 o2 o3), fun i i1 i2 => (v2 i i1 i2).trans (w1.2 i i1 i2)⟩, ?_, fun c c0 c1 => ?_, ?_, ?_⟩
        · rw [v1 81 (by decide) (by decide)]
          exact zMk_m (v1 77 (by decide) (by decide)) w2
        · unfold zBs
          simp only [Nat.reduceAdd]
          rw [v1 78 (by decide) (by decide), v1 79 (by decide) (by decide), v2 7 (by decide) (by decide), v2 8 (by decide) (by decide), v3 c]
          by_cases e : c = k
          · rw [if_pos e, e]
            exact ⟨mm, q1, q2, by rw [hMM]⟩
          · rw [if_neg e]
            exact w3 c c0 (by omega)
        · rw [u2', w4, zSk_k, hNc, e6]
        · rw [e6] at u3'
          rw [zStd_k, hNc]
          rcases u3' with ⟨u3, u4⟩ | ⟨u3, u4⟩
          · exact Or.inl ⟨Or.inr u3, u4⟩
          · rw [u4]
            rcases w5 with ⟨w5, w6⟩ | ⟨w5, w6⟩
            · exact Or.inl ⟨Or.inl w5, w6⟩
            · refine Or.inr ⟨?_, w6⟩
              rintro (z | z)
              · exact w5 z
              · exact u3 z
  apply hG [10] 60
  simp only [cq_lt, cq_le, cq_gt, cq_ge, cq_eq, cq_r1, cq_r2, ab_r32, ab_r64, ab_go, ab_stp, wp_z, ab_in, ab_rok, ab_wsum, ab_prm, ab_ret, ab_sw, ab_cd, ab_tg, ab_cat_i, ab_cat_l, ab_cat_r, ab_cl_n, ab_cl_i, ab_cl_l, ab_cl_r, ab_f2_0, ab_f2_1, ab_f4_0, ab_f4_1, ab_f4_2, ab_f4_3, ab_op_s, ab_b1_s, ab_b2_s, ab_l1_s, ab_l2_s, ab_li_s, ab_o1_s, ab_io_s, ab_lo1_s, ab_iio_s, ab_lio_s, ab_cp5_s, ab_d2_l, ab_d2_i, ab_d2_o, ex_iconst, ex_bipush, ex_sipush, ex_lconst, ex_ldc, ex_ldc_w, ex_ldc2_w, ex_iadd, ex_isub, ex_imul, ex_iand, ex_ior, ex_ixor, ex_ishl, ex_ishr, ex_iushr, ex_idiv, ex_irem, ex_ladd, ex_lsub, ex_lmul, ex_lor, ex_ldiv, ex_lrem, ex_lshl, ex_lcmp, ex_ineg, ex_lneg, ex_i2l, ex_l2i, ex_i2b, ex_dup, ex_pop, ex_dup2, ex_goto, ex_tableswitch, ex_aaload, ex_ireturn, ex_lreturn, ex_return_, List.map_cons, List.map_nil, List.sum_cons, List.sum_nil, List.drop_succ_cons, List.drop_zero, List.take_succ_cons, List.take_zero, List.reverse_cons, List.reverse_nil, List.nil_append, List.cons_append, List.length_cons, List.length_nil, true_and, and_true, cond_false, cond_true, Bool.false_or, Bool.or_false, Bool.or_true, Bool.true_or, true_or, or_true, false_or, or_false, if_true, if_false, reduceIte, ite_true, ite_false, implies_true, true_implies, false_implies, forall_const, not_true_eq_false, not_false_eq_true, Nat.reduceAdd, Nat.reduceMul, Nat.reduceSub, Nat.reduceBEq, Nat.reduceEqDiff, Nat.reduceLeDiff, Nat.reduceLT, Int.reduceAdd, Int.reduceSub, Int.reduceMul, Int.reduceNeg, Int.reduceToNat, Int.reduceLE, Int.reduceLT, Int.reduceEq, Int.reduceNe, Int.reduceNatCast, Nat.add_zero, Nat.zero_add, reduceCtorEq, Int.reduceNatCast', wp_c, wp_g, e2_ifCond, e2_if_icmp, ↓bq_t, ↓bq_f, ab_br, ↓ab_b1_s, ↓ab_b2_s, ↓ab_l1_s, ↓ab_l2_s, ↓ab_li_s, ↓ab_o1_s, ↓ab_io_s, ↓ab_lo1_s, ↓ab_iio_s, ↓ab_lio_s, ↓ab_cp5_s, moX8_goRound, dX8_goRound_0, dal_0, dX8_goRound_1, dv1_8_47_65, dv1_8_47_76, moX3_open, moX10_open, dX8_goRound_4, dX8_goRound_5, dv1_8_50_65, dv1_8_50_76, moX8_markStreets, dX8_goRound_8, dX8_goRound_9, dis_1, dX8_goRound_10, dil_1, dX8_goRound_11, dX8_goRound_12, dg1_8_34_65, dg1_8_34_76, dX8_goRound_15, dg1_8_53_3, dg1_8_53_12, dX8_goRound_18, dX8_goRound_21, dX8_goRound_22, dg1_8_21_65, dg1_8_21_76, dX8_goRound_25, dX8_goRound_26, dX8_goRound_27, dX8_goRound_28, dv1_8_58_65, dv1_8_58_76, moX8_cheapest, dX8_goRound_31, dX8_goRound_32, dX8_goRound_33, dX8_goRound_34, dv1_8_62_65, dv1_8_62_76, moX3_meetCorner, moX10_meetCorner, dX8_goRound_37, dinc_1, dX8_goRound_40, dX8_goRound_43, dX8_goRound_44, dX8_goRound_45, dX8_goRound_46, dX8_goRound_47, dX8_goRound_50, dg1_8_66_3, dg1_8_66_12, dX8_goRound_53, dX8_goRound_56, dX8_goRound_57, dX8_goRound_60, dg1_8_69_3, dg1_8_69_12, dX8_goRound_63, dX8_goRound_64, dX8_goRound_65, dX8_goRound_68, dX8_goRound_69, dg1_8_38_65, dg1_8_38_76, dX8_goRound_72, dg1_8_72_28, dX8_goRound_75, dX8_goRound_76, dX8_goRound_77, dX8_goRound_80, dX8_goRound_81, dX8_goRound_82, dv1_8_76_65, dv1_8_76_76, moX8_meetStreet, dX8_goRound_85, dX8_goRound_88, dX8_goRound_91, dX8_goRound_92, dv1_8_79_65, dv1_8_79_76, moX3_close, moX10_close, dX8_goRound_95, dal1_11, das1_11, dal1_20, das1_20, dal1_30, das1_30, dal1_69, das1_69, dal1_80, das1_80]
  repeat' (with_reducible (first | apply And.intro | intro _))
  all_goals first | omega | skip
  refine r_wOpen (fun ρ r1 r2 r3 => ?_)
  try simp only [cq_lt, cq_le, cq_gt, cq_ge, cq_eq, cq_r1, cq_r2, ab_r32, ab_r64, ab_go, ab_stp, wp_z, ab_in, ab_rok, ab_wsum, ab_prm, ab_ret, ab_sw, ab_cd, ab_tg, ab_cat_i, ab_cat_l, ab_cat_r, ab_cl_n, ab_cl_i, ab_cl_l, ab_cl_r, ab_f2_0, ab_f2_1, ab_f4_0, ab_f4_1, ab_f4_2, ab_f4_3, ab_op_s, ab_b1_s, ab_b2_s, ab_l1_s, ab_l2_s, ab_li_s, ab_o1_s, ab_io_s, ab_lo1_s, ab_iio_s, ab_lio_s, ab_cp5_s, ab_d2_l, ab_d2_i, ab_d2_o, ex_iconst, ex_bipush, ex_sipush, ex_lconst, ex_ldc, ex_ldc_w, ex_ldc2_w, ex_iadd, ex_isub, ex_imul, ex_iand, ex_ior, ex_ixor, ex_ishl, ex_ishr, ex_iushr, ex_idiv, ex_irem, ex_ladd, ex_lsub, ex_lmul, ex_lor, ex_ldiv, ex_lrem, ex_lshl, ex_lcmp, ex_ineg, ex_lneg, ex_i2l, ex_l2i, ex_i2b, ex_dup, ex_pop, ex_dup2, ex_goto, ex_tableswitch, ex_aaload, ex_ireturn, ex_lreturn, ex_return_, List.map_cons, List.map_nil, List.sum_cons, List.sum_nil, List.drop_succ_cons, List.drop_zero, List.take_succ_cons, List.take_zero, List.reverse_cons, List.reverse_nil, List.nil_append, List.cons_append, List.length_cons, List.length_nil, true_and, and_true, cond_false, cond_true, Bool.false_or, Bool.or_false, Bool.or_true, Bool.true_or, true_or, or_true, false_or, or_false, if_true, if_false, reduceIte, ite_true, ite_false, implies_true, true_implies, false_implies, forall_const, not_true_eq_false, not_false_eq_true, Nat.reduceAdd, Nat.reduceMul, Nat.reduceSub, Nat.reduceBEq, Nat.reduceEqDiff, Nat.reduceLeDiff, Nat.reduceLT, Int.reduceAdd, Int.reduceSub, Int.reduceMul, Int.reduceNeg, Int.reduceToNat, Int.reduceLE, Int.reduceLT, Int.reduceEq, Int.reduceNe, Int.reduceNatCast, Nat.add_zero, Nat.zero_add, reduceCtorEq, Int.reduceNatCast', wp_c, wp_g, e2_ifCond, e2_if_icmp, ↓bq_t, ↓bq_f, ab_br, ↓ab_b1_s, ↓ab_b2_s, ↓ab_l1_s, ↓ab_l2_s, ↓ab_li_s, ↓ab_o1_s, ↓ab_io_s, ↓ab_lo1_s, ↓ab_iio_s, ↓ab_lio_s, ↓ab_cp5_s, moX8_goRound, dX8_goRound_0, dal_0, dX8_goRound_1, dv1_8_47_65, dv1_8_47_76, moX3_open, moX10_open, dX8_goRound_4, dX8_goRound_5, dv1_8_50_65, dv1_8_50_76, moX8_markStreets, dX8_goRound_8, dX8_goRound_9, dis_1, dX8_goRound_10, dil_1, dX8_goRound_11, dX8_goRound_12, dg1_8_34_65, dg1_8_34_76, dX8_goRound_15, dg1_8_53_3, dg1_8_53_12, dX8_goRound_18, dX8_goRound_21, dX8_goRound_22, dg1_8_21_65, dg1_8_21_76, dX8_goRound_25, dX8_goRound_26, dX8_goRound_27, dX8_goRound_28, dv1_8_58_65, dv1_8_58_76, moX8_cheapest, dX8_goRound_31, dX8_goRound_32, dX8_goRound_33, dX8_goRound_34, dv1_8_62_65, dv1_8_62_76, moX3_meetCorner, moX10_meetCorner, dX8_goRound_37, dinc_1, dX8_goRound_40, dX8_goRound_43, dX8_goRound_44, dX8_goRound_45, dX8_goRound_46, dX8_goRound_47, dX8_goRound_50, dg1_8_66_3, dg1_8_66_12, dX8_goRound_53, dX8_goRound_56, dX8_goRound_57, dX8_goRound_60, dg1_8_69_3, dg1_8_69_12, dX8_goRound_63, dX8_goRound_64, dX8_goRound_65, dX8_goRound_68, dX8_goRound_69, dg1_8_38_65, dg1_8_38_76, dX8_goRound_72, dg1_8_72_28, dX8_goRound_75, dX8_goRound_76, dX8_goRound_77, dX8_goRound_80, dX8_goRound_81, dX8_goRound_82, dv1_8_76_65, dv1_8_76_76, moX8_meetStreet, dX8_goRound_85, dX8_goRound_88, dX8_goRound_91, dX8_goRound_92, dv1_8_79_65, dv1_8_79_76, moX3_close, moX10_close, dX8_goRound_95, dal1_11, das1_11, dal1_20, das1_20, dal1_30, das1_30, dal1_69, das1_69, dal1_80, das1_80]
  repeat' (with_reducible (first | apply And.intro | intro _))
  all_goals first | omega | skip
  have hLρ := zLwk_9 hL r1
  refine r_marks (Or.inr rfl) (zLwk_T hJ hLρ) (zLwk_sv hJ hn hg hLρ) (fun f hf => ?_)
  simp only [Nat.reduceAdd] at hf ⊢
  try simp only [cq_lt, cq_le, cq_gt, cq_ge, cq_eq, cq_r1, cq_r2, ab_r32, ab_r64, ab_go, ab_stp, wp_z, ab_in, ab_rok, ab_wsum, ab_prm, ab_ret, ab_sw, ab_cd, ab_tg, ab_cat_i, ab_cat_l, ab_cat_r, ab_cl_n, ab_cl_i, ab_cl_l, ab_cl_r, ab_f2_0, ab_f2_1, ab_f4_0, ab_f4_1, ab_f4_2, ab_f4_3, ab_op_s, ab_b1_s, ab_b2_s, ab_l1_s, ab_l2_s, ab_li_s, ab_o1_s, ab_io_s, ab_lo1_s, ab_iio_s, ab_lio_s, ab_cp5_s, ab_d2_l, ab_d2_i, ab_d2_o, ex_iconst, ex_bipush, ex_sipush, ex_lconst, ex_ldc, ex_ldc_w, ex_ldc2_w, ex_iadd, ex_isub, ex_imul, ex_iand, ex_ior, ex_ixor, ex_ishl, ex_ishr, ex_iushr, ex_idiv, ex_irem, ex_ladd, ex_lsub, ex_lmul, ex_lor, ex_ldiv, ex_lrem, ex_lshl, ex_lcmp, ex_ineg, ex_lneg, ex_i2l, ex_l2i, ex_i2b, ex_dup, ex_pop, ex_dup2, ex_goto, ex_tableswitch, ex_aaload, ex_ireturn, ex_lreturn, ex_return_, List.map_cons, List.map_nil, List.sum_cons, List.sum_nil, List.drop_succ_cons, List.drop_zero, List.take_succ_cons, List.take_zero, List.reverse_cons, List.reverse_nil, List.nil_append, List.cons_append, List.length_cons, List.length_nil, true_and, and_true, cond_false, cond_true, Bool.false_or, Bool.or_false, Bool.or_true, Bool.true_or, true_or, or_true, false_or, or_false, if_true, if_false, reduceIte, ite_true, ite_false, implies_true, true_implies, false_implies, forall_const, not_true_eq_false, not_false_eq_true, Nat.reduceAdd, Nat.reduceMul, Nat.reduceSub, Nat.reduceBEq, Nat.reduceEqDiff, Nat.reduceLeDiff, Nat.reduceLT, Int.reduceAdd, Int.reduceSub, Int.reduceMul, Int.reduceNeg, Int.reduceToNat, Int.reduceLE, Int.reduceLT, Int.reduceEq, Int.reduceNe, Int.reduceNatCast, Nat.add_zero, Nat.zero_add, reduceCtorEq, Int.reduceNatCast', wp_c, wp_g, e2_ifCond, e2_if_icmp, ↓bq_t, ↓bq_f, ab_br, ↓ab_b1_s, ↓ab_b2_s, ↓ab_l1_s, ↓ab_l2_s, ↓ab_li_s, ↓ab_o1_s, ↓ab_io_s, ↓ab_lo1_s, ↓ab_iio_s, ↓ab_lio_s, ↓ab_cp5_s, moX8_goRound, dX8_goRound_0, dal_0, dX8_goRound_1, dv1_8_47_65, dv1_8_47_76, moX3_open, moX10_open, dX8_goRound_4, dX8_goRound_5, dv1_8_50_65, dv1_8_50_76, moX8_markStreets, dX8_goRound_8, dX8_goRound_9, dis_1, dX8_goRound_10, dil_1, dX8_goRound_11, dX8_goRound_12, dg1_8_34_65, dg1_8_34_76, dX8_goRound_15, dg1_8_53_3, dg1_8_53_12, dX8_goRound_18, dX8_goRound_21, dX8_goRound_22, dg1_8_21_65, dg1_8_21_76, dX8_goRound_25, dX8_goRound_26, dX8_goRound_27, dX8_goRound_28, dv1_8_58_65, dv1_8_58_76, moX8_cheapest, dX8_goRound_31, dX8_goRound_32, dX8_goRound_33, dX8_goRound_34, dv1_8_62_65, dv1_8_62_76, moX3_meetCorner, moX10_meetCorner, dX8_goRound_37, dinc_1, dX8_goRound_40, dX8_goRound_43, dX8_goRound_44, dX8_goRound_45, dX8_goRound_46, dX8_goRound_47, dX8_goRound_50, dg1_8_66_3, dg1_8_66_12, dX8_goRound_53, dX8_goRound_56, dX8_goRound_57, dX8_goRound_60, dg1_8_69_3, dg1_8_69_12, dX8_goRound_63, dX8_goRound_64, dX8_goRound_65, dX8_goRound_68, dX8_goRound_69, dg1_8_38_65, dg1_8_38_76, dX8_goRound_72, dg1_8_72_28, dX8_goRound_75, dX8_goRound_76, dX8_goRound_77, dX8_goRound_80, dX8_goRound_81, dX8_goRound_82, dv1_8_76_65, dv1_8_76_76, moX8_meetStreet, dX8_goRound_85, dX8_goRound_88, dX8_goRound_91, dX8_goRound_92, dv1_8_79_65, dv1_8_79_76, moX3_close, moX10_close, dX8_goRound_95, dal1_11, das1_11, dal1_20, das1_20, dal1_30, das1_30, dal1_69, das1_69, dal1_80, das1_80]
  refine key1 13 0 _ (by omega) (by omega) ⟨⟨fun o o1 o2 o3 => ?_, fun i i1 i2 => ?_⟩, ?_, fun c c0 c1 => by omega, ?_, Or.inr ⟨?_, ?_⟩⟩
  · rw [ab_set_ne _ _ o3]
    exact r1.1 o o1
  · rw [ab_set_ne _ _ (by decide)]
    exact r1.2 i i1 i2
  · rw [ab_set_at]
    rw [hLρ.2.1] at hf
    exact zMk_m (ab_set_ne _ _ (by decide)) hf
  · rw [ab_set_ne _ _ (by decide), r2]
    rfl
  · rintro (⟨i, a, b⟩ | ⟨i, a, b⟩) <;> omega
  · rw [ab_set_ne _ _ (by decide), r3]
/-- what WALK answers: n spots g -/
def zWk (ω : ab_S) (n : Nat) (g : Int → Int) (v : Int) : Prop := zStd ω n g (ω 3 8).toNat (ω 3 9).toNat ∧ v = -1 ∨ ¬ zStd ω n g (ω 3 8).toNat (ω 3 9).toNat ∧ v = zSk ω n g (ω 3 8).toNat (ω 3 9).toNat
theorem zWk_one {ω : ab_S} {n : Nat} {g : Int → Int} {v w : Int} (a : zWk ω n g v) (b : zWk ω n g w) : v = w := by
  rcases a with ⟨a1, a2⟩ | ⟨a1, a2⟩ <;> rcases b with ⟨b1, b2⟩ | ⟨b1, b2⟩
  · rw [a2, b2]
  · exact absurd a1 b1
  · exact absurd b1 a1
  · rw [a2, b2]
/-- the frame of walks -/
def zFk (σ ρ : ab_S) : Prop := (∀ o, o < 76 ∨ o = 78 ∨ 81 < o → ρ o = σ o) ∧ ∀ k, k ≠ 7 → k ≠ 9 → k ≠ 10 → ρ 76 k = σ 76 k
theorem zFk_rf (σ : ab_S) : zFk σ σ := ⟨fun _ _ => rfl, fun _ _ _ _ => rfl⟩
theorem zFk_tr {σ ρ υ : ab_S} (h1 : zFk σ ρ) (h2 : zFk ρ υ) : zFk σ υ := ⟨fun o ho => (h2.1 o ho).trans (h1.1 o ho), fun k a b c => (h2.2 k a b c).trans (h1.2 k a b c)⟩
/-- what the walks never change -/
def zQw (ω : ab_S) : Prop := ω 76 8 = 1 ∧ ∀ j, 0 ≤ j → j < 4 → ω 78 j = 0
theorem zQw_k {σ ρ : ab_S} (h : zFk σ ρ) (hq : zQw σ) : zQw ρ := by
  unfold zQw
  rw [h.2 8 (by decide) (by decide) (by decide), h.1 78 (by omega)]
  exact hq
theorem l_wPlace {ω σ : ab_S} {i p : Int} {g : Int → Int} {K : ab_V → ab_S → Prop} (hJ : zJ ω) (hQ : zQw σ) (hL : zFr ω σ ∧ ∀ j, 0 ≤ j → j < i → σ 77 j = g j ∧ ∀ c, 0 ≤ c → c < ω 3 8 → σ 79 (12 * j + c) = zRe ω (g j) c) (hi : 0 ≤ i ∧ i < 4) (hgp : g i = p) (hp : zSt ω p) (h : ∀ ρ, zFk σ ρ → ρ 76 7 = σ 76 7 → (zFr ω ρ ∧ ∀ j, 0 ≤ j → j < i + 1 → ρ 77 j = g j ∧ ∀ c, 0 ≤ c → c < ω 3 8 → ρ 79 (12 * j + c) = zRe ω (g j) c) → K (vI 0) ρ) : ab_Runs ab_G1 mdX8_place [vR 76, vI i, vI p] σ K := by
  subst hgp
  obtain ⟨hT, hP, hl, hM, hst, -⟩ := hJ
  obtain ⟨h1, h4⟩ := hL
  have hT1 := hT.1
  have e3 : σ 3 = ω 3 := h1 3 (by decide)
  refine r_place (Or.inr rfl) (by rw [zTn_fr h1]; exact hT) (by rw [h1 29 (by decide)]; exact hM.1) (by rw [zSt_fr h1]; exact hp) (by omega) (by rw [h1 30 (by decide)]; exact hP.2.2.1) (fun f hf1 hf2 => ?_)
  rw [e3, h1 29 (by decide), h1 8 (by decide), h1 9 (by decide), h1 10 (by decide), h1 30 (by decide)] at hf1
  simp only [Nat.reduceAdd] at hf2 ⊢
  have hfm : ∀ o, o ≠ 77 → o ≠ 79 → ab_set (ab_set σ 77 (zu (σ 77) i (g i))) 79 f o = σ o := by
    intro o a b
    rw [ab_set_ne _ _ b, ab_set_ne _ _ a]
  refine h _ ⟨fun o ho => hfm o (by omega) (by omega), fun k _ _ _ => by rw [hfm 76 (by decide) (by decide)]⟩ (by rw [hfm 76 (by decide) (by decide)]) ⟨fun o ho => (hfm o (by omega) (by omega)).trans (h1 o ho), fun j j1 j2 => ⟨?_, fun c c1 c2 => ?_⟩⟩
  · show zu (σ 77) i (g i) j = g j
    by_cases e : j = i
    · rw [e, zu_at]
    · rw [zu_ne _ _ e]
      exact (h4 j j1 (by omega)).1
  · show f (12 * j + c) = zRe ω (g j) c
    by_cases e : j = i
    · rw [e, hf1 c c1 c2]
      rfl
    · rw [hf2 (12 * j + c) (by omega)]
      exact (h4 j j1 (by omega)).2 c c1 c2
