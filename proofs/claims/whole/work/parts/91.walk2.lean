-- CLASS: Walks.goRound
/-- the walks hold the spots g, n of them -/
def zLwk (ω : ab_S) (n : Nat) (g : Int → Int) (σ : ab_S) : Prop := zFr ω σ ∧ σ 76 7 = n ∧ σ 76 8 = 1 ∧ ∀ j, 0 ≤ j → j < (n : Int) → σ 77 j = g j ∧ σ 78 j = 0 ∧ ∀ c, 0 ≤ c → c < ω 3 8 → σ 79 (12 * j + c) = zRe ω (g j) c
theorem zLwk_m {ω σ ρ : ab_S} {n : Nat} {g : Int → Int} (hL : zLwk ω n g σ) (h1 : ∀ o, o < 65 ∨ (77 ≤ o ∧ o ≤ 79) → ρ o = σ o) (h2 : ρ 76 7 = σ 76 7) (h3 : ρ 76 8 = σ 76 8) : zLwk ω n g ρ := by
  obtain ⟨a, b, c, d⟩ := hL
  refine ⟨fun o ho => (h1 o (Or.inl ho.1)).trans (a o ho), h2.trans b, h3.trans c, ?_⟩
  rw [h1 77 (by omega), h1 78 (by omega), h1 79 (by omega)]
  exact d
theorem zLwk_9 {ω σ ρ : ab_S} {n : Nat} {g : Int → Int} (hL : zLwk ω n g σ) (h : zW9 σ ρ) : zLwk ω n g ρ := zLwk_m hL (fun o ho => h.1 o (by omega)) (h.2 7 (by decide) (by decide)) (h.2 8 (by decide) (by decide))
theorem zLwk_T {ω σ : ab_S} {n : Nat} {g : Int → Int} (hJ : zJ ω) (hL : zLwk ω n g σ) : zTn σ := by
  rw [zTn_fr hL.1]
  exact hJ.1
theorem zLwk_sv {ω σ : ab_S} {n : Nat} {g : Int → Int} (hJ : zJ ω) (hn : 1 ≤ n ∧ n ≤ 4) (hg : ∀ j, 0 ≤ j → j < (n : Int) → zSt ω (g j)) (hL : zLwk ω n g σ) : zSv σ 76 := by
  have hT := hJ.1
  have hin := hJ.2.2.2.1.1
  obtain ⟨a, b, c, d⟩ := hL
  unfold zSv
  simp only [Nat.reduceAdd]
  rw [b, c, a 3 (by decide)]
  refine ⟨by omega, by omega, fun j j0 j1 => ?_⟩
  obtain ⟨d1, d2, d3⟩ := d j j0 j1
  rw [d1, d2, zSt_fr a]
  refine ⟨hg j j0 j1, by omega, fun k k0 k1 => ?_⟩
  rw [d3 k k0 k1]
  exact zRe_in hT hin (hg j j0 j1) ⟨k0, k1⟩
theorem zLwk_tri {ω σ : ab_S} {n : Nat} {g : Int → Int} {s : Int} (hJ : zJ ω) (hg : ∀ j, 0 ≤ j → j < (n : Int) → zSt ω (g j)) (hL : zLwk ω n g σ) (hs : 0 ≤ s ∧ s < ω 3 9) (ho : ω 30 s = 0) : zTri σ 76 s := by
  obtain ⟨a, b, c, d⟩ := hL
  obtain ⟨f1, f2, f3⟩ := hJ.1.2.2 s hs.1 hs.2
  unfold zTri
  simp only [Nat.reduceAdd]
  rw [b, a 8 (by decide), a 9 (by decide), a 10 (by decide)]
  intro j j0 j1
  obtain ⟨d1, d2, d3⟩ := d j j0 j1
  rw [d1, d3 _ f1.1 f1.2, d3 _ f2.1 f2.2]
  exact zRe_tri hJ (hg j j0 j1) hs ho
theorem zCt_w {ω σ : ab_S} {n : Nat} {g : Int → Int} {s t j : Int} (hT : zTn ω) (hL : zLwk ω n g σ) (hs : 0 ≤ s ∧ s < ω 3 9) (hj : 0 ≤ j ∧ j < (n : Int)) : 2 * zCt σ 76 s t j = zHj ω s (2 * t) (g j) := by
  obtain ⟨a, b, c, d⟩ := hL
  obtain ⟨f1, f2, f3⟩ := hT.2.2 s hs.1 hs.2
  obtain ⟨d1, d2, d3⟩ := d j hj.1 hj.2
  unfold zCt zHj
  simp only [Nat.reduceAdd]
  rw [c, d1, d2, a 8 (by decide), a 9 (by decide), a 10 (by decide), d3 _ f1.1 f1.2, d3 _ f2.1 f2.2]
  by_cases h : 100 ≤ g j ∧ (g j - 100) / 20 = s
  · rw [if_pos h, if_pos h, zabs]
    omega
  · rw [if_neg h, if_neg h]
    omega
theorem zHm_c {ω σ : ab_S} {n : Nat} {g : Int → Int} {s t m d : Int} (hT : zTn ω) (hn : 1 ≤ n) (hL : zLwk ω n g σ) (hs : 0 ≤ s ∧ s < ω 3 9) (h : zLe (σ 76 7) (zCt σ 76 s t) d m) : zHm ω n g s (2 * t) = 2 * m := by
  have b := hL.2.1
  rw [b] at h
  unfold zHm
  refine zmn_eq hn (fun j j0 j1 => ?_) ?_
  · have := h.1 j j0 j1
    have := zCt_w (t := t) hT hL hs ⟨j0, j1⟩
    try dsimp only
    omega
  · rcases h.2 with z | ⟨j, j0, j1, j2⟩
    · omega
    · have := zCt_w (t := t) hT hL hs ⟨j0, j1⟩
      exact ⟨j, j0, j1, by (try dsimp only); omega⟩
theorem zBs_9 {σ ρ : ab_S} {c : Int} (h : zW9 σ ρ) (hb : zBs σ 76 c) : zBs ρ 76 c := by
  unfold zBs at hb ⊢
  simp only [Nat.reduceAdd] at hb ⊢
  rw [h.1 78 (by decide), h.1 79 (by decide), h.1 80 (by decide), h.2 7 (by decide) (by decide), h.2 8 (by decide) (by decide)]
  exact hb
theorem zdis (A c Z W : Int) : A + c * Z + c * W = A + c * (Z + W) := by rw [Int.mul_add, Int.add_assoc]
set_option maxRecDepth 100000 in
set_option maxHeartbeats 4000000 in
theorem r_wStreet {ω σ : ab_S} {n : Nat} {g : Int → Int} {s : Int} {P : Prop} {K : ab_V → ab_S → Prop} (hJ : zJ ω) (hL : zLwk ω n g σ) (hn : 1 ≤ n ∧ n ≤ 4) (hg : ∀ j, 0 ≤ j → j < (n : Int) → zSt ω (g j)) (hs : 0 ≤ s ∧ s < ω 3 9) (ho : ω 30 s = 0) (hA : zBs σ 76 (ω 8 s)) (hB : zBs σ 76 (ω 9 s)) (hM : zMk σ 76 (σ 76 7) (σ 81)) (hst : σ 76 10 = 0 ∨ σ 76 10 = 1) (hP : ∀ t m, 0 ≤ t → t ≤ ω 10 s → zHm ω n g s (2 * t) = 2 * m → (100000 ≤ m ↔ P))
    (h : ∀ ρ, zW9 σ ρ → ρ 76 9 = σ 76 9 + ω 11 s * zHu ω n g s (2 * ω 10 s).toNat → (P ∧ ρ 76 10 = 1 ∨ ¬ P ∧ ρ 76 10 = σ 76 10) → K (vI 0) ρ) : ab_Runs ab_G1 mdX8_meetStreet [vR 76, vI s] σ K := by
  refine ab_runs mwX8_meetStreet (by decide +kernel) (Nat.le_of_ble_eq_true rfl) (fun G hG => ?_)
  show G 0 [some (vR 76), some (vI s), none, none, none, none, none, none] [] _
  have hT := hJ.1
  have hTw := zLwk_T hJ hL
  have hS := zLwk_sv hJ hn hg hL
  have hTri := zLwk_tri hJ hg hL hs ho
  have hcr := hJ.2.1.2.1 s hs.1 hs.2
  obtain ⟨a1, a2, a3, a4⟩ := id hL
  obtain ⟨⟨n1, n2⟩, hp, hj⟩ := id hS
  have e3 : σ 3 = ω 3 := a1 3 (by decide)
  have e8 : σ 8 = ω 8 := a1 8 (by decide)
  have e9 : σ 9 = ω 9 := a1 9 (by decide)
  have e10 : σ 10 = ω 10 := a1 10 (by decide)
  have e11 : σ 11 = ω 11 := a1 11 (by decide)
  have hst2 := hT.2.2 s hs.1 hs.2
  have hTs := hT.2.1
  have hTc := hT.1
  obtain ⟨M, hM1, hM2, hM3⟩ := hM s hs.1 (by omega)
  rw [a2] at hM3
  have hz0 : ∀ {j : Int}, 0 ≤ j ∧ j < σ 76 7 → zCt σ 76 s 0 j = σ (76 + 2) j + σ 76 8 * σ (76 + 3) (12 * j + ω 8 s) ∧ zCt σ 76 s (ω 10 s) j = σ (76 + 2) j + σ 76 8 * σ (76 + 3) (12 * j + ω 9 s) := fun {j} hj' => by
    have := zCt_ends hp hTri hj'
    rw [e8, e9, e10] at this
    exact this
  obtain ⟨mA, qA, lA, eA⟩ := id hA
  obtain ⟨mB, qB, lB, eB⟩ := id hB
  simp only [Nat.reduceAdd] at lA lB eA eB hz0 hj
  have lA0 : zLe (σ 76 7) (zCt σ 76 s 0) 1000000 mA := zLe_congr (fun j j1 j2 => ((hz0 ⟨j1, j2⟩).1).symm) lA
  have lB0 : zLe (σ 76 7) (zCt σ 76 s (ω 10 s)) 1000000 mB := zLe_congr (fun j j1 j2 => ((hz0 ⟨j1, j2⟩).2).symm) lB
  have hA0 := zHm_c hT hn.1 hL hs lA0
  have hB0 := zHm_c hT hn.1 hL hs lB0
  have bA := zmsk_in (σ 76 7) (fun j => σ 78 j + σ 76 8 * σ 79 (12 * j + ω 8 s)) mA
  have bB := zmsk_in (σ 76 7) (fun j => σ 78 j + σ 76 8 * σ 79 (12 * j + ω 9 s)) mB
  generalize zmsk (σ 76 7) (fun j => σ 78 j + σ 76 8 * σ 79 (12 * j + ω 8 s)) mA = MA at eA bA
  generalize zmsk (σ 76 7) (fun j => σ 78 j + σ 76 8 * σ 79 (12 * j + ω 9 s)) mB = MB at eB bB
  -- where somebody stands on this street, there is a bit
  have hbit : ∀ j, 0 ≤ j → j < (n : Int) → (100 ≤ g j ∧ (g j - 100) / 20 = s) → M.testBit ((g j - 100) % 20).toNat = true := by
    intro j j1 j2 j3
    rw [hM3 _ (by omega)]
    have := (a4 j j1 j2).1
    exact ⟨j, j1, j2, by show σ 77 j = _; omega⟩
  have hplace : ∀ j, 0 ≤ j → j < (n : Int) → (100 ≤ g j ∧ (g j - 100) / 20 = s) → 0 < (g j - 100) % 20 ∧ (g j - 100) % 20 < ω 10 s := by
    intro j j1 j2 j3
    have := zSt_st hT (hg j j1 j2) j3.1
    rw [j3.2] at this
    omega
  have key : ∀ (k : Nat) (t t0 m0 M0 : Int) (ρ : ab_S) (z7 : Option ab_V), ω 10 s + 1 - t < k → 1 ≤ t → t ≤ ω 10 s → 0 ≤ t0 → t0 < t → (0 ≤ m0 ∧ m0 ≤ 1000060) → (0 ≤ M0 ∧ M0 < 16) → zHm ω n g s (2 * t0) = 2 * m0 → (∀ j, 0 ≤ j → j < (n : Int) → (100 ≤ g j ∧ (g j - 100) / 20 = s) → ((g j - 100) % 20 ≤ t0 ∨ t ≤ (g j - 100) % 20)) → zW9 σ ρ → ρ 76 9 = σ 76 9 + ω 11 s * zHu ω n g s (2 * t0).toNat → (P ∧ ρ 76 10 = 1 ∨ ρ 76 10 = σ 76 10) →
      G 47 [some (vR 76), some (vI s), some (vI (ω 10 s)), some (vI (16 * m0 + M0)), some (vI (16 * mB + MB)), some (vI t0), some (vI t), z7] [] ρ := by
    intro k
    induction k with
    | zero => intro t t0 m0 M0 ρ z7 h1; omega
    | succ k ih =>
      intro t t0 m0 M0 ρ z7 h1 h2 h3 h4 h5 hm hM0 hL0 hno hρ hsum hq
      have hLρ := zLwk_9 hL hρ
      have r81 : ρ 81 = σ 81 := hρ.1 81 (by decide)
      have r11 : ρ 11 = ω 11 := (hρ.1 11 (by decide)).trans e11
      have hqs : ρ 76 10 = 0 ∨ ρ 76 10 = 1 := by
        rcases hq with z | z
        · exact Or.inr z.2
        · rw [z]; exact hst
      -- the last stretch
      have hend : (∀ j, 0 ≤ j → j < (n : Int) → (100 ≤ g j ∧ (g j - 100) / 20 = s) → (g j - 100) % 20 ≤ t0) → ab_Runs ab_G1 mdX10_meetStretch [vR 76, vI (16 * m0 + M0), vI (16 * mB + MB), vI (ω 10 s - t0), vI (ω 11 s)] ρ (fun v τ => K (vI 0) τ) := by
        intro hno2
        refine r_wStretch hm hM0 (by omega) bB (by omega) hcr hqs (fun υ u1 u2 u3 => ?_)
        refine h υ (zW9_tr hρ u1) ?_ ?_
        · have hc := zHu_add hn.1 (t0 := t0) (t1 := ω 10 s) (by omega) hL0 hB0 (fun j j1 j2 j3 => Or.inl (hno2 j j1 j2 j3))
          rw [u2, hsum, hc]
          exact zdis _ _ _ _
        · have p0 := hP t0 m0 h4 (by omega) hL0
          have p1 := hP (ω 10 s) mB (by omega) (by omega) hB0
          rcases u3 with ⟨u3, u4⟩ | ⟨u3, u4⟩
          · refine Or.inl ⟨?_, u4⟩
            rcases u3 with z | z
            · exact p0.1 z
            · exact p1.1 z
          · refine Or.inr ⟨fun z => u3 (Or.inl (p0.2 z)), ?_⟩
            rcases hq with z | z
            · exact absurd (Or.inl (p0.2 z.1)) u3
            · rw [u4, z]
      have hsh := zbit_shr hM2 (t := t) (by omega)
      rw [← hM1] at hsh
      have hNM : M / 2 ^ t.toNat ≤ M := Nat.div_le_self _ _
      have hN2 : M.testBit t.toNat = decide (M / 2 ^ t.toNat % 2 = 1) := Nat.testBit_eq_decide_div_mod_eq
      have hN0 : M / 2 ^ t.toNat = 0 → ∀ p : Nat, t.toNat ≤ p → M.testBit p = false := by
        intro z p hp2
        rw [Nat.div_eq_zero_iff_lt (Nat.two_pow_pos _)] at z
        exact Nat.testBit_lt_two_pow (Nat.lt_of_lt_of_le z (Nat.pow_le_pow_right (by omega) hp2))
      generalize M / 2 ^ t.toNat = N at hsh hNM hN2 hN0
      have hand : ab_and (N : Int) 1 = (N : Int) % 2 := z_and1 (by omega)
      apply hG [47] 90
      simp only [cq_lt, cq_le, cq_gt, cq_ge, cq_eq, cq_r1, cq_r2, ab_r32, ab_r64, ab_go, ab_stp, wp_z, ab_in, ab_rok, ab_wsum, ab_prm, ab_ret, ab_sw, ab_cd, ab_tg, ab_cat_i, ab_cat_l, ab_cat_r, ab_cl_n, ab_cl_i, ab_cl_l, ab_cl_r, ab_f2_0, ab_f2_1, ab_f4_0, ab_f4_1, ab_f4_2, ab_f4_3, ab_op_s, ab_b1_s, ab_b2_s, ab_l1_s, ab_l2_s, ab_li_s, ab_o1_s, ab_io_s, ab_lo1_s, ab_iio_s, ab_lio_s, ab_cp5_s, ab_d2_l, ab_d2_i, ab_d2_o, ex_iconst, ex_bipush, ex_sipush, ex_lconst, ex_ldc, ex_ldc_w, ex_ldc2_w, ex_iadd, ex_isub, ex_imul, ex_iand, ex_ior, ex_ixor, ex_ishl, ex_ishr, ex_iushr, ex_idiv, ex_irem, ex_ladd, ex_lsub, ex_lmul, ex_lor, ex_ldiv, ex_lrem, ex_lshl, ex_lcmp, ex_ineg, ex_lneg, ex_i2l, ex_l2i, ex_i2b, ex_dup, ex_pop, ex_dup2, ex_goto, ex_tableswitch, ex_aaload, ex_ireturn, ex_lreturn, ex_return_, List.map_cons, List.map_nil, List.sum_cons, List.sum_nil, List.drop_succ_cons, List.drop_zero, List.take_succ_cons, List.take_zero, List.reverse_cons, List.reverse_nil, List.nil_append, List.cons_append, List.length_cons, List.length_nil, true_and, and_true, cond_false, cond_true, Bool.false_or, Bool.or_false, Bool.or_true, Bool.true_or, true_or, or_true, false_or, or_false, if_true, if_false, reduceIte, ite_true, ite_false, implies_true, true_implies, false_implies, forall_const, not_true_eq_false, not_false_eq_true, Nat.reduceAdd, Nat.reduceMul, Nat.reduceSub, Nat.reduceBEq, Nat.reduceEqDiff, Nat.reduceLeDiff, Nat.reduceLT, Int.reduceAdd, Int.reduceSub, Int.reduceMul, Int.reduceNeg, Int.reduceToNat, Int.reduceLE, Int.reduceLT, Int.reduceEq, Int.reduceNe, Int.reduceNatCast, Nat.add_zero, Nat.zero_add, reduceCtorEq, Int.reduceNatCast', wp_c, wp_g, e2_ifCond, e2_if_icmp, ↓bq_t, ↓bq_f, ab_br, ↓ab_b1_s, ↓ab_b2_s, ↓ab_l1_s, ↓ab_l2_s, ↓ab_li_s, ↓ab_o1_s, ↓ab_io_s, ↓ab_lo1_s, ↓ab_iio_s, ↓ab_lio_s, ↓ab_cp5_s, moX8_meetStreet, dX8_meetStreet_0, dal_0, dX8_meetStreet_1, dg1_8_34_65, dg1_8_34_76, dX8_meetStreet_4, dg1_8_91_3, dg1_8_91_12, dX8_meetStreet_7, dil_1, dX8_meetStreet_8, dX8_meetStreet_9, dis_2, dX8_meetStreet_10, dX8_meetStreet_11, dg1_8_21_65, dg1_8_21_76, dX8_meetStreet_14, dX8_meetStreet_15, dX8_meetStreet_18, dg1_8_88_3, dg1_8_88_12, dX8_meetStreet_21, dX8_meetStreet_22, dX8_meetStreet_23, dX8_meetStreet_24, dis_3, dX8_meetStreet_25, dX8_meetStreet_26, dX8_meetStreet_29, dX8_meetStreet_30, dX8_meetStreet_33, dg1_8_94_3, dg1_8_94_12, dX8_meetStreet_36, dX8_meetStreet_37, dX8_meetStreet_38, dX8_meetStreet_39, dis_4, dX8_meetStreet_41, dX8_meetStreet_42, dis_5, dX8_meetStreet_44, dX8_meetStreet_45, dis_6, dX8_meetStreet_47, dil_6, dX8_meetStreet_49, dil_2, dX8_meetStreet_50, dX8_meetStreet_53, dX8_meetStreet_54, dg1_8_24_65, dg1_8_24_76, dX8_meetStreet_57, dX8_meetStreet_58, dX8_meetStreet_59, dX8_meetStreet_61, dX8_meetStreet_62, dX8_meetStreet_65, dX8_meetStreet_66, dX8_meetStreet_69, dX8_meetStreet_70, dX8_meetStreet_71, dX8_meetStreet_73, dX8_meetStreet_74, dX8_meetStreet_75, dX8_meetStreet_76, dX8_meetStreet_77, dX8_meetStreet_80, dX8_meetStreet_81, dX8_meetStreet_82, dX8_meetStreet_84, dv1_8_116_65, dv1_8_116_76, moX8_cheapestOn, dX8_meetStreet_87, dis_7, dX8_meetStreet_89, dX8_meetStreet_90, dil_3, dX8_meetStreet_91, dil_7, dX8_meetStreet_93, dX8_meetStreet_95, dil_5, dX8_meetStreet_97, dX8_meetStreet_98, dX8_meetStreet_99, dX8_meetStreet_102, dg1_8_69_3, dg1_8_69_12, dX8_meetStreet_105, dX8_meetStreet_106, dX8_meetStreet_107, dv1_8_119_65, dv1_8_119_76, moX3_meetStretch, moX10_meetStretch, dX8_meetStreet_110, dX8_meetStreet_112, dX8_meetStreet_113, dX8_meetStreet_115, dX8_meetStreet_117, dinc_6, dX8_meetStreet_120, dX8_meetStreet_123, dX8_meetStreet_124, dX8_meetStreet_125, dil_4, dX8_meetStreet_127, dX8_meetStreet_128, dX8_meetStreet_130, dX8_meetStreet_131, dX8_meetStreet_132, dX8_meetStreet_135, dX8_meetStreet_138, dX8_meetStreet_139, dX8_meetStreet_140, dX8_meetStreet_143, dal1_8, dal1_9, dal1_10, dal1_11, dal1_17, dal1_18, dal1_19, dal1_20, dal1_69, dal1_70, dal1_80, dal1_81, r81, r11, hsh, hand]
      repeat' (with_reducible (first | apply And.intro | intro _))
      all_goals first | omega | skip
      · exact hend (fun j j1 j2 j3 => by have := hno j j1 j2 j3; have := hplace j j1 j2 j3; omega)
      · rename_i hq1 hq2
        refine hend (fun j j1 j2 j3 => ?_)
        rcases hno j j1 j2 j3 with z | z
        · exact z
        · have q1 := hbit j j1 j2 j3
          rw [hN0 (by omega) _ (by omega)] at q1
          cases q1
      · rename_i hq1 hq2 hq3
        refine ih (t + 1) t0 m0 M0 ρ z7 (by omega) (by omega) (by omega) h4 (by omega) hm hM0 hL0 (fun j j1 j2 j3 => ?_) hρ hsum hq
        rcases hno j j1 j2 j3 with z | z
        · exact Or.inl z
        · right
          by_cases e : (g j - 100) % 20 = t
          · have q1 := hbit j j1 j2 j3
            rw [e, hN2, decide_eq_true_eq] at q1
            omega
          · omega
      · have q3 : ρ 3 = ω 3 := (hρ.1 3 (by decide)).trans e3
        have q8 : ρ 8 = ω 8 := (hρ.1 8 (by decide)).trans e8
        have q9 : ρ 9 = ω 9 := (hρ.1 9 (by decide)).trans e9
        have q10 : ρ 10 = ω 10 := (hρ.1 10 (by decide)).trans e10
        refine r_costOn (Or.inr rfl) (zLwk_T hJ hLρ) (zLwk_sv hJ hn hg hLρ) (by rw [hLρ.2.1]; omega) (by rw [q3]; exact hs) (by rw [q10]; omega) (by rw [q8]; exact zBs_9 hρ hA) (by rw [q9]; exact zBs_9 hρ hB) (fun m1 q1 q2 => ?_)
        have b1 := zmsk_in (ρ 76 7) (zCt ρ 76 s t) m1
        generalize zmsk (ρ 76 7) (zCt ρ 76 s t) m1 = M1 at b1
        have hL1 := zHm_c hT hn.1 hLρ hs q2
        try simp only [cq_lt, cq_le, cq_gt, cq_ge, cq_eq, cq_r1, cq_r2, ab_r32, ab_r64, ab_go, ab_stp, wp_z, ab_in, ab_rok, ab_wsum, ab_prm, ab_ret, ab_sw, ab_cd, ab_tg, ab_cat_i, ab_cat_l, ab_cat_r, ab_cl_n, ab_cl_i, ab_cl_l, ab_cl_r, ab_f2_0, ab_f2_1, ab_f4_0, ab_f4_1, ab_f4_2, ab_f4_3, ab_op_s, ab_b1_s, ab_b2_s, ab_l1_s, ab_l2_s, ab_li_s, ab_o1_s, ab_io_s, ab_lo1_s, ab_iio_s, ab_lio_s, ab_cp5_s, ab_d2_l, ab_d2_i, ab_d2_o, ex_iconst, ex_bipush, ex_sipush, ex_lconst, ex_ldc, ex_ldc_w, ex_ldc2_w, ex_iadd, ex_isub, ex_imul, ex_iand, ex_ior, ex_ixor, ex_ishl, ex_ishr, ex_iushr, ex_idiv, ex_irem, ex_ladd, ex_lsub, ex_lmul, ex_lor, ex_ldiv, ex_lrem, ex_lshl, ex_lcmp, ex_ineg, ex_lneg, ex_i2l, ex_l2i, ex_i2b, ex_dup, ex_pop, ex_dup2, ex_goto, ex_tableswitch, ex_aaload, ex_ireturn, ex_lreturn, ex_return_, List.map_cons, List.map_nil, List.sum_cons, List.sum_nil, List.drop_succ_cons, List.drop_zero, List.take_succ_cons, List.take_zero, List.reverse_cons, List.reverse_nil, List.nil_append, List.cons_append, List.length_cons, List.length_nil, true_and, and_true, cond_false, cond_true, Bool.false_or, Bool.or_false, Bool.or_true, Bool.true_or, true_or, or_true, false_or, or_false, if_true, if_false, reduceIte, ite_true, ite_false, implies_true, true_implies, false_implies, forall_const, not_true_eq_false, not_false_eq_true, Nat.reduceAdd, Nat.reduceMul, Nat.reduceSub, Nat.reduceBEq, Nat.reduceEqDiff, Nat.reduceLeDiff, Nat.reduceLT, Int.reduceAdd, Int.reduceSub, Int.reduceMul, Int.reduceNeg, Int.reduceToNat, Int.reduceLE, Int.reduceLT, Int.reduceEq, Int.reduceNe, Int.reduceNatCast, Nat.add_zero, Nat.zero_add, reduceCtorEq, Int.reduceNatCast', wp_c, wp_g, e2_ifCond, e2_if_icmp, ↓bq_t, ↓bq_f, ab_br, ↓ab_b1_s, ↓ab_b2_s, ↓ab_l1_s, ↓ab_l2_s, ↓ab_li_s, ↓ab_o1_s, ↓ab_io_s, ↓ab_lo1_s, ↓ab_iio_s, ↓ab_lio_s, ↓ab_cp5_s, moX8_meetStreet, dX8_meetStreet_0, dal_0, dX8_meetStreet_1, dg1_8_34_65, dg1_8_34_76, dX8_meetStreet_4, dg1_8_91_3, dg1_8_91_12, dX8_meetStreet_7, dil_1, dX8_meetStreet_8, dX8_meetStreet_9, dis_2, dX8_meetStreet_10, dX8_meetStreet_11, dg1_8_21_65, dg1_8_21_76, dX8_meetStreet_14, dX8_meetStreet_15, dX8_meetStreet_18, dg1_8_88_3, dg1_8_88_12, dX8_meetStreet_21, dX8_meetStreet_22, dX8_meetStreet_23, dX8_meetStreet_24, dis_3, dX8_meetStreet_25, dX8_meetStreet_26, dX8_meetStreet_29, dX8_meetStreet_30, dX8_meetStreet_33, dg1_8_94_3, dg1_8_94_12, dX8_meetStreet_36, dX8_meetStreet_37, dX8_meetStreet_38, dX8_meetStreet_39, dis_4, dX8_meetStreet_41, dX8_meetStreet_42, dis_5, dX8_meetStreet_44, dX8_meetStreet_45, dis_6, dX8_meetStreet_47, dil_6, dX8_meetStreet_49, dil_2, dX8_meetStreet_50, dX8_meetStreet_53, dX8_meetStreet_54, dg1_8_24_65, dg1_8_24_76, dX8_meetStreet_57, dX8_meetStreet_58, dX8_meetStreet_59, dX8_meetStreet_61, dX8_meetStreet_62, dX8_meetStreet_65, dX8_meetStreet_66, dX8_meetStreet_69, dX8_meetStreet_70, dX8_meetStreet_71, dX8_meetStreet_73, dX8_meetStreet_74, dX8_meetStreet_75, dX8_meetStreet_76, dX8_meetStreet_77, dX8_meetStreet_80, dX8_meetStreet_81, dX8_meetStreet_82, dX8_meetStreet_84, dv1_8_116_65, dv1_8_116_76, moX8_cheapestOn, dX8_meetStreet_87, dis_7, dX8_meetStreet_89, dX8_meetStreet_90, dil_3, dX8_meetStreet_91, dil_7, dX8_meetStreet_93, dX8_meetStreet_95, dil_5, dX8_meetStreet_97, dX8_meetStreet_98, dX8_meetStreet_99, dX8_meetStreet_102, dg1_8_69_3, dg1_8_69_12, dX8_meetStreet_105, dX8_meetStreet_106, dX8_meetStreet_107, dv1_8_119_65, dv1_8_119_76, moX3_meetStretch, moX10_meetStretch, dX8_meetStreet_110, dX8_meetStreet_112, dX8_meetStreet_113, dX8_meetStreet_115, dX8_meetStreet_117, dinc_6, dX8_meetStreet_120, dX8_meetStreet_123, dX8_meetStreet_124, dX8_meetStreet_125, dil_4, dX8_meetStreet_127, dX8_meetStreet_128, dX8_meetStreet_130, dX8_meetStreet_131, dX8_meetStreet_132, dX8_meetStreet_135, dX8_meetStreet_138, dX8_meetStreet_139, dX8_meetStreet_140, dX8_meetStreet_143, dal1_8, dal1_9, dal1_10, dal1_11, dal1_17, dal1_18, dal1_19, dal1_20, dal1_69, dal1_70, dal1_80, dal1_81, r11]
        repeat' (with_reducible (first | apply And.intro | intro _))
        all_goals first | omega | skip
        refine r_wStretch hm hM0 q1 b1 (by omega) hcr hqs (fun υ u1 u2 u3 => ?_)
        have nx := ih (t + 1) t m1 M1 υ (some (vI (16 * m1 + M1))) (by omega) (by omega) (by omega) (by omega) (by omega) q1 b1 hL1 (fun j j1 j2 j3 => by omega) (zW9_tr hρ u1) (by
          have hc := zHu_add hn.1 (t0 := t0) (t1 := t) (by omega) hL0 hL1 hno
          rw [u2, hsum, hc]
          exact zdis _ _ _ _) (by
          have p0 := hP t0 m0 h4 (by omega) hL0
          have p1 := hP t m1 (by omega) (by omega) hL1
          rcases u3 with ⟨u3, u4⟩ | ⟨u3, u4⟩
          · refine Or.inl ⟨?_, u4⟩
            rcases u3 with z | z
            · exact p0.1 z
            · exact p1.1 z
          · rw [u4]
            exact hq)
        try simp only [cq_lt, cq_le, cq_gt, cq_ge, cq_eq, cq_r1, cq_r2, ab_r32, ab_r64, ab_go, ab_stp, wp_z, ab_in, ab_rok, ab_wsum, ab_prm, ab_ret, ab_sw, ab_cd, ab_tg, ab_cat_i, ab_cat_l, ab_cat_r, ab_cl_n, ab_cl_i, ab_cl_l, ab_cl_r, ab_f2_0, ab_f2_1, ab_f4_0, ab_f4_1, ab_f4_2, ab_f4_3, ab_op_s, ab_b1_s, ab_b2_s, ab_l1_s, ab_l2_s, ab_li_s, ab_o1_s, ab_io_s, ab_lo1_s, ab_iio_s, ab_lio_s, ab_cp5_s, ab_d2_l, ab_d2_i, ab_d2_o, ex_iconst, ex_bipush, ex_sipush, ex_lconst, ex_ldc, ex_ldc_w, ex_ldc2_w, ex_iadd, ex_isub, ex_imul, ex_iand, ex_ior, ex_ixor, ex_ishl, ex_ishr, ex_iushr, ex_idiv, ex_irem, ex_ladd, ex_lsub, ex_lmul, ex_lor, ex_ldiv, ex_lrem, ex_lshl, ex_lcmp, ex_ineg, ex_lneg, ex_i2l, ex_l2i, ex_i2b, ex_dup, ex_pop, ex_dup2, ex_goto, ex_tableswitch, ex_aaload, ex_ireturn, ex_lreturn, ex_return_, List.map_cons, List.map_nil, List.sum_cons, List.sum_nil, List.drop_succ_cons, List.drop_zero, List.take_succ_cons, List.take_zero, List.reverse_cons, List.reverse_nil, List.nil_append, List.cons_append, List.length_cons, List.length_nil, true_and, and_true, cond_false, cond_true, Bool.false_or, Bool.or_false, Bool.or_true, Bool.true_or, true_or, or_true, false_or, or_false, if_true, if_false, reduceIte, ite_true, ite_false, implies_true, true_implies, false_implies, forall_const, not_true_eq_false, not_false_eq_true, Nat.reduceAdd, Nat.reduceMul, Nat.reduceSub, Nat.reduceBEq, Nat.reduceEqDiff, Nat.reduceLeDiff, Nat.reduceLT, Int.reduceAdd, Int.reduceSub, Int.reduceMul, Int.reduceNeg, Int.reduceToNat, Int.reduceLE, Int.reduceLT, Int.reduceEq, Int.reduceNe, Int.reduceNatCast, Nat.add_zero, Nat.zero_add, reduceCtorEq, Int.reduceNatCast', wp_c, wp_g, e2_ifCond, e2_if_icmp, ↓bq_t, ↓bq_f, ab_br, ↓ab_b1_s, ↓ab_b2_s, ↓ab_l1_s, ↓ab_l2_s, ↓ab_li_s, ↓ab_o1_s, ↓ab_io_s, ↓ab_lo1_s, ↓ab_iio_s, ↓ab_lio_s, ↓ab_cp5_s, moX8_meetStreet, dX8_meetStreet_0, dal_0, dX8_meetStreet_1, dg1_8_34_65, dg1_8_34_76, dX8_meetStreet_4, dg1_8_91_3, dg1_8_91_12, dX8_meetStreet_7, dil_1, dX8_meetStreet_8, dX8_meetStreet_9, dis_2, dX8_meetStreet_10, dX8_meetStreet_11, dg1_8_21_65, dg1_8_21_76, dX8_meetStreet_14, dX8_meetStreet_15, dX8_meetStreet_18, dg1_8_88_3, dg1_8_88_12, dX8_meetStreet_21, dX8_meetStreet_22, dX8_meetStreet_23, dX8_meetStreet_24, dis_3, dX8_meetStreet_25, dX8_meetStreet_26, dX8_meetStreet_29, dX8_meetStreet_30, dX8_meetStreet_33, dg1_8_94_3, dg1_8_94_12, dX8_meetStreet_36, dX8_meetStreet_37, dX8_meetStreet_38, dX8_meetStreet_39, dis_4, dX8_meetStreet_41, dX8_meetStreet_42, dis_5, dX8_meetStreet_44, dX8_meetStreet_45, dis_6, dX8_meetStreet_47, dil_6, dX8_meetStreet_49, dil_2, dX8_meetStreet_50, dX8_meetStreet_53, dX8_meetStreet_54, dg1_8_24_65, dg1_8_24_76, dX8_meetStreet_57, dX8_meetStreet_58, dX8_meetStreet_59, dX8_meetStreet_61, dX8_meetStreet_62, dX8_meetStreet_65, dX8_meetStreet_66, dX8_meetStreet_69, dX8_meetStreet_70, dX8_meetStreet_71, dX8_meetStreet_73, dX8_meetStreet_74, dX8_meetStreet_75, dX8_meetStreet_76, dX8_meetStreet_77, dX8_meetStreet_80, dX8_meetStreet_81, dX8_meetStreet_82, dX8_meetStreet_84, dv1_8_116_65, dv1_8_116_76, moX8_cheapestOn, dX8_meetStreet_87, dis_7, dX8_meetStreet_89, dX8_meetStreet_90, dil_3, dX8_meetStreet_91, dil_7, dX8_meetStreet_93, dX8_meetStreet_95, dil_5, dX8_meetStreet_97, dX8_meetStreet_98, dX8_meetStreet_99, dX8_meetStreet_102, dg1_8_69_3, dg1_8_69_12, dX8_meetStreet_105, dX8_meetStreet_106, dX8_meetStreet_107, dv1_8_119_65, dv1_8_119_76, moX3_meetStretch, moX10_meetStretch, dX8_meetStreet_110, dX8_meetStreet_112, dX8_meetStreet_113, dX8_meetStreet_115, dX8_meetStreet_117, dinc_6, dX8_meetStreet_120, dX8_meetStreet_123, dX8_meetStreet_124, dX8_meetStreet_125, dil_4, dX8_meetStreet_127, dX8_meetStreet_128, dX8_meetStreet_130, dX8_meetStreet_131, dX8_meetStreet_132, dX8_meetStreet_135, dX8_meetStreet_138, dX8_meetStreet_139, dX8_meetStreet_140, dX8_meetStreet_143, dal1_8, dal1_9, dal1_10, dal1_11, dal1_17, dal1_18, dal1_19, dal1_20, dal1_69, dal1_70, dal1_80, dal1_81]
        repeat' (with_reducible (first | apply And.intro | intro _))
        all_goals first | omega | exact nx
  apply hG [47] 90
  simp only [cq_lt, cq_le, cq_gt, cq_ge, cq_eq, cq_r1, cq_r2, ab_r32, ab_r64, ab_go, ab_stp, wp_z, ab_in, ab_rok, ab_wsum, ab_prm, ab_ret, ab_sw, ab_cd, ab_tg, ab_cat_i, ab_cat_l, ab_cat_r, ab_cl_n, ab_cl_i, ab_cl_l, ab_cl_r, ab_f2_0, ab_f2_1, ab_f4_0, ab_f4_1, ab_f4_2, ab_f4_3, ab_op_s, ab_b1_s, ab_b2_s, ab_l1_s, ab_l2_s, ab_li_s, ab_o1_s, ab_io_s, ab_lo1_s, ab_iio_s, ab_lio_s, ab_cp5_s, ab_d2_l, ab_d2_i, ab_d2_o, ex_iconst, ex_bipush, ex_sipush, ex_lconst, ex_ldc, ex_ldc_w, ex_ldc2_w, ex_iadd, ex_isub, ex_imul, ex_iand, ex_ior, ex_ixor, ex_ishl, ex_ishr, ex_iushr, ex_idiv, ex_irem, ex_ladd, ex_lsub, ex_lmul, ex_lor, ex_ldiv, ex_lrem, ex_lshl, ex_lcmp, ex_ineg, ex_lneg, ex_i2l, ex_l2i, ex_i2b, ex_dup, ex_pop, ex_dup2, ex_goto, ex_tableswitch, ex_aaload, ex_ireturn, ex_lreturn, ex_return_, List.map_cons, List.map_nil, List.sum_cons, List.sum_nil, List.drop_succ_cons, List.drop_zero, List.take_succ_cons, List.take_zero, List.reverse_cons, List.reverse_nil, List.nil_append, List.cons_append, List.length_cons, List.length_nil, true_and, and_true, cond_false, cond_true, Bool.false_or, Bool.or_false, Bool.or_true, Bool.true_or, true_or, or_true, false_or, or_false, if_true, if_false, reduceIte, ite_true, ite_false, implies_true, true_implies, false_implies, forall_const, not_true_eq_false, not_false_eq_true, Nat.reduceAdd, Nat.reduceMul, Nat.reduceSub, Nat.reduceBEq, Nat.reduceEqDiff, Nat.reduceLeDiff, Nat.reduceLT, Int.reduceAdd, Int.reduceSub, Int.reduceMul, Int.reduceNeg, Int.reduceToNat, Int.reduceLE, Int.reduceLT, Int.reduceEq, Int.reduceNe, Int.reduceNatCast, Nat.add_zero, Nat.zero_add, reduceCtorEq, Int.reduceNatCast', wp_c, wp_g, e2_ifCond, e2_if_icmp, ↓bq_t, ↓bq_f, ab_br, ↓ab_b1_s, ↓ab_b2_s, ↓ab_l1_s, ↓ab_l2_s, ↓ab_li_s, ↓ab_o1_s, ↓ab_io_s, ↓ab_lo1_s, ↓ab_iio_s, ↓ab_lio_s, ↓ab_cp5_s, moX8_meetStreet, dX8_meetStreet_0, dal_0, dX8_meetStreet_1, dg1_8_34_65, dg1_8_34_76, dX8_meetStreet_4, dg1_8_91_3, dg1_8_91_12, dX8_meetStreet_7, dil_1, dX8_meetStreet_8, dX8_meetStreet_9, dis_2, dX8_meetStreet_10, dX8_meetStreet_11, dg1_8_21_65, dg1_8_21_76, dX8_meetStreet_14, dX8_meetStreet_15, dX8_meetStreet_18, dg1_8_88_3, dg1_8_88_12, dX8_meetStreet_21, dX8_meetStreet_22, dX8_meetStreet_23, dX8_meetStreet_24, dis_3, dX8_meetStreet_25, dX8_meetStreet_26, dX8_meetStreet_29, dX8_meetStreet_30, dX8_meetStreet_33, dg1_8_94_3, dg1_8_94_12, dX8_meetStreet_36, dX8_meetStreet_37, dX8_meetStreet_38, dX8_meetStreet_39, dis_4, dX8_meetStreet_41, dX8_meetStreet_42, dis_5, dX8_meetStreet_44, dX8_meetStreet_45, dis_6, dX8_meetStreet_47, dil_6, dX8_meetStreet_49, dil_2, dX8_meetStreet_50, dX8_meetStreet_53, dX8_meetStreet_54, dg1_8_24_65, dg1_8_24_76, dX8_meetStreet_57, dX8_meetStreet_58, dX8_meetStreet_59, dX8_meetStreet_61, dX8_meetStreet_62, dX8_meetStreet_65, dX8_meetStreet_66, dX8_meetStreet_69, dX8_meetStreet_70, dX8_meetStreet_71, dX8_meetStreet_73, dX8_meetStreet_74, dX8_meetStreet_75, dX8_meetStreet_76, dX8_meetStreet_77, dX8_meetStreet_80, dX8_meetStreet_81, dX8_meetStreet_82, dX8_meetStreet_84, dv1_8_116_65, dv1_8_116_76, moX8_cheapestOn, dX8_meetStreet_87, dis_7, dX8_meetStreet_89, dX8_meetStreet_90, dil_3, dX8_meetStreet_91, dil_7, dX8_meetStreet_93, dX8_meetStreet_95, dil_5, dX8_meetStreet_97, dX8_meetStreet_98, dX8_meetStreet_99, dX8_meetStreet_102, dg1_8_69_3, dg1_8_69_12, dX8_meetStreet_105, dX8_meetStreet_106, dX8_meetStreet_107, dv1_8_119_65, dv1_8_119_76, moX3_meetStretch, moX10_meetStretch, dX8_meetStreet_110, dX8_meetStreet_112, dX8_meetStreet_113, dX8_meetStreet_115, dX8_meetStreet_117, dinc_6, dX8_meetStreet_120, dX8_meetStreet_123, dX8_meetStreet_124, dX8_meetStreet_125, dil_4, dX8_meetStreet_127, dX8_meetStreet_128, dX8_meetStreet_130, dX8_meetStreet_131, dX8_meetStreet_132, dX8_meetStreet_135, dX8_meetStreet_138, dX8_meetStreet_139, dX8_meetStreet_140, dX8_meetStreet_143, dal1_8, dal1_9, dal1_10, dal1_11, dal1_17, dal1_18, dal1_19, dal1_20, dal1_69, dal1_70, dal1_80, dal1_81, e8, e9, e10, eA, eB]
  repeat' (with_reducible (first | apply And.intro | intro _))
  all_goals first | omega | skip
  exact key 14 1 0 mA MA σ none (by omega) (by omega) (by omega) (by omega) (by omega) (by omega) bA hA0 (fun j j1 j2 j3 => by have := hplace j j1 j2 j3; omega) (zW9_rf σ) (by
    show σ 76 9 = σ 76 9 + ω 11 s * 0
    omega) (Or.inr rfl)
