-- MODEL: halves, walkOf, walkTo
theorem yR_di {ω τ : ab_S} (hJ : zJ ω) (hR : yR ω τ) : zDy ω := by
  intro p c hp c0 c1
  have hT := hJ.1
  have r11 := hR.2.2.2.2.2.2.2.2.2.2
  unfold zFq at r11
  unfold zRe zrc zto
  by_cases h : p < 100
  · have q := zSt_c hp h
    have := r11 p c q.1 q.2 c0 c1
    rw [if_neg (by omega), if_pos h]
    omega
  · have q := zSt_st hT hp (by omega)
    have q1 := r11 _ c q.2.2.1.1 q.2.2.1.2 c0 c1
    have q2 := r11 _ c q.2.2.2.1.1 q.2.2.2.1.2 c0 c1
    by_cases hc : 100 ≤ p ∧ ¬ ω 30 ((p - 100) / 20) = 0
    · rw [if_pos hc]
      omega
    · rw [if_neg hc, if_neg h]
      omega
/-- only what the walks keep is otherwise -/
def yFk (τ υ : ab_S) : Prop := (∀ o, o ≠ 0 → o ≠ 44 → o ≠ 45 → υ o = τ o) ∧ ∀ k, k ≠ 86 → υ 0 k = τ 0 k
theorem yFk_rf (τ : ab_S) : yFk τ τ := ⟨fun _ _ _ _ => rfl, fun _ _ => rfl⟩
theorem yFk_tr {τ υ φ : ab_S} (h1 : yFk τ υ) (h2 : yFk υ φ) : yFk τ φ := ⟨fun o a b c => (h2.1 o a b c).trans (h1.1 o a b c), fun k a => (h2.2 k a).trans (h1.2 k a)⟩
theorem yR_m {ω τ υ : ab_S} (h1 : ∀ o, o ≠ 0 → o ≤ 25 → υ o = τ o) (h2 : ∀ k, k ≤ 50 → υ 0 k = τ 0 k) (hR : yR ω τ) : yR ω υ := by
  unfold yR
  rw [h2 1 (by decide), h2 2 (by decide), h2 4 (by decide), h2 5 (by decide), h2 6 (by decide), h2 7 (by decide), h2 46 (by decide), h2 47 (by decide), h1 3 (by decide) (by decide), h1 5 (by decide) (by decide), h1 7 (by decide) (by decide), h1 8 (by decide) (by decide), h1 9 (by decide) (by decide), h1 10 (by decide) (by decide), h1 21 (by decide) (by decide), h1 22 (by decide) (by decide), h1 23 (by decide) (by decide), h1 24 (by decide) (by decide), h1 25 (by decide) (by decide)]
  exact hR
theorem yR_k {ω τ υ : ab_S} (h : yFk τ υ) (hR : yR ω τ) : yR ω υ := yR_m (fun o a b => h.1 o a (by omega) (by omega)) (fun k hk => h.2 k (by omega)) hR
theorem yFk_44 (τ : ab_S) (i v : Int) : yFk τ (ab_up τ 44 i v) := ⟨fun o a b c => ab_up_o o b, fun k a => by rw [ab_up_o 0 (by decide)]⟩
/-- least of b and of the ways along street s to those that stand on it -/
def zHg (g : Int → Int) (s h b : Int) : Nat → Int
  | 0 => b
  | i + 1 => if 100 ≤ g i ∧ (g i - 100) / 20 = s then min (zHg g s h b i) (max (h - 2 * ((g i - 100) % 20)) (-(h - 2 * ((g i - 100) % 20)))) else zHg g s h b i
theorem zHg_le (g : Int → Int) (s h b : Int) : ∀ n : Nat, zHg g s h b n ≤ b ∧ ∀ j, 0 ≤ j → j < (n : Int) → (100 ≤ g j ∧ (g j - 100) / 20 = s) → zHg g s h b n ≤ max (h - 2 * ((g j - 100) % 20)) (-(h - 2 * ((g j - 100) % 20)))
  | 0 => ⟨by show b ≤ b; omega, fun j a b => by omega⟩
  | n + 1 => by
    obtain ⟨i1, i2⟩ := zHg_le g s h b n
    rw [zHg]
    by_cases c : 100 ≤ g n ∧ (g n - 100) / 20 = s
    · rw [if_pos c]
      refine ⟨by omega, fun j j0 j1 j2 => ?_⟩
      by_cases e : j = n
      · rw [e]
        omega
      · have := i2 j j0 (by omega) j2
        omega
    · rw [if_neg c]
      refine ⟨i1, fun j j0 j1 j2 => ?_⟩
      by_cases e : j = n
      · rw [e] at j2
        exact absurd j2 c
      · exact i2 j j0 (by omega) j2
theorem zHg_at (g : Int → Int) (s h b : Int) : ∀ n : Nat, zHg g s h b n = b ∨ ∃ j, 0 ≤ j ∧ j < (n : Int) ∧ (100 ≤ g j ∧ (g j - 100) / 20 = s) ∧ zHg g s h b n = max (h - 2 * ((g j - 100) % 20)) (-(h - 2 * ((g j - 100) % 20)))
  | 0 => Or.inl rfl
  | n + 1 => by
    rw [zHg]
    by_cases c : 100 ≤ g n ∧ (g n - 100) / 20 = s
    · rw [if_pos c]
      by_cases e : zHg g s h b n ≤ max (h - 2 * ((g n - 100) % 20)) (-(h - 2 * ((g n - 100) % 20)))
      · rcases zHg_at g s h b n with z | ⟨j, j0, j1, j2, j3⟩
        · exact Or.inl (by omega)
        · exact Or.inr ⟨j, j0, by omega, j2, by omega⟩
      · exact Or.inr ⟨n, by omega, by omega, c, by omega⟩
    · rw [if_neg c]
      rcases zHg_at g s h b n with z | ⟨j, j0, j1, j2, j3⟩
      · exact Or.inl z
      · exact Or.inr ⟨j, j0, by omega, j2, j3⟩
theorem zHg_m {ω : ab_S} {n : Nat} {g : Int → Int} {s h : Int} (hn : 1 ≤ n) : zHg g s h (min (2 * zNc ω n g (ω 8 s) + h) (2 * zNc ω n g (ω 9 s) + 2 * ω 10 s - h)) n = zHm ω n g s h := by
  obtain ⟨l1, l2⟩ := zHg_le g s h (min (2 * zNc ω n g (ω 8 s) + h) (2 * zNc ω n g (ω 9 s) + 2 * ω 10 s - h)) n
  have low : ∀ j, 0 ≤ j → j < (n : Int) → zHg g s h (min (2 * zNc ω n g (ω 8 s) + h) (2 * zNc ω n g (ω 9 s) + 2 * ω 10 s - h)) n ≤ zHj ω s h (g j) := by
    intro j j0 j1
    have a : zNc ω n g (ω 8 s) ≤ zRe ω (g j) (ω 8 s) := zmn_le (fun j => zRe ω (g j) (ω 8 s)) n j j0 j1
    have b : zNc ω n g (ω 9 s) ≤ zRe ω (g j) (ω 9 s) := zmn_le (fun j => zRe ω (g j) (ω 9 s)) n j j0 j1
    unfold zHj
    by_cases c : 100 ≤ g j ∧ (g j - 100) / 20 = s
    · have := l2 j j0 j1 c
      rw [if_pos c]
      omega
    · rw [if_neg c]
      omega
  symm
  unfold zHm
  refine zmn_eq hn low ?_
  rcases zHg_at g s h (min (2 * zNc ω n g (ω 8 s) + h) (2 * zNc ω n g (ω 9 s) + 2 * ω 10 s - h)) n with z | ⟨j, j0, j1, j2, j3⟩
  · by_cases e : 2 * zNc ω n g (ω 8 s) + h ≤ 2 * zNc ω n g (ω 9 s) + 2 * ω 10 s - h
    · obtain ⟨j, j0, j1, j2⟩ := zmn_at (fun j => zRe ω (g j) (ω 8 s)) n hn
      have q := low j j0 j1
      have j2' : zRe ω (g j) (ω 8 s) = zNc ω n g (ω 8 s) := j2
      refine ⟨j, j0, j1, ?_⟩
      have : zHj ω s h (g j) ≤ 2 * zRe ω (g j) (ω 8 s) + h := by
        unfold zHj
        split <;> omega
      try dsimp only
      omega
    · obtain ⟨j, j0, j1, j2⟩ := zmn_at (fun j => zRe ω (g j) (ω 9 s)) n hn
      have q := low j j0 j1
      have j2' : zRe ω (g j) (ω 9 s) = zNc ω n g (ω 9 s) := j2
      refine ⟨j, j0, j1, ?_⟩
      have : zHj ω s h (g j) ≤ 2 * zRe ω (g j) (ω 9 s) + (2 * ω 10 s - h) := by
        unfold zHj
        split <;> omega
      try dsimp only
      omega
  · have q := low j j0 j1
    refine ⟨j, j0, j1, ?_⟩
    have : zHj ω s h (g j) ≤ max (h - 2 * ((g j - 100) % 20)) (-(h - 2 * ((g j - 100) % 20))) := by
      unfold zHj
      rw [if_pos j2]
      omega
    try dsimp only
    omega
/-- the model's nearest corners below k -/
def yNe (ω : ab_S) (n : Nat) (g : Int → Int) (τ : ab_S) (k : Int) : Prop := ∀ c, 0 ≤ c → c < k → (zNc ω n g c ≤ 49176 ∧ τ 44 c = zNc ω n g c) ∨ (100000 ≤ zNc ω n g c ∧ τ 44 c = 1000000)
def yGo (n : Nat) (g : Int → Int) (τ : ab_S) : Prop := τ 0 86 = n ∧ ∀ j, 0 ≤ j → j < (n : Int) → τ 45 j = g j
set_option maxRecDepth 100000 in
set_option maxHeartbeats 4000000 in
theorem y_halves {ω τ : ab_S} {n : Nat} {g : Int → Int} {s h : Int} {K : ab_V → ab_S → Prop} (hJ : zJ ω) (hR : yR ω τ) (hn : 1 ≤ n ∧ n ≤ 4) (hg : ∀ j, 0 ≤ j → j < (n : Int) → zSt ω (g j)) (hgo : yGo n g τ) (hN : yNe ω n g τ (ω 3 8)) (hs : 0 ≤ s ∧ s < ω 3 9) (ho : ω 30 s = 0) (hh : 0 ≤ h ∧ h ≤ 2 * ω 10 s)
    (hK : ∀ v, (zNc ω n g (ω 8 s) < 100000 ∧ v = zHm ω n g s h) ∨ (100000 ≤ zNc ω n g (ω 8 s) ∧ 1000000 ≤ v ∧ v ≤ 3000000) → K (vI v) τ) : ab_Runs ab_G2 mdX12_halves [vR 0, vI s, vI h] τ K := by
  refine ab_runs mwX12_halves (by decide +kernel) (Nat.le_of_ble_eq_true rfl) (fun G hG => ?_)
  show G 0 [some (vR 0), some (vI s), some (vI h), none, none] [] _
  have hT := hJ.1
  have hD := yR_di hJ hR
  obtain ⟨r1, r2, r3, r4, r5, r6, r7, r8, r9, r10, r11⟩ := id hR
  obtain ⟨-, -, -, -, q1, q2, q3, q4⟩ := r10 s hs.1 hs.2
  obtain ⟨f1, f2, f3⟩ := hT.2.2 s hs.1 hs.2
  have hT1 := hT.1
  have hT2 := hT.2.1
  have nA := hN _ f1.1 f1.2
  have nB := hN _ f2.1 f2.2
  obtain ⟨g1, g2⟩ := hgo
  have iA := zNc_in hT hJ.2.2.2.1.1 hn.1 hg f1
  have iB := zNc_in hT hJ.2.2.2.1.1 hn.1 hg f2
  have i0 := zHm_in hT hJ.2.2.2.1.1 hn.1 hg hs (h := 0) (by omega)
  have hgl : ∀ j, 0 ≤ j → j < (n : Int) → 0 ≤ g j ∧ g j < 420 := fun j j0 j1 => zSt_le hT (hg j j0 j1)
  have nBd : τ 44 (ω 9 s) ≤ 1000000 ∧ 0 ≤ τ 44 (ω 9 s) := by omega
  have nAd : τ 44 (ω 8 s) ≤ 1000000 ∧ 0 ≤ τ 44 (ω 8 s) := by omega
  have hgb : ∀ i : Nat, zHg g s h (min (2 * τ 44 (ω 8 s) + h) (2 * τ 44 (ω 9 s) + 2 * ω 10 s - h)) i ≤ 3000000 ∧ -1000 ≤ zHg g s h (min (2 * τ 44 (ω 8 s) + h) (2 * τ 44 (ω 9 s) + 2 * ω 10 s - h)) i := fun i => by
    have a := (zHg_le g s h (min (2 * τ 44 (ω 8 s) + h) (2 * τ 44 (ω 9 s) + 2 * ω 10 s - h)) i).1
    rcases zHg_at g s h (min (2 * τ 44 (ω 8 s) + h) (2 * τ 44 (ω 9 s) + 2 * ω 10 s - h)) i with z | ⟨j, j0, j1, j2, z⟩ <;> omega
  -- the answer
  have fin : K (vI (zHg g s h (min (2 * τ 44 (ω 8 s) + h) (2 * τ 44 (ω 9 s) + 2 * ω 10 s - h)) n)) τ := by
    have tri : ∀ j, 0 ≤ j → j < (n : Int) → _ := fun j j0 j1 => zRe_tri hJ (hg j j0 j1) hs ho
    have side : zNc ω n g (ω 8 s) ≤ 49176 → zNc ω n g (ω 9 s) < 100000 := by
      intro z
      obtain ⟨j, j0, j1, j2⟩ := zmn_at (fun j => zRe ω (g j) (ω 8 s)) n hn.1
      have b : zNc ω n g (ω 9 s) ≤ zRe ω (g j) (ω 9 s) := zmn_le (fun j => zRe ω (g j) (ω 9 s)) n j j0 j1
      have j2' : zRe ω (g j) (ω 8 s) = zNc ω n g (ω 8 s) := j2
      have := tri j j0 j1
      omega
    have side2 : 100000 ≤ zNc ω n g (ω 8 s) → 100000 ≤ zNc ω n g (ω 9 s) ∧ ∀ j, 0 ≤ j → j < (n : Int) → ¬ (100 ≤ g j ∧ (g j - 100) / 20 = s) := by
      intro z
      refine ⟨?_, fun j j0 j1 j2 => ?_⟩
      · obtain ⟨j, j0, j1, j2⟩ := zmn_at (fun j => zRe ω (g j) (ω 9 s)) n hn.1
        have a : zNc ω n g (ω 8 s) ≤ zRe ω (g j) (ω 8 s) := zmn_le (fun j => zRe ω (g j) (ω 8 s)) n j j0 j1
        have j2' : zRe ω (g j) (ω 9 s) = zNc ω n g (ω 9 s) := j2
        have := tri j j0 j1
        omega
      · have a : zNc ω n g (ω 8 s) ≤ zRe ω (g j) (ω 8 s) := zmn_le (fun j => zRe ω (g j) (ω 8 s)) n j j0 j1
        have := (tri j j0 j1).2.2 j2
        omega
    rcases nA with ⟨n1, n2⟩ | ⟨n1, n2⟩
    · have := side n1
      rcases nB with ⟨m1, m2⟩ | ⟨m1, m2⟩
      · refine hK _ (Or.inl ⟨by omega, ?_⟩)
        have e2 : τ 44 (ω 8 s) = zNc ω n g (ω 8 s) := n2
        have e3 : τ 44 (ω 9 s) = zNc ω n g (ω 9 s) := m2
        rw [e2, e3]
        exact zHg_m hn.1
      · omega
    · obtain ⟨s1, s2⟩ := side2 n1
      refine hK _ (Or.inr ⟨n1, ?_, (hgb n).1⟩)
      have e2 : τ 44 (ω 8 s) = 1000000 := n2
      have e3 : τ 44 (ω 9 s) = 1000000 := by
        rcases nB with ⟨m1, m2⟩ | ⟨m1, m2⟩
        · omega
        · exact m2
      rcases zHg_at g s h (min (2 * τ 44 (ω 8 s) + h) (2 * τ 44 (ω 9 s) + 2 * ω 10 s - h)) n with z | ⟨j, j0, j1, j2, z⟩
      · rw [z, e2, e3]
        omega
      · exact absurd j2 (s2 j j0 j1)
  have key : ∀ (m : Nat) (i : Nat), (n : Int) - i < m → i ≤ n → G 46 [some (vR 0), some (vI s), some (vI h), some (vI (zHg g s h (min (2 * τ 44 (ω 8 s) + h) (2 * τ 44 (ω 9 s) + 2 * ω 10 s - h)) i)), some (vI i)] [] τ := by
    intro m
    induction m with
    | zero => intro i h1; omega
    | succ m ih =>
      intro i h1 h2
      have bd := hgb i
      by_cases e : i = n
      · subst e
        apply hG [46] 20
        simp only [cq_lt, cq_le, cq_gt, cq_ge, cq_eq, cq_r1, cq_r2, ab_r32, ab_r64, ab_go, ab_stp, wp_z, ab_in, ab_rok, ab_wsum, ab_prm, ab_ret, ab_sw, ab_cd, ab_tg, ab_cat_i, ab_cat_l, ab_cat_r, ab_cl_n, ab_cl_i, ab_cl_l, ab_cl_r, ab_f2_0, ab_f2_1, ab_f4_0, ab_f4_1, ab_f4_2, ab_f4_3, ab_op_s, ab_b1_s, ab_b2_s, ab_l1_s, ab_l2_s, ab_li_s, ab_o1_s, ab_io_s, ab_lo1_s, ab_iio_s, ab_lio_s, ab_cp5_s, ab_d2_l, ab_d2_i, ab_d2_o, ex_iconst, ex_bipush, ex_sipush, ex_lconst, ex_ldc, ex_ldc_w, ex_ldc2_w, ex_iadd, ex_isub, ex_imul, ex_iand, ex_ior, ex_ixor, ex_ishl, ex_ishr, ex_iushr, ex_idiv, ex_irem, ex_ladd, ex_lsub, ex_lmul, ex_lor, ex_ldiv, ex_lrem, ex_lshl, ex_lcmp, ex_ineg, ex_lneg, ex_i2l, ex_l2i, ex_i2b, ex_dup, ex_pop, ex_dup2, ex_goto, ex_tableswitch, ex_aaload, ex_ireturn, ex_lreturn, ex_return_, List.map_cons, List.map_nil, List.sum_cons, List.sum_nil, List.drop_succ_cons, List.drop_zero, List.take_succ_cons, List.take_zero, List.reverse_cons, List.reverse_nil, List.nil_append, List.cons_append, List.length_cons, List.length_nil, true_and, and_true, cond_false, cond_true, Bool.false_or, Bool.or_false, Bool.or_true, Bool.true_or, true_or, or_true, false_or, or_false, if_true, if_false, reduceIte, ite_true, ite_false, implies_true, true_implies, false_implies, forall_const, not_true_eq_false, not_false_eq_true, Nat.reduceAdd, Nat.reduceMul, Nat.reduceSub, Nat.reduceBEq, Nat.reduceEqDiff, Nat.reduceLeDiff, Nat.reduceLT, Int.reduceAdd, Int.reduceSub, Int.reduceMul, Int.reduceNeg, Int.reduceToNat, Int.reduceLE, Int.reduceLT, Int.reduceEq, Int.reduceNe, Int.reduceNatCast, Nat.add_zero, Nat.zero_add, reduceCtorEq, Int.reduceNatCast', wp_c, wp_g, e2_ifCond, e2_if_icmp, ↓bq_t, ↓bq_f, ab_br, ↓ab_b1_s, ↓ab_b2_s, ↓ab_l1_s, ↓ab_l2_s, ↓ab_li_s, ↓ab_o1_s, ↓ab_io_s, ↓ab_lo1_s, ↓ab_iio_s, ↓ab_lio_s, ↓ab_cp5_s, moX12_halves, dX12_halves_0, dX12_halves_1, dal_0, dX12_halves_2, dg2_12_161_0, dX12_halves_5, dX12_halves_6, dg2_12_91_0, dX12_halves_9, dil_1, dX12_halves_10, dX12_halves_11, dX12_halves_12, dX12_halves_13, dil_2, dX12_halves_14, dX12_halves_15, dX12_halves_16, dX12_halves_17, dX12_halves_20, dX12_halves_21, dg2_12_94_0, dX12_halves_24, dX12_halves_25, dX12_halves_26, dX12_halves_27, dX12_halves_28, dX12_halves_29, dX12_halves_30, dg2_12_97_0, dX12_halves_33, dX12_halves_34, dX12_halves_35, dX12_halves_36, dX12_halves_37, dX12_halves_38, dX12_halves_39, ds12_223, moX12_min, dX12_halves_42, dis_3, dX12_halves_43, dX12_halves_44, dis_4, dX12_halves_46, dil_4, dX12_halves_48, dX12_halves_49, dg2_12_513_0, dX12_halves_52, dX12_halves_55, dX12_halves_56, dg2_12_164_0, dX12_halves_59, dX12_halves_61, dX12_halves_62, dX12_halves_64, dX12_halves_67, dX12_halves_68, dX12_halves_71, dX12_halves_73, dX12_halves_74, ds12_357, moX12_streetOf, dX12_halves_77, dX12_halves_78, dX12_halves_81, dil_3, dX12_halves_82, dX12_halves_83, dX12_halves_84, dX12_halves_85, dX12_halves_88, dX12_halves_90, dX12_halves_91, ds12_361, moX12_partOf, dX12_halves_94, dX12_halves_95, dX12_halves_96, ds12_367, moX12_abs, dX12_halves_99, dX12_halves_102, dX12_halves_103, dinc_4, dX12_halves_106, dX12_halves_109, dX12_halves_110, dal2_21, ar2_21, dal2_22, ar2_22, dal2_23, ar2_23, dal2_44, ar2_44, dal2_45, ar2_45, g1]
        repeat' (with_reducible (first | apply And.intro | intro _))
        all_goals first | omega | exact fin
      · have hgi := g2 i (by omega) (by omega)
        have hgr := hgl i (by omega) (by omega)
        have no : ¬ (100 ≤ g i ∧ (g i - 100) / 20 = s) → G 46 [some (vR 0), some (vI s), some (vI h), some (vI (zHg g s h (min (2 * τ 44 (ω 8 s) + h) (2 * τ 44 (ω 9 s) + 2 * ω 10 s - h)) i)), some (vI (i + 1))] [] τ := fun z => by
          have := ih (i + 1) (by omega) (by omega)
          rw [zHg, if_neg z] at this
          exact this
        have yes : (100 ≤ g i ∧ (g i - 100) / 20 = s) → G 46 [some (vR 0), some (vI s), some (vI h), some (vI (min (zHg g s h (min (2 * τ 44 (ω 8 s) + h) (2 * τ 44 (ω 9 s) + 2 * ω 10 s - h)) i) (max (h - 2 * ((g i - 100) % 20)) (-(h - 2 * ((g i - 100) % 20)))))), some (vI (i + 1))] [] τ := fun z => by
          have := ih (i + 1) (by omega) (by omega)
          rw [zHg, if_pos z] at this
          exact this
        generalize zHg g s h (min (2 * τ 44 (ω 8 s) + h) (2 * τ 44 (ω 9 s) + 2 * ω 10 s - h)) i = A at *
        apply hG [46] 40
        simp only [cq_lt, cq_le, cq_gt, cq_ge, cq_eq, cq_r1, cq_r2, ab_r32, ab_r64, ab_go, ab_stp, wp_z, ab_in, ab_rok, ab_wsum, ab_prm, ab_ret, ab_sw, ab_cd, ab_tg, ab_cat_i, ab_cat_l, ab_cat_r, ab_cl_n, ab_cl_i, ab_cl_l, ab_cl_r, ab_f2_0, ab_f2_1, ab_f4_0, ab_f4_1, ab_f4_2, ab_f4_3, ab_op_s, ab_b1_s, ab_b2_s, ab_l1_s, ab_l2_s, ab_li_s, ab_o1_s, ab_io_s, ab_lo1_s, ab_iio_s, ab_lio_s, ab_cp5_s, ab_d2_l, ab_d2_i, ab_d2_o, ex_iconst, ex_bipush, ex_sipush, ex_lconst, ex_ldc, ex_ldc_w, ex_ldc2_w, ex_iadd, ex_isub, ex_imul, ex_iand, ex_ior, ex_ixor, ex_ishl, ex_ishr, ex_iushr, ex_idiv, ex_irem, ex_ladd, ex_lsub, ex_lmul, ex_lor, ex_ldiv, ex_lrem, ex_lshl, ex_lcmp, ex_ineg, ex_lneg, ex_i2l, ex_l2i, ex_i2b, ex_dup, ex_pop, ex_dup2, ex_goto, ex_tableswitch, ex_aaload, ex_ireturn, ex_lreturn, ex_return_, List.map_cons, List.map_nil, List.sum_cons, List.sum_nil, List.drop_succ_cons, List.drop_zero, List.take_succ_cons, List.take_zero, List.reverse_cons, List.reverse_nil, List.nil_append, List.cons_append, List.length_cons, List.length_nil, true_and, and_true, cond_false, cond_true, Bool.false_or, Bool.or_false, Bool.or_true, Bool.true_or, true_or, or_true, false_or, or_false, if_true, if_false, reduceIte, ite_true, ite_false, implies_true, true_implies, false_implies, forall_const, not_true_eq_false, not_false_eq_true, Nat.reduceAdd, Nat.reduceMul, Nat.reduceSub, Nat.reduceBEq, Nat.reduceEqDiff, Nat.reduceLeDiff, Nat.reduceLT, Int.reduceAdd, Int.reduceSub, Int.reduceMul, Int.reduceNeg, Int.reduceToNat, Int.reduceLE, Int.reduceLT, Int.reduceEq, Int.reduceNe, Int.reduceNatCast, Nat.add_zero, Nat.zero_add, reduceCtorEq, Int.reduceNatCast', wp_c, wp_g, e2_ifCond, e2_if_icmp, ↓bq_t, ↓bq_f, ab_br, ↓ab_b1_s, ↓ab_b2_s, ↓ab_l1_s, ↓ab_l2_s, ↓ab_li_s, ↓ab_o1_s, ↓ab_io_s, ↓ab_lo1_s, ↓ab_iio_s, ↓ab_lio_s, ↓ab_cp5_s, moX12_halves, dX12_halves_0, dX12_halves_1, dal_0, dX12_halves_2, dg2_12_161_0, dX12_halves_5, dX12_halves_6, dg2_12_91_0, dX12_halves_9, dil_1, dX12_halves_10, dX12_halves_11, dX12_halves_12, dX12_halves_13, dil_2, dX12_halves_14, dX12_halves_15, dX12_halves_16, dX12_halves_17, dX12_halves_20, dX12_halves_21, dg2_12_94_0, dX12_halves_24, dX12_halves_25, dX12_halves_26, dX12_halves_27, dX12_halves_28, dX12_halves_29, dX12_halves_30, dg2_12_97_0, dX12_halves_33, dX12_halves_34, dX12_halves_35, dX12_halves_36, dX12_halves_37, dX12_halves_38, dX12_halves_39, ds12_223, moX12_min, dX12_halves_42, dis_3, dX12_halves_43, dX12_halves_44, dis_4, dX12_halves_46, dil_4, dX12_halves_48, dX12_halves_49, dg2_12_513_0, dX12_halves_52, dX12_halves_55, dX12_halves_56, dg2_12_164_0, dX12_halves_59, dX12_halves_61, dX12_halves_62, dX12_halves_64, dX12_halves_67, dX12_halves_68, dX12_halves_71, dX12_halves_73, dX12_halves_74, ds12_357, moX12_streetOf, dX12_halves_77, dX12_halves_78, dX12_halves_81, dil_3, dX12_halves_82, dX12_halves_83, dX12_halves_84, dX12_halves_85, dX12_halves_88, dX12_halves_90, dX12_halves_91, ds12_361, moX12_partOf, dX12_halves_94, dX12_halves_95, dX12_halves_96, ds12_367, moX12_abs, dX12_halves_99, dX12_halves_102, dX12_halves_103, dinc_4, dX12_halves_106, dX12_halves_109, dX12_halves_110, dal2_21, ar2_21, dal2_22, ar2_22, dal2_23, ar2_23, dal2_44, ar2_44, dal2_45, ar2_45, g1, hgi]
        repeat' (with_reducible (first | apply And.intro | intro _))
        all_goals first | omega | exact no (by omega) | skip
        refine y_streetOf (by omega) ?_
        try simp only [cq_lt, cq_le, cq_gt, cq_ge, cq_eq, cq_r1, cq_r2, ab_r32, ab_r64, ab_go, ab_stp, wp_z, ab_in, ab_rok, ab_wsum, ab_prm, ab_ret, ab_sw, ab_cd, ab_tg, ab_cat_i, ab_cat_l, ab_cat_r, ab_cl_n, ab_cl_i, ab_cl_l, ab_cl_r, ab_f2_0, ab_f2_1, ab_f4_0, ab_f4_1, ab_f4_2, ab_f4_3, ab_op_s, ab_b1_s, ab_b2_s, ab_l1_s, ab_l2_s, ab_li_s, ab_o1_s, ab_io_s, ab_lo1_s, ab_iio_s, ab_lio_s, ab_cp5_s, ab_d2_l, ab_d2_i, ab_d2_o, ex_iconst, ex_bipush, ex_sipush, ex_lconst, ex_ldc, ex_ldc_w, ex_ldc2_w, ex_iadd, ex_isub, ex_imul, ex_iand, ex_ior, ex_ixor, ex_ishl, ex_ishr, ex_iushr, ex_idiv, ex_irem, ex_ladd, ex_lsub, ex_lmul, ex_lor, ex_ldiv, ex_lrem, ex_lshl, ex_lcmp, ex_ineg, ex_lneg, ex_i2l, ex_l2i, ex_i2b, ex_dup, ex_pop, ex_dup2, ex_goto, ex_tableswitch, ex_aaload, ex_ireturn, ex_lreturn, ex_return_, List.map_cons, List.map_nil, List.sum_cons, List.sum_nil, List.drop_succ_cons, List.drop_zero, List.take_succ_cons, List.take_zero, List.reverse_cons, List.reverse_nil, List.nil_append, List.cons_append, List.length_cons, List.length_nil, true_and, and_true, cond_false, cond_true, Bool.false_or, Bool.or_false, Bool.or_true, Bool.true_or, true_or, or_true, false_or, or_false, if_true, if_false, reduceIte, ite_true, ite_false, implies_true, true_implies, false_implies, forall_const, not_true_eq_false, not_false_eq_true, Nat.reduceAdd, Nat.reduceMul, Nat.reduceSub, Nat.reduceBEq, Nat.reduceEqDiff, Nat.reduceLeDiff, Nat.reduceLT, Int.reduceAdd, Int.reduceSub, Int.reduceMul, Int.reduceNeg, Int.reduceToNat, Int.reduceLE, Int.reduceLT, Int.reduceEq, Int.reduceNe, Int.reduceNatCast, Nat.add_zero, Nat.zero_add, reduceCtorEq, Int.reduceNatCast', wp_c, wp_g, e2_ifCond, e2_if_icmp, ↓bq_t, ↓bq_f, ab_br, ↓ab_b1_s, ↓ab_b2_s, ↓ab_l1_s, ↓ab_l2_s, ↓ab_li_s, ↓ab_o1_s, ↓ab_io_s, ↓ab_lo1_s, ↓ab_iio_s, ↓ab_lio_s, ↓ab_cp5_s, moX12_halves, dX12_halves_0, dX12_halves_1, dal_0, dX12_halves_2, dg2_12_161_0, dX12_halves_5, dX12_halves_6, dg2_12_91_0, dX12_halves_9, dil_1, dX12_halves_10, dX12_halves_11, dX12_halves_12, dX12_halves_13, dil_2, dX12_halves_14, dX12_halves_15, dX12_halves_16, dX12_halves_17, dX12_halves_20, dX12_halves_21, dg2_12_94_0, dX12_halves_24, dX12_halves_25, dX12_halves_26, dX12_halves_27, dX12_halves_28, dX12_halves_29, dX12_halves_30, dg2_12_97_0, dX12_halves_33, dX12_halves_34, dX12_halves_35, dX12_halves_36, dX12_halves_37, dX12_halves_38, dX12_halves_39, ds12_223, moX12_min, dX12_halves_42, dis_3, dX12_halves_43, dX12_halves_44, dis_4, dX12_halves_46, dil_4, dX12_halves_48, dX12_halves_49, dg2_12_513_0, dX12_halves_52, dX12_halves_55, dX12_halves_56, dg2_12_164_0, dX12_halves_59, dX12_halves_61, dX12_halves_62, dX12_halves_64, dX12_halves_67, dX12_halves_68, dX12_halves_71, dX12_halves_73, dX12_halves_74, ds12_357, moX12_streetOf, dX12_halves_77, dX12_halves_78, dX12_halves_81, dil_3, dX12_halves_82, dX12_halves_83, dX12_halves_84, dX12_halves_85, dX12_halves_88, dX12_halves_90, dX12_halves_91, ds12_361, moX12_partOf, dX12_halves_94, dX12_halves_95, dX12_halves_96, ds12_367, moX12_abs, dX12_halves_99, dX12_halves_102, dX12_halves_103, dinc_4, dX12_halves_106, dX12_halves_109, dX12_halves_110, dal2_21, ar2_21, dal2_22, ar2_22, dal2_23, ar2_23, dal2_44, ar2_44, dal2_45, ar2_45, hgi]
        repeat' (with_reducible (first | apply And.intro | intro _))
        all_goals first | omega | exact no (by omega) | skip
        refine y_partOf (by omega) ?_
        try simp only [cq_lt, cq_le, cq_gt, cq_ge, cq_eq, cq_r1, cq_r2, ab_r32, ab_r64, ab_go, ab_stp, wp_z, ab_in, ab_rok, ab_wsum, ab_prm, ab_ret, ab_sw, ab_cd, ab_tg, ab_cat_i, ab_cat_l, ab_cat_r, ab_cl_n, ab_cl_i, ab_cl_l, ab_cl_r, ab_f2_0, ab_f2_1, ab_f4_0, ab_f4_1, ab_f4_2, ab_f4_3, ab_op_s, ab_b1_s, ab_b2_s, ab_l1_s, ab_l2_s, ab_li_s, ab_o1_s, ab_io_s, ab_lo1_s, ab_iio_s, ab_lio_s, ab_cp5_s, ab_d2_l, ab_d2_i, ab_d2_o, ex_iconst, ex_bipush, ex_sipush, ex_lconst, ex_ldc, ex_ldc_w, ex_ldc2_w, ex_iadd, ex_isub, ex_imul, ex_iand, ex_ior, ex_ixor, ex_ishl, ex_ishr, ex_iushr, ex_idiv, ex_irem, ex_ladd, ex_lsub, ex_lmul, ex_lor, ex_ldiv, ex_lrem, ex_lshl, ex_lcmp, ex_ineg, ex_lneg, ex_i2l, ex_l2i, ex_i2b, ex_dup, ex_pop, ex_dup2, ex_goto, ex_tableswitch, ex_aaload, ex_ireturn, ex_lreturn, ex_return_, List.map_cons, List.map_nil, List.sum_cons, List.sum_nil, List.drop_succ_cons, List.drop_zero, List.take_succ_cons, List.take_zero, List.reverse_cons, List.reverse_nil, List.nil_append, List.cons_append, List.length_cons, List.length_nil, true_and, and_true, cond_false, cond_true, Bool.false_or, Bool.or_false, Bool.or_true, Bool.true_or, true_or, or_true, false_or, or_false, if_true, if_false, reduceIte, ite_true, ite_false, implies_true, true_implies, false_implies, forall_const, not_true_eq_false, not_false_eq_true, Nat.reduceAdd, Nat.reduceMul, Nat.reduceSub, Nat.reduceBEq, Nat.reduceEqDiff, Nat.reduceLeDiff, Nat.reduceLT, Int.reduceAdd, Int.reduceSub, Int.reduceMul, Int.reduceNeg, Int.reduceToNat, Int.reduceLE, Int.reduceLT, Int.reduceEq, Int.reduceNe, Int.reduceNatCast, Nat.add_zero, Nat.zero_add, reduceCtorEq, Int.reduceNatCast', wp_c, wp_g, e2_ifCond, e2_if_icmp, ↓bq_t, ↓bq_f, ab_br, ↓ab_b1_s, ↓ab_b2_s, ↓ab_l1_s, ↓ab_l2_s, ↓ab_li_s, ↓ab_o1_s, ↓ab_io_s, ↓ab_lo1_s, ↓ab_iio_s, ↓ab_lio_s, ↓ab_cp5_s, moX12_halves, dX12_halves_0, dX12_halves_1, dal_0, dX12_halves_2, dg2_12_161_0, dX12_halves_5, dX12_halves_6, dg2_12_91_0, dX12_halves_9, dil_1, dX12_halves_10, dX12_halves_11, dX12_halves_12, dX12_halves_13, dil_2, dX12_halves_14, dX12_halves_15, dX12_halves_16, dX12_halves_17, dX12_halves_20, dX12_halves_21, dg2_12_94_0, dX12_halves_24, dX12_halves_25, dX12_halves_26, dX12_halves_27, dX12_halves_28, dX12_halves_29, dX12_halves_30, dg2_12_97_0, dX12_halves_33, dX12_halves_34, dX12_halves_35, dX12_halves_36, dX12_halves_37, dX12_halves_38, dX12_halves_39, ds12_223, moX12_min, dX12_halves_42, dis_3, dX12_halves_43, dX12_halves_44, dis_4, dX12_halves_46, dil_4, dX12_halves_48, dX12_halves_49, dg2_12_513_0, dX12_halves_52, dX12_halves_55, dX12_halves_56, dg2_12_164_0, dX12_halves_59, dX12_halves_61, dX12_halves_62, dX12_halves_64, dX12_halves_67, dX12_halves_68, dX12_halves_71, dX12_halves_73, dX12_halves_74, ds12_357, moX12_streetOf, dX12_halves_77, dX12_halves_78, dX12_halves_81, dil_3, dX12_halves_82, dX12_halves_83, dX12_halves_84, dX12_halves_85, dX12_halves_88, dX12_halves_90, dX12_halves_91, ds12_361, moX12_partOf, dX12_halves_94, dX12_halves_95, dX12_halves_96, ds12_367, moX12_abs, dX12_halves_99, dX12_halves_102, dX12_halves_103, dinc_4, dX12_halves_106, dX12_halves_109, dX12_halves_110, dal2_21, ar2_21, dal2_22, ar2_22, dal2_23, ar2_23, dal2_44, ar2_44, dal2_45, ar2_45]
        repeat' (with_reducible (first | apply And.intro | intro _))
        all_goals first | omega | skip
        refine y_abs (by omega) ?_
        try simp only [cq_lt, cq_le, cq_gt, cq_ge, cq_eq, cq_r1, cq_r2, ab_r32, ab_r64, ab_go, ab_stp, wp_z, ab_in, ab_rok, ab_wsum, ab_prm, ab_ret, ab_sw, ab_cd, ab_tg, ab_cat_i, ab_cat_l, ab_cat_r, ab_cl_n, ab_cl_i, ab_cl_l, ab_cl_r, ab_f2_0, ab_f2_1, ab_f4_0, ab_f4_1, ab_f4_2, ab_f4_3, ab_op_s, ab_b1_s, ab_b2_s, ab_l1_s, ab_l2_s, ab_li_s, ab_o1_s, ab_io_s, ab_lo1_s, ab_iio_s, ab_lio_s, ab_cp5_s, ab_d2_l, ab_d2_i, ab_d2_o, ex_iconst, ex_bipush, ex_sipush, ex_lconst, ex_ldc, ex_ldc_w, ex_ldc2_w, ex_iadd, ex_isub, ex_imul, ex_iand, ex_ior, ex_ixor, ex_ishl, ex_ishr, ex_iushr, ex_idiv, ex_irem, ex_ladd, ex_lsub, ex_lmul, ex_lor, ex_ldiv, ex_lrem, ex_lshl, ex_lcmp, ex_ineg, ex_lneg, ex_i2l, ex_l2i, ex_i2b, ex_dup, ex_pop, ex_dup2, ex_goto, ex_tableswitch, ex_aaload, ex_ireturn, ex_lreturn, ex_return_, List.map_cons, List.map_nil, List.sum_cons, List.sum_nil, List.drop_succ_cons, List.drop_zero, List.take_succ_cons, List.take_zero, List.reverse_cons, List.reverse_nil, List.nil_append, List.cons_append, List.length_cons, List.length_nil, true_and, and_true, cond_false, cond_true, Bool.false_or, Bool.or_false, Bool.or_true, Bool.true_or, true_or, or_true, false_or, or_false, if_true, if_false, reduceIte, ite_true, ite_false, implies_true, true_implies, false_implies, forall_const, not_true_eq_false, not_false_eq_true, Nat.reduceAdd, Nat.reduceMul, Nat.reduceSub, Nat.reduceBEq, Nat.reduceEqDiff, Nat.reduceLeDiff, Nat.reduceLT, Int.reduceAdd, Int.reduceSub, Int.reduceMul, Int.reduceNeg, Int.reduceToNat, Int.reduceLE, Int.reduceLT, Int.reduceEq, Int.reduceNe, Int.reduceNatCast, Nat.add_zero, Nat.zero_add, reduceCtorEq, Int.reduceNatCast', wp_c, wp_g, e2_ifCond, e2_if_icmp, ↓bq_t, ↓bq_f, ab_br, ↓ab_b1_s, ↓ab_b2_s, ↓ab_l1_s, ↓ab_l2_s, ↓ab_li_s, ↓ab_o1_s, ↓ab_io_s, ↓ab_lo1_s, ↓ab_iio_s, ↓ab_lio_s, ↓ab_cp5_s, moX12_halves, dX12_halves_0, dX12_halves_1, dal_0, dX12_halves_2, dg2_12_161_0, dX12_halves_5, dX12_halves_6, dg2_12_91_0, dX12_halves_9, dil_1, dX12_halves_10, dX12_halves_11, dX12_halves_12, dX12_halves_13, dil_2, dX12_halves_14, dX12_halves_15, dX12_halves_16, dX12_halves_17, dX12_halves_20, dX12_halves_21, dg2_12_94_0, dX12_halves_24, dX12_halves_25, dX12_halves_26, dX12_halves_27, dX12_halves_28, dX12_halves_29, dX12_halves_30, dg2_12_97_0, dX12_halves_33, dX12_halves_34, dX12_halves_35, dX12_halves_36, dX12_halves_37, dX12_halves_38, dX12_halves_39, ds12_223, moX12_min, dX12_halves_42, dis_3, dX12_halves_43, dX12_halves_44, dis_4, dX12_halves_46, dil_4, dX12_halves_48, dX12_halves_49, dg2_12_513_0, dX12_halves_52, dX12_halves_55, dX12_halves_56, dg2_12_164_0, dX12_halves_59, dX12_halves_61, dX12_halves_62, dX12_halves_64, dX12_halves_67, dX12_halves_68, dX12_halves_71, dX12_halves_73, dX12_halves_74, ds12_357, moX12_streetOf, dX12_halves_77, dX12_halves_78, dX12_halves_81, dil_3, dX12_halves_82, dX12_halves_83, dX12_halves_84, dX12_halves_85, dX12_halves_88, dX12_halves_90, dX12_halves_91, ds12_361, moX12_partOf, dX12_halves_94, dX12_halves_95, dX12_halves_96, ds12_367, moX12_abs, dX12_halves_99, dX12_halves_102, dX12_halves_103, dinc_4, dX12_halves_106, dX12_halves_109, dX12_halves_110, dal2_21, ar2_21, dal2_22, ar2_22, dal2_23, ar2_23, dal2_44, ar2_44, dal2_45, ar2_45]
        repeat' (with_reducible (first | apply And.intro | intro _))
        all_goals first | omega | skip
        refine y_min (by omega) (by omega) ?_
        try simp only [cq_lt, cq_le, cq_gt, cq_ge, cq_eq, cq_r1, cq_r2, ab_r32, ab_r64, ab_go, ab_stp, wp_z, ab_in, ab_rok, ab_wsum, ab_prm, ab_ret, ab_sw, ab_cd, ab_tg, ab_cat_i, ab_cat_l, ab_cat_r, ab_cl_n, ab_cl_i, ab_cl_l, ab_cl_r, ab_f2_0, ab_f2_1, ab_f4_0, ab_f4_1, ab_f4_2, ab_f4_3, ab_op_s, ab_b1_s, ab_b2_s, ab_l1_s, ab_l2_s, ab_li_s, ab_o1_s, ab_io_s, ab_lo1_s, ab_iio_s, ab_lio_s, ab_cp5_s, ab_d2_l, ab_d2_i, ab_d2_o, ex_iconst, ex_bipush, ex_sipush, ex_lconst, ex_ldc, ex_ldc_w, ex_ldc2_w, ex_iadd, ex_isub, ex_imul, ex_iand, ex_ior, ex_ixor, ex_ishl, ex_ishr, ex_iushr, ex_idiv, ex_irem, ex_ladd, ex_lsub, ex_lmul, ex_lor, ex_ldiv, ex_lrem, ex_lshl, ex_lcmp, ex_ineg, ex_lneg, ex_i2l, ex_l2i, ex_i2b, ex_dup, ex_pop, ex_dup2, ex_goto, ex_tableswitch, ex_aaload, ex_ireturn, ex_lreturn, ex_return_, List.map_cons, List.map_nil, List.sum_cons, List.sum_nil, List.drop_succ_cons, List.drop_zero, List.take_succ_cons, List.take_zero, List.reverse_cons, List.reverse_nil, List.nil_append, List.cons_append, List.length_cons, List.length_nil, true_and, and_true, cond_false, cond_true, Bool.false_or, Bool.or_false, Bool.or_true, Bool.true_or, true_or, or_true, false_or, or_false, if_true, if_false, reduceIte, ite_true, ite_false, implies_true, true_implies, false_implies, forall_const, not_true_eq_false, not_false_eq_true, Nat.reduceAdd, Nat.reduceMul, Nat.reduceSub, Nat.reduceBEq, Nat.reduceEqDiff, Nat.reduceLeDiff, Nat.reduceLT, Int.reduceAdd, Int.reduceSub, Int.reduceMul, Int.reduceNeg, Int.reduceToNat, Int.reduceLE, Int.reduceLT, Int.reduceEq, Int.reduceNe, Int.reduceNatCast, Nat.add_zero, Nat.zero_add, reduceCtorEq, Int.reduceNatCast', wp_c, wp_g, e2_ifCond, e2_if_icmp, ↓bq_t, ↓bq_f, ab_br, ↓ab_b1_s, ↓ab_b2_s, ↓ab_l1_s, ↓ab_l2_s, ↓ab_li_s, ↓ab_o1_s, ↓ab_io_s, ↓ab_lo1_s, ↓ab_iio_s, ↓ab_lio_s, ↓ab_cp5_s, moX12_halves, dX12_halves_0, dX12_halves_1, dal_0, dX12_halves_2, dg2_12_161_0, dX12_halves_5, dX12_halves_6, dg2_12_91_0, dX12_halves_9, dil_1, dX12_halves_10, dX12_halves_11, dX12_halves_12, dX12_halves_13, dil_2, dX12_halves_14, dX12_halves_15, dX12_halves_16, dX12_halves_17, dX12_halves_20, dX12_halves_21, dg2_12_94_0, dX12_halves_24, dX12_halves_25, dX12_halves_26, dX12_halves_27, dX12_halves_28, dX12_halves_29, dX12_halves_30, dg2_12_97_0, dX12_halves_33, dX12_halves_34, dX12_halves_35, dX12_halves_36, dX12_halves_37, dX12_halves_38, dX12_halves_39, ds12_223, moX12_min, dX12_halves_42, dis_3, dX12_halves_43, dX12_halves_44, dis_4, dX12_halves_46, dil_4, dX12_halves_48, dX12_halves_49, dg2_12_513_0, dX12_halves_52, dX12_halves_55, dX12_halves_56, dg2_12_164_0, dX12_halves_59, dX12_halves_61, dX12_halves_62, dX12_halves_64, dX12_halves_67, dX12_halves_68, dX12_halves_71, dX12_halves_73, dX12_halves_74, ds12_357, moX12_streetOf, dX12_halves_77, dX12_halves_78, dX12_halves_81, dil_3, dX12_halves_82, dX12_halves_83, dX12_halves_84, dX12_halves_85, dX12_halves_88, dX12_halves_90, dX12_halves_91, ds12_361, moX12_partOf, dX12_halves_94, dX12_halves_95, dX12_halves_96, ds12_367, moX12_abs, dX12_halves_99, dX12_halves_102, dX12_halves_103, dinc_4, dX12_halves_106, dX12_halves_109, dX12_halves_110, dal2_21, ar2_21, dal2_22, ar2_22, dal2_23, ar2_23, dal2_44, ar2_44, dal2_45, ar2_45]
        repeat' (with_reducible (first | apply And.intro | intro _))
        all_goals first | omega | exact yes (by omega)
  apply hG [46] 40
  simp only [cq_lt, cq_le, cq_gt, cq_ge, cq_eq, cq_r1, cq_r2, ab_r32, ab_r64, ab_go, ab_stp, wp_z, ab_in, ab_rok, ab_wsum, ab_prm, ab_ret, ab_sw, ab_cd, ab_tg, ab_cat_i, ab_cat_l, ab_cat_r, ab_cl_n, ab_cl_i, ab_cl_l, ab_cl_r, ab_f2_0, ab_f2_1, ab_f4_0, ab_f4_1, ab_f4_2, ab_f4_3, ab_op_s, ab_b1_s, ab_b2_s, ab_l1_s, ab_l2_s, ab_li_s, ab_o1_s, ab_io_s, ab_lo1_s, ab_iio_s, ab_lio_s, ab_cp5_s, ab_d2_l, ab_d2_i, ab_d2_o, ex_iconst, ex_bipush, ex_sipush, ex_lconst, ex_ldc, ex_ldc_w, ex_ldc2_w, ex_iadd, ex_isub, ex_imul, ex_iand, ex_ior, ex_ixor, ex_ishl, ex_ishr, ex_iushr, ex_idiv, ex_irem, ex_ladd, ex_lsub, ex_lmul, ex_lor, ex_ldiv, ex_lrem, ex_lshl, ex_lcmp, ex_ineg, ex_lneg, ex_i2l, ex_l2i, ex_i2b, ex_dup, ex_pop, ex_dup2, ex_goto, ex_tableswitch, ex_aaload, ex_ireturn, ex_lreturn, ex_return_, List.map_cons, List.map_nil, List.sum_cons, List.sum_nil, List.drop_succ_cons, List.drop_zero, List.take_succ_cons, List.take_zero, List.reverse_cons, List.reverse_nil, List.nil_append, List.cons_append, List.length_cons, List.length_nil, true_and, and_true, cond_false, cond_true, Bool.false_or, Bool.or_false, Bool.or_true, Bool.true_or, true_or, or_true, false_or, or_false, if_true, if_false, reduceIte, ite_true, ite_false, implies_true, true_implies, false_implies, forall_const, not_true_eq_false, not_false_eq_true, Nat.reduceAdd, Nat.reduceMul, Nat.reduceSub, Nat.reduceBEq, Nat.reduceEqDiff, Nat.reduceLeDiff, Nat.reduceLT, Int.reduceAdd, Int.reduceSub, Int.reduceMul, Int.reduceNeg, Int.reduceToNat, Int.reduceLE, Int.reduceLT, Int.reduceEq, Int.reduceNe, Int.reduceNatCast, Nat.add_zero, Nat.zero_add, reduceCtorEq, Int.reduceNatCast', wp_c, wp_g, e2_ifCond, e2_if_icmp, ↓bq_t, ↓bq_f, ab_br, ↓ab_b1_s, ↓ab_b2_s, ↓ab_l1_s, ↓ab_l2_s, ↓ab_li_s, ↓ab_o1_s, ↓ab_io_s, ↓ab_lo1_s, ↓ab_iio_s, ↓ab_lio_s, ↓ab_cp5_s, moX12_halves, dX12_halves_0, dX12_halves_1, dal_0, dX12_halves_2, dg2_12_161_0, dX12_halves_5, dX12_halves_6, dg2_12_91_0, dX12_halves_9, dil_1, dX12_halves_10, dX12_halves_11, dX12_halves_12, dX12_halves_13, dil_2, dX12_halves_14, dX12_halves_15, dX12_halves_16, dX12_halves_17, dX12_halves_20, dX12_halves_21, dg2_12_94_0, dX12_halves_24, dX12_halves_25, dX12_halves_26, dX12_halves_27, dX12_halves_28, dX12_halves_29, dX12_halves_30, dg2_12_97_0, dX12_halves_33, dX12_halves_34, dX12_halves_35, dX12_halves_36, dX12_halves_37, dX12_halves_38, dX12_halves_39, ds12_223, moX12_min, dX12_halves_42, dis_3, dX12_halves_43, dX12_halves_44, dis_4, dX12_halves_46, dil_4, dX12_halves_48, dX12_halves_49, dg2_12_513_0, dX12_halves_52, dX12_halves_55, dX12_halves_56, dg2_12_164_0, dX12_halves_59, dX12_halves_61, dX12_halves_62, dX12_halves_64, dX12_halves_67, dX12_halves_68, dX12_halves_71, dX12_halves_73, dX12_halves_74, ds12_357, moX12_streetOf, dX12_halves_77, dX12_halves_78, dX12_halves_81, dil_3, dX12_halves_82, dX12_halves_83, dX12_halves_84, dX12_halves_85, dX12_halves_88, dX12_halves_90, dX12_halves_91, ds12_361, moX12_partOf, dX12_halves_94, dX12_halves_95, dX12_halves_96, ds12_367, moX12_abs, dX12_halves_99, dX12_halves_102, dX12_halves_103, dinc_4, dX12_halves_106, dX12_halves_109, dX12_halves_110, dal2_21, ar2_21, dal2_22, ar2_22, dal2_23, ar2_23, dal2_44, ar2_44, dal2_45, ar2_45, q1, q2, q3]
  repeat' (with_reducible (first | apply And.intro | intro _))
  all_goals first | omega | skip
  refine y_min (by omega) (by omega) ?_
  try simp only [cq_lt, cq_le, cq_gt, cq_ge, cq_eq, cq_r1, cq_r2, ab_r32, ab_r64, ab_go, ab_stp, wp_z, ab_in, ab_rok, ab_wsum, ab_prm, ab_ret, ab_sw, ab_cd, ab_tg, ab_cat_i, ab_cat_l, ab_cat_r, ab_cl_n, ab_cl_i, ab_cl_l, ab_cl_r, ab_f2_0, ab_f2_1, ab_f4_0, ab_f4_1, ab_f4_2, ab_f4_3, ab_op_s, ab_b1_s, ab_b2_s, ab_l1_s, ab_l2_s, ab_li_s, ab_o1_s, ab_io_s, ab_lo1_s, ab_iio_s, ab_lio_s, ab_cp5_s, ab_d2_l, ab_d2_i, ab_d2_o, ex_iconst, ex_bipush, ex_sipush, ex_lconst, ex_ldc, ex_ldc_w, ex_ldc2_w, ex_iadd, ex_isub, ex_imul, ex_iand, ex_ior, ex_ixor, ex_ishl, ex_ishr, ex_iushr, ex_idiv, ex_irem, ex_ladd, ex_lsub, ex_lmul, ex_lor, ex_ldiv, ex_lrem, ex_lshl, ex_lcmp, ex_ineg, ex_lneg, ex_i2l, ex_l2i, ex_i2b, ex_dup, ex_pop, ex_dup2, ex_goto, ex_tableswitch, ex_aaload, ex_ireturn, ex_lreturn, ex_return_, List.map_cons, List.map_nil, List.sum_cons, List.sum_nil, List.drop_succ_cons, List.drop_zero, List.take_succ_cons, List.take_zero, List.reverse_cons, List.reverse_nil, List.nil_append, List.cons_append, List.length_cons, List.length_nil, true_and, and_true, cond_false, cond_true, Bool.false_or, Bool.or_false, Bool.or_true, Bool.true_or, true_or, or_true, false_or, or_false, if_true, if_false, reduceIte, ite_true, ite_false, implies_true, true_implies, false_implies, forall_const, not_true_eq_false, not_false_eq_true, Nat.reduceAdd, Nat.reduceMul, Nat.reduceSub, Nat.reduceBEq, Nat.reduceEqDiff, Nat.reduceLeDiff, Nat.reduceLT, Int.reduceAdd, Int.reduceSub, Int.reduceMul, Int.reduceNeg, Int.reduceToNat, Int.reduceLE, Int.reduceLT, Int.reduceEq, Int.reduceNe, Int.reduceNatCast, Nat.add_zero, Nat.zero_add, reduceCtorEq, Int.reduceNatCast', wp_c, wp_g, e2_ifCond, e2_if_icmp, ↓bq_t, ↓bq_f, ab_br, ↓ab_b1_s, ↓ab_b2_s, ↓ab_l1_s, ↓ab_l2_s, ↓ab_li_s, ↓ab_o1_s, ↓ab_io_s, ↓ab_lo1_s, ↓ab_iio_s, ↓ab_lio_s, ↓ab_cp5_s, moX12_halves, dX12_halves_0, dX12_halves_1, dal_0, dX12_halves_2, dg2_12_161_0, dX12_halves_5, dX12_halves_6, dg2_12_91_0, dX12_halves_9, dil_1, dX12_halves_10, dX12_halves_11, dX12_halves_12, dX12_halves_13, dil_2, dX12_halves_14, dX12_halves_15, dX12_halves_16, dX12_halves_17, dX12_halves_20, dX12_halves_21, dg2_12_94_0, dX12_halves_24, dX12_halves_25, dX12_halves_26, dX12_halves_27, dX12_halves_28, dX12_halves_29, dX12_halves_30, dg2_12_97_0, dX12_halves_33, dX12_halves_34, dX12_halves_35, dX12_halves_36, dX12_halves_37, dX12_halves_38, dX12_halves_39, ds12_223, moX12_min, dX12_halves_42, dis_3, dX12_halves_43, dX12_halves_44, dis_4, dX12_halves_46, dil_4, dX12_halves_48, dX12_halves_49, dg2_12_513_0, dX12_halves_52, dX12_halves_55, dX12_halves_56, dg2_12_164_0, dX12_halves_59, dX12_halves_61, dX12_halves_62, dX12_halves_64, dX12_halves_67, dX12_halves_68, dX12_halves_71, dX12_halves_73, dX12_halves_74, ds12_357, moX12_streetOf, dX12_halves_77, dX12_halves_78, dX12_halves_81, dil_3, dX12_halves_82, dX12_halves_83, dX12_halves_84, dX12_halves_85, dX12_halves_88, dX12_halves_90, dX12_halves_91, ds12_361, moX12_partOf, dX12_halves_94, dX12_halves_95, dX12_halves_96, ds12_367, moX12_abs, dX12_halves_99, dX12_halves_102, dX12_halves_103, dinc_4, dX12_halves_106, dX12_halves_109, dX12_halves_110, dal2_21, ar2_21, dal2_22, ar2_22, dal2_23, ar2_23, dal2_44, ar2_44, dal2_45, ar2_45]
  exact key 5 0 (by omega) (by omega)
