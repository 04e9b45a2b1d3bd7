-- CALL: bestLaw
theorem zBm_lk (ω : ab_S) (u : Int) (sp pr : Int → Int) (s : Int) : zBm (ab_up ω 28 6 u) sp pr s = zBm ω sp pr s := rfl
theorem zRs_lk (ω : ab_S) (u : Int) (a : (Int → Int) × (Int → Int)) : ∀ j : Nat, zRs (ab_up ω 28 6 u) a j = zRs ω a j
  | 0 => rfl
  | j + 1 => by
    have ih := zRs_lk ω u a j
    rw [zRs, zRs, ih, zBm_lk]
    rfl
theorem zRn_lk (ω : ab_S) (u : Int) : ∀ r : Nat, zRn (ab_up ω 28 6 u) r = zRn ω r
  | 0 => rfl
  | r + 1 => by
    have ih := zRn_lk ω u r
    rw [zRn, zRn, ih, zRs_lk]
    rfl
theorem zMv_lk (ω : ab_S) (u : Int) (a : (Int → Int) × (Int → Int)) (j : Nat) : zMv (ab_up ω 28 6 u) a j = zMv ω a j := by
  unfold zMv
  simp only [zRs_lk, zBm_lk]
  rfl
theorem zSm_lk (ω : ab_S) (u : Int) (a b : (Int → Int) × (Int → Int)) : zSm (ab_up ω 28 6 u) a b = zSm ω a b := rfl
theorem zCt_lk (ω : ab_S) (u : Int) : ab_up ω 28 6 u 34 5 = ω 34 5 := rfl
theorem zGo_lk (ω : ab_S) (u : Int) (r : Nat) : zGo (ab_up ω 28 6 u) r = zGo ω r := by
  unfold zGo
  simp only [zRn_lk, zMv_lk, zSm_lk, zCt_lk]
theorem zChs_lk (ω : ab_S) (u : Int) (n h : Int) (R : Nat) (l : Int) : zChs (ab_up ω 28 6 u) n h R l = zChs ω n h R l := by
  unfold zChs
  simp only [zRn_lk, zMv_lk, zSm_lk, zGo_lk, zCt_lk]
theorem zPz_lk (ω : ab_S) (u : Int) (ρ : ab_S) (x y : Int) : zPz (ab_up ω 28 6 u) ρ x y = zPz ω ρ x y := rfl
/-- all that lasts is the same, but for the links -/
def zLk2 (ω ω' : ab_S) : Prop := (∀ o, o < 65 → o ≠ 28 → ¬ (31 ≤ o ∧ o ≤ 33) → ω' o = ω o) ∧ ∀ k, k ≠ 6 → ω' 28 k = ω 28 k
theorem zLk2_u {ω ω' : ab_S} (h : zLk2 ω ω') : ∀ o, (3 ≤ o ∧ o ≤ 11) ∨ (28 ≤ o ∧ o ≤ 30) ∨ (34 ≤ o ∧ o ≤ 39) → ω' o = ab_up ω 28 6 (ω' 28 6) o := by
  intro o ho
  by_cases e : o = 28
  · rw [e, ab_up_eq, ab_set_at]
    funext k
    by_cases ek : k = 6
    · rw [ek, zu_at]
    · rw [zu_ne _ _ ek]
      exact h.2 k ek
  · rw [ab_up_o o e]
    exact h.1 o (by omega) e (by omega)
theorem zQc_l {ω ω' : ab_S} (h : zLk2 ω ω') (h8 : ∀ o, 82 ≤ o → o ≤ 87 → ω' o = ω o) (hq : zQc ω) : zQc ω' := by
  obtain ⟨q1, q2, q3⟩ := hq
  unfold zQc
  rw [h8 82 (by decide) (by decide), h.1 0 (by decide) (by decide) (by decide)]
  refine ⟨q1, q2, fun z => ?_⟩
  refine zChc_cn (ω := ab_up ω 28 6 (ω' 28 6)) (ρ := ω) (zLk2_u h) (h8 85 (by decide) (by decide)) (h8 86 (by decide) (by decide)) (h8 87 (by decide) (by decide)) ?_
  obtain ⟨R, c1, c2, c3⟩ := q3 z
  refine ⟨R, ?_, c2, fun j j1 j2 => ?_⟩
  · rw [zChs_lk]
    exact c1
  · rw [zRn_lk]
    exact c3 j j1 j2
theorem zQp_l {ω ω' : ab_S} (h : zLk2 ω ω') (h8 : ∀ o, 96 ≤ o → o ≤ 99 → ω' o = ω o) (hq : zQp ω) : zQp ω' := by
  obtain ⟨q1, q2, q3⟩ := hq
  unfold zQp
  rw [h8 96 (by decide) (by decide), h.1 0 (by decide) (by decide) (by decide)]
  refine ⟨q1, q2, fun z => zPz_m (ω := ab_up ω 28 6 (ω' 28 6)) (ρ := ω) (zLk2_u h) h8 ?_⟩
  rw [zPz_lk]
  exact q3 z
/-- what is remembered of the best law -/
def zQb (ω : ab_S) : Prop := (-1000 ≤ ω 88 14 ∧ ω 88 14 ≤ ω 0 15) ∧ ((-1000 ≤ ω 88 15 ∧ ω 88 15 ≤ 1000) ∧ (-1000 ≤ ω 88 16 ∧ ω 88 16 ≤ 1000)) ∧ (ω 88 14 = ω 0 15 → zCr ω (ω 88 15) (ω 88 16) (ω 21 6 + 1).toNat (zC3 ω))
theorem zQb_w {ω ω' : ab_S} (h : zSw ω ω') (hq : zQb ω) : zQb ω' := by
  obtain ⟨h1, h2, h3, h4⟩ := h
  obtain ⟨q1, q2, q3⟩ := hq
  have e88 := h1 88 (by decide) (by decide) (by decide)
  have e95 := h1 95 (by decide) (by decide) (by decide)
  unfold zQb zC3
  rw [e88, e95]
  rcases h3 with ⟨h3, h5, h6⟩ | h3
  · rw [h3, h6.1]
    exact ⟨q1, q2, fun z => zCr_cg (fun o ho => h5 o (by omega)) h6 (q3 z)⟩
  · rw [h3]
    exact ⟨by omega, q2, fun z => by omega⟩
theorem zQb_k {ω ω' : ab_S} (h : ∀ o, o < 65 → ω' o = ω o) (h88 : ∀ k, 14 ≤ k → ω' 88 k = ω 88 k) (h95 : ω' 95 = ω 95) (hq : zQb ω) : zQb ω' := by
  obtain ⟨q1, q2, q3⟩ := hq
  unfold zQb zC3
  rw [h88 14 (by decide), h88 15 (by decide), h88 16 (by decide), h95, h 0 (by decide), h 21 (by decide)]
  exact ⟨q1, q2, fun z => zCr_cg (fun o ho => h o (by omega)) (zBk_o (fun o a b => h o (by omega))) (q3 z)⟩
theorem yB_lk {ω ω' τ τ' : ab_S} (hB : yB ω τ) (hl : zLk2 ω ω') (hf : yFc τ τ') (h39 : τ' 0 39 = τ 0 39) (hx : yLx ω τ') : yB ω' τ' := by
  obtain ⟨b1, b2, b3, b4, b5, b6, b7, b8, b9, b10, b11, b12, b13, b14⟩ := hB
  have h : ∀ o, o < 65 → ¬ (28 ≤ o ∧ o ≤ 33) → ω' o = ω o := fun o a b => hl.1 o a (by omega) (by omega)
  have h3 := h 3 (by decide) (by decide)
  have h10 := h 10 (by decide) (by decide)
  have h21 := h 21 (by decide) (by decide)
  have e0 := h 0 (by decide) (by decide)
  have hh : ∀ o, 3 ≤ o → o ≤ 11 → ω' o = ω o := fun o o1 o2 => h o (by omega) (by omega)
  have h2 : ∀ o, 21 ≤ o → o ≤ 27 → ω' o = ω o := fun o o1 o2 => h o (by omega) (by omega)
  have e29 := hl.1 29 (by decide) (by decide) (by decide)
  have e30 := hl.1 30 (by decide) (by decide) (by decide)
  have e7 := hl.2 7 (by decide)
  have e8 := hl.2 8 (by decide)
  refine ⟨?_, zTo_cg hh b2, yTo_cg hh (fun j j1 => hf.2 j (by omega)) (fun o ho => hf.1 o (by omega) (by omega)) b3, zBo_cg h3 (fun o o1 o2 => h2 o o1 o2) b4, yBo_cg h3 (fun o o1 o2 => h2 o o1 o2) (hf.2 38 (by omega)) (fun o o1 o2 => hf.1 o (by omega) (by omega)) b5, zBa_cg h3 h10 h21 (h 34 (by decide) (by decide)) (h 35 (by decide) (by decide)) (h 36 (by decide) (by decide)) (h 37 (by decide) (by decide)) (h 38 (by decide) (by decide)) (h 39 (by decide) (by decide)) b6, yBa_cg (fun o o1 o2 => h o (by omega) (by omega)) (hf.2 53 (by omega)) h39 (fun o o1 o2 => hf.1 o (by omega) (by omega)) b7, yIm_cg h3 h10 h21 (fun o o1 o2 => h o (by omega) (by omega)) (by rw [e0]) (hf.2 90 (by omega)) (fun o o1 o2 => hf.1 o (by omega) (by omega)) b8, ?_, ?_, ?_, ?_, ?_, ?_⟩
  · unfold yTa yTp
    rw [h 1 (by decide) (by decide), h 2 (by decide) (by decide), hf.1 15 (by decide) (by omega), hf.2 29 (by omega)]
    exact b1
  · obtain ⟨ωa, ωb, r1, r2, r3, r4, r5, r6, r7⟩ := b9
    refine ⟨ωa, ωb, fun o a b => (r1 o a b).trans (hh o a b).symm, fun z => ?_, by rw [h 34 (by decide) (by decide)]; exact r3, e7.trans r4, e8.trans r5, e29.trans r6, e30.trans r7⟩
    rw [h 34 (by decide) (by decide)] at z ⊢
    rw [h2 22 (by decide) (by decide), h2 23 (by decide) (by decide), h2 24 (by decide) (by decide), h2 25 (by decide) (by decide), h2 26 (by decide) (by decide), h2 27 (by decide) (by decide)]
    exact r2 z
  · unfold yLx at hx ⊢
    rw [e7, e8, e29, e30, h3, hh 8 (by decide) (by decide), hh 9 (by decide) (by decide), hh 10 (by decide) (by decide)]
    exact hx
  · rw [e0, hf.2 0 (by omega)]
    exact b11
  · rw [e0, hf.2 30 (by omega)]
    exact b12
  · rw [e0]
    exact b13
  · rw [e0]
    exact b14
/-- two stores that are one to whoever looks: the roads' rows beyond their ends are anything -/
def zNrm (ω ω' : ab_S) : Prop := (∀ o, ¬ (28 ≤ o ∧ o ≤ 30) → ω' o = ω o) ∧ (∀ k, 6 ≤ k → k ≤ 8 → ω' 28 k = ω 28 k) ∧ (∀ k, 0 ≤ k → k < 144 → ω' 29 k = ω 29 k) ∧ ∀ s, 0 ≤ s → s < 16 → ω' 30 s = ω 30 s
theorem zNrm_rf (ω : ab_S) : zNrm ω ω := ⟨fun _ _ => rfl, fun _ _ _ => rfl, fun _ _ _ => rfl, fun _ _ _ => rfl⟩
/-- all that is remembered is right -/
def zQ (ω : ab_S) : Prop := zQc ω ∧ zQg ω ∧ zQp ω ∧ zQb ω ∧ zQw ω
def zJb (ω τ : ab_S) (N : ab_M) (args : List ab_V) (v : ab_V) (ω2 : ab_S) : Prop := ∃ ω', zNrm ω2 ω' ∧ (zQ ω' ∧ ω' 0 15 = ω 0 15 ∧ ω' 0 14 = ω 0 14) ∧ ab_Runs ab_G2 N args τ (yJn ω' v)
set_option maxRecDepth 100000 in
set_option maxHeartbeats 4000000 in
theorem j_bestLaw {ω τ : ab_S} {x y w : Int} (hB : yB ω τ) (hQ : zQ ω) (hS : ω 0 15 ≤ 1000000) (hx : -2147483648 ≤ x ∧ x ≤ 2147483647) (hy : -2147483648 ≤ y ∧ y ≤ 2147483647) (hw : -2147483648 ≤ w ∧ w ≤ 2147483647) : ab_Runs ab_G1 mdX11_bestLaw [vR 0, vI x, vI y, vI w] ω (zJb ω τ mdX12_bestLaw [vR 0, vI x, vI y, vI w]) := by
  have hK := yB_K hB
  have hn := hK.1
  have b14 := hB.2.2.2.2.2.2.2.2.2.2.2.2.2
  obtain ⟨qc, qg, qp, qb, qw⟩ := id hQ
  refine ab_runs mwX11_bestLaw (by decide +kernel) (Nat.le_of_ble_eq_true rfl) (fun G hG => ?_)
  show G 0 [some (vR 0), some (vI x), some (vI y), some (vI w)] [] _
  have M : ∀ (v : Int) (ρ ω' : ab_S) (st : Int × Int × Int), zNrm ρ ω' → zQ ω' → ω' 0 = ω 0 → zLk2 ω ω' → (zBlv ω x y w → zCr ω x y (ω 21 6 + 1).toNat st) → zBla ω x y w st v → zJb ω τ mdX12_bestLaw [vR 0, vI x, vI y, vI w] (vJ v) ρ := by
    intro v ρ ω' st h1 h2 h3 h4 h5 h6
    refine ⟨ω', h1, ⟨h2, by rw [h3], by rw [h3]⟩, y_bestLaw hB hx hy hw h5 (fun υ v2 u1 u2 u3 u4 => ⟨?_, yB_lk hB h4 u1 u2 u3⟩)⟩
    have : v2 = v := by
      rcases h6 with ⟨a1, a2⟩ | ⟨a1, a2⟩ <;> rcases u4 with ⟨c1, c2⟩ | ⟨c1, c2⟩
      · rw [a2, c2]
      · exact absurd a1 c1
      · exact absurd c1 a1
      · rw [a2, c2]
    rw [this]
  have rf : zLk2 ω ω := ⟨fun _ _ _ _ => rfl, fun _ _ => rfl⟩
  have b18 : ¬ (((0 ≤ x ∧ x < ω 34 5) ∧ (0 ≤ y ∧ y < ω 34 5) ∧ x ≠ y) ∧ (0 ≤ w ∧ w ≤ 2)) → G 18 [some (vR 0), some (vI x), some (vI y), some (vI w)] [] ω := by
    intro z
    have nv : ¬ zBlv ω x y w := fun u => z ⟨⟨u.1.1, u.1.2.1, u.1.2.2.1⟩, u.2⟩
    have := M (-1) ω ω (0, 0, 0) (zNrm_rf ω) hQ rfl rf (fun u => absurd u nv) (Or.inr ⟨nv, rfl⟩)
    apply hG [9999] 10
    simp only [cq_lt, cq_le, cq_gt, cq_ge, cq_eq, cq_r1, cq_r2, ab_r32, ab_r64, ab_go, ab_stp, wp_z, ab_in, ab_rok, ab_wsum, ab_prm, ab_ret, ab_sw, ab_cd, ab_tg, ab_cat_i, ab_cat_l, ab_cat_r, ab_cl_n, ab_cl_i, ab_cl_l, ab_cl_r, ab_f2_0, ab_f2_1, ab_f4_0, ab_f4_1, ab_f4_2, ab_f4_3, ab_op_s, ab_b1_s, ab_b2_s, ab_l1_s, ab_l2_s, ab_li_s, ab_o1_s, ab_io_s, ab_lo1_s, ab_iio_s, ab_lio_s, ab_cp5_s, ab_d2_l, ab_d2_i, ab_d2_o, ex_iconst, ex_bipush, ex_sipush, ex_lconst, ex_ldc, ex_ldc_w, ex_ldc2_w, ex_iadd, ex_isub, ex_imul, ex_iand, ex_ior, ex_ixor, ex_ishl, ex_ishr, ex_iushr, ex_idiv, ex_irem, ex_ladd, ex_lsub, ex_lmul, ex_lor, ex_ldiv, ex_lrem, ex_lshl, ex_lcmp, ex_ineg, ex_lneg, ex_i2l, ex_l2i, ex_i2b, ex_dup, ex_pop, ex_dup2, ex_goto, ex_tableswitch, ex_aaload, ex_ireturn, ex_lreturn, ex_return_, List.map_cons, List.map_nil, List.sum_cons, List.sum_nil, List.drop_succ_cons, List.drop_zero, List.take_succ_cons, List.take_zero, List.reverse_cons, List.reverse_nil, List.nil_append, List.cons_append, List.length_cons, List.length_nil, true_and, and_true, cond_false, cond_true, Bool.false_or, Bool.or_false, Bool.or_true, Bool.true_or, true_or, or_true, false_or, or_false, if_true, if_false, reduceIte, ite_true, ite_false, implies_true, true_implies, false_implies, forall_const, not_true_eq_false, not_false_eq_true, Nat.reduceAdd, Nat.reduceMul, Nat.reduceSub, Nat.reduceBEq, Nat.reduceEqDiff, Nat.reduceLeDiff, Nat.reduceLT, Int.reduceAdd, Int.reduceSub, Int.reduceMul, Int.reduceNeg, Int.reduceToNat, Int.reduceLE, Int.reduceLT, Int.reduceEq, Int.reduceNe, Int.reduceNatCast, Nat.add_zero, Nat.zero_add, reduceCtorEq, Int.reduceNatCast', wp_c, wp_g, e2_ifCond, e2_if_icmp, ↓bq_t, ↓bq_f, ab_br, ↓ab_b1_s, ↓ab_b2_s, ↓ab_l1_s, ↓ab_l2_s, ↓ab_li_s, ↓ab_o1_s, ↓ab_io_s, ↓ab_lo1_s, ↓ab_iio_s, ↓ab_lio_s, ↓ab_cp5_s, moX11_bestLaw, dX11_bestLaw_0, dal_0, dX11_bestLaw_1, dil_1, dX11_bestLaw_2, dil_2, dX11_bestLaw_3, dv1_11_260_0, moX11_isPair, dX11_bestLaw_6, dX11_bestLaw_9, dil_3, dX11_bestLaw_10, dX11_bestLaw_13, dX11_bestLaw_14, dX11_bestLaw_15, dX11_bestLaw_18, kx11_207, dX11_bestLaw_21, dX11_bestLaw_22, dX11_bestLaw_23, dg1_11_83_0, dX11_bestLaw_26, dX11_bestLaw_27, dg1_11_104_0, dX11_bestLaw_30, dX11_bestLaw_31, dg1_11_29_0, dX11_bestLaw_34, dX11_bestLaw_35, dX11_bestLaw_36, dv1_11_328_88, moX1_choose, dX11_bestLaw_39, dX11_bestLaw_40, dX11_bestLaw_43, dg1_11_332_88, dX11_bestLaw_46, dX11_bestLaw_47, dX11_bestLaw_48, dal1_95]
    exact this
  have g22 : zPl ω x y (-1) → (0 ≤ w ∧ w ≤ 2) → G 22 [some (vR 0), some (vI x), some (vI y), some (vI w)] [] ω := by
    intro hP hw2
    have hv : zBlv ω x y w := ⟨hP, hw2⟩
    apply hG [9999] 40
    simp only [cq_lt, cq_le, cq_gt, cq_ge, cq_eq, cq_r1, cq_r2, ab_r32, ab_r64, ab_go, ab_stp, wp_z, ab_in, ab_rok, ab_wsum, ab_prm, ab_ret, ab_sw, ab_cd, ab_tg, ab_cat_i, ab_cat_l, ab_cat_r, ab_cl_n, ab_cl_i, ab_cl_l, ab_cl_r, ab_f2_0, ab_f2_1, ab_f4_0, ab_f4_1, ab_f4_2, ab_f4_3, ab_op_s, ab_b1_s, ab_b2_s, ab_l1_s, ab_l2_s, ab_li_s, ab_o1_s, ab_io_s, ab_lo1_s, ab_iio_s, ab_lio_s, ab_cp5_s, ab_d2_l, ab_d2_i, ab_d2_o, ex_iconst, ex_bipush, ex_sipush, ex_lconst, ex_ldc, ex_ldc_w, ex_ldc2_w, ex_iadd, ex_isub, ex_imul, ex_iand, ex_ior, ex_ixor, ex_ishl, ex_ishr, ex_iushr, ex_idiv, ex_irem, ex_ladd, ex_lsub, ex_lmul, ex_lor, ex_ldiv, ex_lrem, ex_lshl, ex_lcmp, ex_ineg, ex_lneg, ex_i2l, ex_l2i, ex_i2b, ex_dup, ex_pop, ex_dup2, ex_goto, ex_tableswitch, ex_aaload, ex_ireturn, ex_lreturn, ex_return_, List.map_cons, List.map_nil, List.sum_cons, List.sum_nil, List.drop_succ_cons, List.drop_zero, List.take_succ_cons, List.take_zero, List.reverse_cons, List.reverse_nil, List.nil_append, List.cons_append, List.length_cons, List.length_nil, true_and, and_true, cond_false, cond_true, Bool.false_or, Bool.or_false, Bool.or_true, Bool.true_or, true_or, or_true, false_or, or_false, if_true, if_false, reduceIte, ite_true, ite_false, implies_true, true_implies, false_implies, forall_const, not_true_eq_false, not_false_eq_true, Nat.reduceAdd, Nat.reduceMul, Nat.reduceSub, Nat.reduceBEq, Nat.reduceEqDiff, Nat.reduceLeDiff, Nat.reduceLT, Int.reduceAdd, Int.reduceSub, Int.reduceMul, Int.reduceNeg, Int.reduceToNat, Int.reduceLE, Int.reduceLT, Int.reduceEq, Int.reduceNe, Int.reduceNatCast, Nat.add_zero, Nat.zero_add, reduceCtorEq, Int.reduceNatCast', wp_c, wp_g, e2_ifCond, e2_if_icmp, ↓bq_t, ↓bq_f, ab_br, ↓ab_b1_s, ↓ab_b2_s, ↓ab_l1_s, ↓ab_l2_s, ↓ab_li_s, ↓ab_o1_s, ↓ab_io_s, ↓ab_lo1_s, ↓ab_iio_s, ↓ab_lio_s, ↓ab_cp5_s, moX11_bestLaw, dX11_bestLaw_0, dal_0, dX11_bestLaw_1, dil_1, dX11_bestLaw_2, dil_2, dX11_bestLaw_3, dv1_11_260_0, moX11_isPair, dX11_bestLaw_6, dX11_bestLaw_9, dil_3, dX11_bestLaw_10, dX11_bestLaw_13, dX11_bestLaw_14, dX11_bestLaw_15, dX11_bestLaw_18, kx11_207, dX11_bestLaw_21, dX11_bestLaw_22, dX11_bestLaw_23, dg1_11_83_0, dX11_bestLaw_26, dX11_bestLaw_27, dg1_11_104_0, dX11_bestLaw_30, dX11_bestLaw_31, dg1_11_29_0, dX11_bestLaw_34, dX11_bestLaw_35, dX11_bestLaw_36, dv1_11_328_88, moX1_choose, dX11_bestLaw_39, dX11_bestLaw_40, dX11_bestLaw_43, dg1_11_332_88, dX11_bestLaw_46, dX11_bestLaw_47, dX11_bestLaw_48, dal1_95]
    refine l_choose hB qw hP (by omega) ⟨by have := qb.1; omega, qb.2.1⟩ qg.2.1 qb.2.2 (fun ρ r1 r2 r3 r4 r5 => ?_)
    have fin : zJb ω τ mdX12_bestLaw [vR 0, vI x, vI y, vI w] (vJ (if w = 0 then (zC3 ρ).1 else if w = 1 then (zC3 ρ).2.1 else (zC3 ρ).2.2)) ρ := by
      rcases r3 with r3 | ⟨r3, r6⟩
      · rw [r3] at r5 ⊢
        exact M _ ω ω (zC3 ω) (zNrm_rf ω) hQ rfl rf (fun _ => r5) (Or.inl ⟨hv, rfl⟩)
      · have e0 : ρ 0 = ω 0 := r1.1 0 (by omega)
        have u : ∀ o, ¬ (28 ≤ o ∧ o ≤ 30) → ab_set (ab_set (ab_set ρ 28 (zu (ω 28) 6 (ρ 28 6))) 29 (ω 29)) 30 (ω 30) o = ρ o := fun o ho => by rw [ab_set_ne _ _ (by omega), ab_set_ne _ _ (by omega), ab_set_ne _ _ (by omega)]
        have u28 : ab_set (ab_set (ab_set ρ 28 (zu (ω 28) 6 (ρ 28 6))) 29 (ω 29)) 30 (ω 30) 28 = zu (ω 28) 6 (ρ 28 6) := by rw [ab_set_ne _ _ (by decide), ab_set_ne _ _ (by decide), ab_set_at]
        have u29 : ab_set (ab_set (ab_set ρ 28 (zu (ω 28) 6 (ρ 28 6))) 29 (ω 29)) 30 (ω 30) 29 = ω 29 := by rw [ab_set_ne _ _ (by decide), ab_set_at]
        have u30 : ab_set (ab_set (ab_set ρ 28 (zu (ω 28) 6 (ρ 28 6))) 29 (ω 29)) 30 (ω 30) 30 = ω 30 := by rw [ab_set_at]
        generalize ab_set (ab_set (ab_set ρ 28 (zu (ω 28) 6 (ρ 28 6))) 29 (ω 29)) 30 (ω 30) = ω' at u u28 u29 u30
        have nr : zNrm ρ ω' := by
          refine ⟨u, fun k k0 k1 => ?_, fun k k0 k1 => ?_, fun s s0 s1 => ?_⟩
          · rw [u28]
            by_cases e6 : k = 6
            · rw [e6, zu_at]
            · rw [zu_ne _ _ e6]
              have : k = 7 ∨ k = 8 := by omega
              rcases this with e | e
              · rw [e]; exact r2.1.1.symm
              · rw [e]; exact r2.1.2.symm
          · rw [u29]; exact (r2.2.2 k k0 k1).symm
          · rw [u30]; exact (r2.2.1 s s0 s1).symm
        have lk : zLk2 ω ω' := by
          refine ⟨fun o o1 o2 o3 => ?_, fun k hk => by rw [u28, zu_ne _ _ hk]⟩
          by_cases e9 : o = 29
          · rw [e9]; exact u29
          · by_cases e30 : o = 30
            · rw [e30]; exact u30
            · rw [u o (by omega)]
              exact r1.1 o (by omega)
        have x0 : ω' 0 = ω 0 := (u 0 (by omega)).trans e0
        have x88 : ω' 88 = ρ 88 := u 88 (by omega)
        have x91 : ω' 91 = ρ 91 := u 91 (by omega)
        have x95 : ω' 95 = ρ 95 := u 95 (by omega)
        have x21 : ω' 21 = ω 21 := (u 21 (by omega)).trans (r1.1 21 (by omega))
        have q1 : zQc ω' := zQc_l lk (fun o a b => (u o (by omega)).trans (r1.1 o (by omega))) qc
        have q3 : zQp ω' := zQp_l lk (fun o a b => (u o (by omega)).trans (r1.1 o (by omega))) qp
        have q5 : zQw ω' := by
          unfold zQw
          rw [u 76 (by omega), u 78 (by omega), r1.2, r1.1 78 (by omega)]
          exact qw
        have q2 : zQg ω' := by
          unfold zQg
          rw [x88, x91, x0, r3]
          exact ⟨by omega, r6, fun z => by omega⟩
        have q4 : zQb ω' := by
          unfold zQb zC3
          rw [x88, x95, x0, x21, r4.1, r4.2.1, r4.2.2]
          obtain ⟨px, py, -, -⟩ := hP
          exact ⟨by omega, by omega, fun _ => zCr_cg (fun o ho => lk.1 o (by omega) (by omega) (by omega)) (zBk_o (fun o a b => lk.1 o (by omega) (by omega) (by omega))) r5⟩
        exact M _ ρ ω' (zC3 ρ) nr ⟨q1, q2, q3, q4, q5⟩ x0 lk (fun _ => r5) (Or.inl ⟨hv, rfl⟩)
    have f0 : w = 0 → zJb ω τ mdX12_bestLaw [vR 0, vI x, vI y, vI w] (vJ (ρ 95 w)) ρ := fun e => by rw [if_pos e] at fin; rw [e]; rw [e] at fin; exact fin
    have f1 : w = 1 → zJb ω τ mdX12_bestLaw [vR 0, vI x, vI y, vI w] (vJ (ρ 95 w)) ρ := fun e => by rw [if_neg (by omega), if_pos e] at fin; rw [e]; rw [e] at fin; exact fin
    have f2 : w = 2 → zJb ω τ mdX12_bestLaw [vR 0, vI x, vI y, vI w] (vJ (ρ 95 w)) ρ := fun e => by rw [if_neg (by omega), if_neg (by omega)] at fin; rw [e]; rw [e] at fin; exact fin
    try simp only [cq_lt, cq_le, cq_gt, cq_ge, cq_eq, cq_r1, cq_r2, ab_r32, ab_r64, ab_go, ab_stp, wp_z, ab_in, ab_rok, ab_wsum, ab_prm, ab_ret, ab_sw, ab_cd, ab_tg, ab_cat_i, ab_cat_l, ab_cat_r, ab_cl_n, ab_cl_i, ab_cl_l, ab_cl_r, ab_f2_0, ab_f2_1, ab_f4_0, ab_f4_1, ab_f4_2, ab_f4_3, ab_op_s, ab_b1_s, ab_b2_s, ab_l1_s, ab_l2_s, ab_li_s, ab_o1_s, ab_io_s, ab_lo1_s, ab_iio_s, ab_lio_s, ab_cp5_s, ab_d2_l, ab_d2_i, ab_d2_o, ex_iconst, ex_bipush, ex_sipush, ex_lconst, ex_ldc, ex_ldc_w, ex_ldc2_w, ex_iadd, ex_isub, ex_imul, ex_iand, ex_ior, ex_ixor, ex_ishl, ex_ishr, ex_iushr, ex_idiv, ex_irem, ex_ladd, ex_lsub, ex_lmul, ex_lor, ex_ldiv, ex_lrem, ex_lshl, ex_lcmp, ex_ineg, ex_lneg, ex_i2l, ex_l2i, ex_i2b, ex_dup, ex_pop, ex_dup2, ex_goto, ex_tableswitch, ex_aaload, ex_ireturn, ex_lreturn, ex_return_, List.map_cons, List.map_nil, List.sum_cons, List.sum_nil, List.drop_succ_cons, List.drop_zero, List.take_succ_cons, List.take_zero, List.reverse_cons, List.reverse_nil, List.nil_append, List.cons_append, List.length_cons, List.length_nil, true_and, and_true, cond_false, cond_true, Bool.false_or, Bool.or_false, Bool.or_true, Bool.true_or, true_or, or_true, false_or, or_false, if_true, if_false, reduceIte, ite_true, ite_false, implies_true, true_implies, false_implies, forall_const, not_true_eq_false, not_false_eq_true, Nat.reduceAdd, Nat.reduceMul, Nat.reduceSub, Nat.reduceBEq, Nat.reduceEqDiff, Nat.reduceLeDiff, Nat.reduceLT, Int.reduceAdd, Int.reduceSub, Int.reduceMul, Int.reduceNeg, Int.reduceToNat, Int.reduceLE, Int.reduceLT, Int.reduceEq, Int.reduceNe, Int.reduceNatCast, Nat.add_zero, Nat.zero_add, reduceCtorEq, Int.reduceNatCast', wp_c, wp_g, e2_ifCond, e2_if_icmp, ↓bq_t, ↓bq_f, ab_br, ↓ab_b1_s, ↓ab_b2_s, ↓ab_l1_s, ↓ab_l2_s, ↓ab_li_s, ↓ab_o1_s, ↓ab_io_s, ↓ab_lo1_s, ↓ab_iio_s, ↓ab_lio_s, ↓ab_cp5_s, moX11_bestLaw, dX11_bestLaw_0, dal_0, dX11_bestLaw_1, dil_1, dX11_bestLaw_2, dil_2, dX11_bestLaw_3, dv1_11_260_0, moX11_isPair, dX11_bestLaw_6, dX11_bestLaw_9, dil_3, dX11_bestLaw_10, dX11_bestLaw_13, dX11_bestLaw_14, dX11_bestLaw_15, dX11_bestLaw_18, kx11_207, dX11_bestLaw_21, dX11_bestLaw_22, dX11_bestLaw_23, dg1_11_83_0, dX11_bestLaw_26, dX11_bestLaw_27, dg1_11_104_0, dX11_bestLaw_30, dX11_bestLaw_31, dg1_11_29_0, dX11_bestLaw_34, dX11_bestLaw_35, dX11_bestLaw_36, dv1_11_328_88, moX1_choose, dX11_bestLaw_39, dX11_bestLaw_40, dX11_bestLaw_43, dg1_11_332_88, dX11_bestLaw_46, dX11_bestLaw_47, dX11_bestLaw_48, dal1_95]
    repeat' (with_reducible (first | apply And.intro | intro _))
    all_goals first | omega | skip
    have w3 : w = 0 ∨ w = 1 ∨ w = 2 := by omega
    rcases w3 with q | q | q
    · exact f0 q
    · exact f1 q
    · exact f2 q
  apply hG [18, 22] 30
  simp only [cq_lt, cq_le, cq_gt, cq_ge, cq_eq, cq_r1, cq_r2, ab_r32, ab_r64, ab_go, ab_stp, wp_z, ab_in, ab_rok, ab_wsum, ab_prm, ab_ret, ab_sw, ab_cd, ab_tg, ab_cat_i, ab_cat_l, ab_cat_r, ab_cl_n, ab_cl_i, ab_cl_l, ab_cl_r, ab_f2_0, ab_f2_1, ab_f4_0, ab_f4_1, ab_f4_2, ab_f4_3, ab_op_s, ab_b1_s, ab_b2_s, ab_l1_s, ab_l2_s, ab_li_s, ab_o1_s, ab_io_s, ab_lo1_s, ab_iio_s, ab_lio_s, ab_cp5_s, ab_d2_l, ab_d2_i, ab_d2_o, ex_iconst, ex_bipush, ex_sipush, ex_lconst, ex_ldc, ex_ldc_w, ex_ldc2_w, ex_iadd, ex_isub, ex_imul, ex_iand, ex_ior, ex_ixor, ex_ishl, ex_ishr, ex_iushr, ex_idiv, ex_irem, ex_ladd, ex_lsub, ex_lmul, ex_lor, ex_ldiv, ex_lrem, ex_lshl, ex_lcmp, ex_ineg, ex_lneg, ex_i2l, ex_l2i, ex_i2b, ex_dup, ex_pop, ex_dup2, ex_goto, ex_tableswitch, ex_aaload, ex_ireturn, ex_lreturn, ex_return_, List.map_cons, List.map_nil, List.sum_cons, List.sum_nil, List.drop_succ_cons, List.drop_zero, List.take_succ_cons, List.take_zero, List.reverse_cons, List.reverse_nil, List.nil_append, List.cons_append, List.length_cons, List.length_nil, true_and, and_true, cond_false, cond_true, Bool.false_or, Bool.or_false, Bool.or_true, Bool.true_or, true_or, or_true, false_or, or_false, if_true, if_false, reduceIte, ite_true, ite_false, implies_true, true_implies, false_implies, forall_const, not_true_eq_false, not_false_eq_true, Nat.reduceAdd, Nat.reduceMul, Nat.reduceSub, Nat.reduceBEq, Nat.reduceEqDiff, Nat.reduceLeDiff, Nat.reduceLT, Int.reduceAdd, Int.reduceSub, Int.reduceMul, Int.reduceNeg, Int.reduceToNat, Int.reduceLE, Int.reduceLT, Int.reduceEq, Int.reduceNe, Int.reduceNatCast, Nat.add_zero, Nat.zero_add, reduceCtorEq, Int.reduceNatCast', wp_c, wp_g, e2_ifCond, e2_if_icmp, ↓bq_t, ↓bq_f, ab_br, ↓ab_b1_s, ↓ab_b2_s, ↓ab_l1_s, ↓ab_l2_s, ↓ab_li_s, ↓ab_o1_s, ↓ab_io_s, ↓ab_lo1_s, ↓ab_iio_s, ↓ab_lio_s, ↓ab_cp5_s, moX11_bestLaw, dX11_bestLaw_0, dal_0, dX11_bestLaw_1, dil_1, dX11_bestLaw_2, dil_2, dX11_bestLaw_3, dv1_11_260_0, moX11_isPair, dX11_bestLaw_6, dX11_bestLaw_9, dil_3, dX11_bestLaw_10, dX11_bestLaw_13, dX11_bestLaw_14, dX11_bestLaw_15, dX11_bestLaw_18, kx11_207, dX11_bestLaw_21, dX11_bestLaw_22, dX11_bestLaw_23, dg1_11_83_0, dX11_bestLaw_26, dX11_bestLaw_27, dg1_11_104_0, dX11_bestLaw_30, dX11_bestLaw_31, dg1_11_29_0, dX11_bestLaw_34, dX11_bestLaw_35, dX11_bestLaw_36, dv1_11_328_88, moX1_choose, dX11_bestLaw_39, dX11_bestLaw_40, dX11_bestLaw_43, dg1_11_332_88, dX11_bestLaw_46, dX11_bestLaw_47, dX11_bestLaw_48, dal1_95]
  refine r_isPair hn hx hy (fun v hv => ?_)
  try simp only [cq_lt, cq_le, cq_gt, cq_ge, cq_eq, cq_r1, cq_r2, ab_r32, ab_r64, ab_go, ab_stp, wp_z, ab_in, ab_rok, ab_wsum, ab_prm, ab_ret, ab_sw, ab_cd, ab_tg, ab_cat_i, ab_cat_l, ab_cat_r, ab_cl_n, ab_cl_i, ab_cl_l, ab_cl_r, ab_f2_0, ab_f2_1, ab_f4_0, ab_f4_1, ab_f4_2, ab_f4_3, ab_op_s, ab_b1_s, ab_b2_s, ab_l1_s, ab_l2_s, ab_li_s, ab_o1_s, ab_io_s, ab_lo1_s, ab_iio_s, ab_lio_s, ab_cp5_s, ab_d2_l, ab_d2_i, ab_d2_o, ex_iconst, ex_bipush, ex_sipush, ex_lconst, ex_ldc, ex_ldc_w, ex_ldc2_w, ex_iadd, ex_isub, ex_imul, ex_iand, ex_ior, ex_ixor, ex_ishl, ex_ishr, ex_iushr, ex_idiv, ex_irem, ex_ladd, ex_lsub, ex_lmul, ex_lor, ex_ldiv, ex_lrem, ex_lshl, ex_lcmp, ex_ineg, ex_lneg, ex_i2l, ex_l2i, ex_i2b, ex_dup, ex_pop, ex_dup2, ex_goto, ex_tableswitch, ex_aaload, ex_ireturn, ex_lreturn, ex_return_, List.map_cons, List.map_nil, List.sum_cons, List.sum_nil, List.drop_succ_cons, List.drop_zero, List.take_succ_cons, List.take_zero, List.reverse_cons, List.reverse_nil, List.nil_append, List.cons_append, List.length_cons, List.length_nil, true_and, and_true, cond_false, cond_true, Bool.false_or, Bool.or_false, Bool.or_true, Bool.true_or, true_or, or_true, false_or, or_false, if_true, if_false, reduceIte, ite_true, ite_false, implies_true, true_implies, false_implies, forall_const, not_true_eq_false, not_false_eq_true, Nat.reduceAdd, Nat.reduceMul, Nat.reduceSub, Nat.reduceBEq, Nat.reduceEqDiff, Nat.reduceLeDiff, Nat.reduceLT, Int.reduceAdd, Int.reduceSub, Int.reduceMul, Int.reduceNeg, Int.reduceToNat, Int.reduceLE, Int.reduceLT, Int.reduceEq, Int.reduceNe, Int.reduceNatCast, Nat.add_zero, Nat.zero_add, reduceCtorEq, Int.reduceNatCast', wp_c, wp_g, e2_ifCond, e2_if_icmp, ↓bq_t, ↓bq_f, ab_br, ↓ab_b1_s, ↓ab_b2_s, ↓ab_l1_s, ↓ab_l2_s, ↓ab_li_s, ↓ab_o1_s, ↓ab_io_s, ↓ab_lo1_s, ↓ab_iio_s, ↓ab_lio_s, ↓ab_cp5_s, moX11_bestLaw, dX11_bestLaw_0, dal_0, dX11_bestLaw_1, dil_1, dX11_bestLaw_2, dil_2, dX11_bestLaw_3, dv1_11_260_0, moX11_isPair, dX11_bestLaw_6, dX11_bestLaw_9, dil_3, dX11_bestLaw_10, dX11_bestLaw_13, dX11_bestLaw_14, dX11_bestLaw_15, dX11_bestLaw_18, kx11_207, dX11_bestLaw_21, dX11_bestLaw_22, dX11_bestLaw_23, dg1_11_83_0, dX11_bestLaw_26, dX11_bestLaw_27, dg1_11_104_0, dX11_bestLaw_30, dX11_bestLaw_31, dg1_11_29_0, dX11_bestLaw_34, dX11_bestLaw_35, dX11_bestLaw_36, dv1_11_328_88, moX1_choose, dX11_bestLaw_39, dX11_bestLaw_40, dX11_bestLaw_43, dg1_11_332_88, dX11_bestLaw_46, dX11_bestLaw_47, dX11_bestLaw_48, dal1_95]
  repeat' (with_reducible (first | apply And.intro | intro _))
  all_goals first | omega | exact b18 (by omega) | exact g22 ⟨by omega, by omega, by omega, Or.inl rfl⟩ (by omega)
