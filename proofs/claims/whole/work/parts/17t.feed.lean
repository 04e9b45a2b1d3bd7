-- CALL: feed
theorem zb_core (a : BitVec 32) (k : Nat) (hk : k ≤ 24) : ((a >>> k) &&& 255#32).toInt = (((a.sshiftRight k).setWidth 8).signExtend 32).toInt % 256 := by
  have e1 : (a.sshiftRight k).setWidth 8 = (a >>> k).setWidth 8 := by
    apply BitVec.eq_of_getLsbD_eq
    intro i hi
    rw [BitVec.getLsbD_setWidth, BitVec.getLsbD_setWidth, BitVec.getLsbD_sshiftRight, BitVec.getLsbD_ushiftRight]
    have h1 : decide (32 ≤ i) = false := decide_eq_false (by omega)
    rw [h1, if_pos (by omega)]
    rfl
  rw [e1, BitVec.toInt_signExtend_of_le (by omega), BitVec.toInt_eq_toNat_bmod ((a >>> k).setWidth 8)]
  have e2 : ((a >>> k) &&& 255#32).toNat = (a >>> k).toNat % 256 := by
    rw [BitVec.toNat_and]
    exact Nat.and_two_pow_sub_one_eq_mod _ 8
  rw [BitVec.toInt_eq_toNat_of_lt (by omega), e2, BitVec.toNat_setWidth]
  have := Int.bmod_emod (x := (((a >>> k).toNat % 2 ^ 8 : Nat) : Int)) (m := 2 ^ 8)
  omega

theorem zb_in (a : BitVec 32) (k : Nat) : -128 ≤ (((a.sshiftRight k).setWidth 8).signExtend 32).toInt ∧ (((a.sshiftRight k).setWidth 8).signExtend 32).toInt ≤ 127 := by
  rw [BitVec.toInt_signExtend_of_le (by omega)]
  have h1 := BitVec.le_toInt ((a.sshiftRight k).setWidth 8)
  have h2 := BitVec.toInt_lt (x := (a.sshiftRight k).setWidth 8)
  omega
theorem zb_byte {x : Int} {s : Int} (hs : s = 0 ∨ s = 8 ∨ s = 16 ∨ s = 24) : ab_and (ab_ushr x s) 255 = ab_i2b (ab_shr x s) % 256 ∧ -128 ≤ ab_i2b (ab_shr x s) ∧ ab_i2b (ab_shr x s) ≤ 127 := by
  have go : ∀ k : Nat, k ≤ 24 → (Int32.ofInt s &&& 31).toBitVec.smod 32 = BitVec.ofNat 32 k → ((Int32.ofInt s).toUInt32 &&& Int32.toUInt32 31).mod 32 = UInt32.ofNat k → ab_and (ab_ushr x s) 255 = ab_i2b (ab_shr x s) % 256 ∧ -128 ≤ ab_i2b (ab_shr x s) ∧ ab_i2b (ab_shr x s) ≤ 127 := by
    intro k hk h1 h2
    have e1 : ab_shr x s = ((Int32.ofInt x).toBitVec.sshiftRight k).toInt := by
      show ((Int32.ofInt x).toBitVec.sshiftRight' ((Int32.ofInt s &&& 31).toBitVec.smod 32)).toInt = _
      rw [h1, BitVec.sshiftRight', BitVec.toNat_ofNat, Nat.mod_eq_of_lt (by omega)]
    have e2 : Int32.ofInt (ab_ushr x s) = ⟨⟨(Int32.ofInt x).toBitVec >>> k⟩⟩ := by
      unfold ab_ushr
      rw [Int32.ofInt_toInt]
      show (⟨⟨(Int32.ofInt x).toBitVec >>> (((Int32.ofInt s).toUInt32 &&& Int32.toUInt32 31).mod 32).toBitVec⟩⟩ : Int32) = _
      rw [h2]
      congr 2
      show (Int32.ofInt x).toBitVec >>> (BitVec.ofNat 32 k) = _
      rw [BitVec.ushiftRight_eq', BitVec.toNat_ofNat, Nat.mod_eq_of_lt (by omega)]
    have e3 : ab_i2b (ab_shr x s) = ((((Int32.ofInt x).toBitVec.sshiftRight k).setWidth 8).signExtend 32).toInt := by
      rw [e1]
      show ((((BitVec.ofInt 32 ((Int32.ofInt x).toBitVec.sshiftRight k).toInt).signExtend 8)).signExtend 32).toInt = _
      have e5 : ((Int32.ofInt x).toBitVec.sshiftRight k).signExtend 8 = ((Int32.ofInt x).toBitVec.sshiftRight k).setWidth 8 := BitVec.signExtend_eq_setWidth_of_le _ (by omega)
      rw [BitVec.ofInt_toInt, e5]
    have e4 : ab_and (ab_ushr x s) 255 = (((Int32.ofInt x).toBitVec >>> k) &&& 255#32).toInt := by
      unfold ab_and
      rw [e2]
      rfl
    rw [e3, e4]
    exact ⟨zb_core _ k hk, zb_in _ k⟩
  rcases hs with h | h | h | h
  · subst h; exact go 0 (by omega) (by decide +kernel) (by decide +kernel)
  · subst h; exact go 8 (by omega) (by decide +kernel) (by decide +kernel)
  · subst h; exact go 16 (by omega) (by decide +kernel) (by decide +kernel)
  · subst h; exact go 24 (by omega) (by decide +kernel) (by decide +kernel)
theorem s12_1 (σ : ab_S) (g f : Int → Int) : ab_set (ab_set σ 1 g) 2 f 1 = g := rfl
theorem s12_2 (σ : ab_S) (g f : Int → Int) : ab_set (ab_set σ 1 g) 2 f 2 = f := rfl
theorem ab_up_12 (σ : ab_S) (g f : Int → Int) (k v : Int) : ab_up (ab_set (ab_set σ 1 g) 2 f) 1 k v = ab_set (ab_set σ 1 (zu g k v)) 2 f := by
  funext q
  by_cases e1 : q = 1
  · subst e1
    rw [ab_up_eq, ab_set_at, ab_set_ne _ _ (by decide), ab_set_at, s12_1]
  · rw [ab_up_eq, ab_set_ne _ _ e1]
    by_cases e2 : q = 2
    · rw [e2, ab_set_at, ab_set_at]
    · rw [ab_set_ne _ _ e2, ab_set_ne _ _ e2, ab_set_ne _ _ e1, ab_set_ne _ _ e1]
theorem ab_up_2 (σ : ab_S) (g : Int → Int) (k v : Int) : ab_up (ab_set σ 2 g) 2 k v = ab_set σ 2 (zu g k v) := ab_up_set σ 2 g k v
/-- the i-th of the four signs of x -/
def zBy (x i : Int) : Int := ab_and (ab_ushr x (24 - 8 * i)) 255
theorem zBy_in {x i : Int} (hi : 0 ≤ i ∧ i < 4) : zBy x i = ab_i2b (ab_shr x (24 - 8 * i)) % 256 ∧ -128 ≤ ab_i2b (ab_shr x (24 - 8 * i)) ∧ ab_i2b (ab_shr x (24 - 8 * i)) ≤ 127 := zb_byte (by omega)
set_option maxRecDepth 100000 in
set_option maxHeartbeats 4000000 in
theorem r_append {ω : ab_S} {x : Int} {K : ab_V → ab_S → Prop} (hx : -2147483648 ≤ x ∧ x ≤ 2147483647) (hn : 0 ≤ ω 1 1 ∧ ω 1 1 ≤ 896) (h : ∀ g f : Int → Int, g 1 = ω 1 1 + 4 → (∀ j, j ≠ 1 → g j = ω 1 j) → (∀ i, 0 ≤ i → i < 4 → f (ω 1 1 + i) = zBy x i) → (∀ k, ¬ (ω 1 1 ≤ k ∧ k < ω 1 1 + 4) → f k = ω 2 k) → K (vI 0) (ab_set (ab_set ω 1 g) 2 f)) : ab_Runs ab_G1 mdX6_append [vR 1, vI x] ω K := by
  refine ab_runs mwX6_append (by decide +kernel) (Nat.le_of_ble_eq_true rfl) (fun G hG => ?_)
  show G 0 [some (vR 1), some (vI x), none] [] _
  have key : ∀ (m : Nat) (i : Int) (g f : Int → Int), 4 - i < m → 0 ≤ i → i ≤ 4 → g 1 = ω 1 1 + i → (∀ j, j ≠ 1 → g j = ω 1 j) → (∀ c, 0 ≤ c → c < i → f (ω 1 1 + c) = zBy x c) → (∀ k, ¬ (ω 1 1 ≤ k ∧ k < ω 1 1 + 4) → f k = ω 2 k) → G 3 [some (vR 1), some (vI x), some (vI (24 - 8 * i))] [] (ab_set (ab_set ω 1 g) 2 f) := by
    intro m
    induction m with
    | zero => intro i g f h1 h2 h3; omega
    | succ m ih =>
      intro i g f h1 h2 h3 h4 h5 h6 h7
      have nx : i < 4 → ∀ v, v = zBy x i → G 3 [some (vR 1), some (vI x), some (vI (24 - 8 * i + -8))] [] (ab_set (ab_set ω 1 (zu g 1 (ω 1 1 + i + 1))) 2 (zu f (ω 1 1 + i) v)) := by
        intro hi v hv
        have := ih (i + 1) (zu g 1 (ω 1 1 + i + 1)) (zu f (ω 1 1 + i) v) (by omega) (by omega) (by omega) (by rw [zu_at]; omega) (fun j hj => by rw [zu_ne _ _ hj]; exact h5 j hj) (fun c c1 c2 => by
          by_cases e : c = i
          · rw [e, zu_at, hv]
          · rw [zu_ne _ _ (by omega)]
            exact h6 c c1 (by omega)) (fun k hk => by
          rw [zu_ne _ _ (by omega)]
          exact h7 k hk)
        rw [show 24 - 8 * (i + 1) = 24 - 8 * i + -8 by omega] at this
        exact this
      apply hG [3] 60
      simp only [cq_lt, cq_le, cq_gt, cq_ge, cq_eq, cq_r1, cq_r2, ab_r32, ab_r64, ab_go, ab_stp, wp_z, ab_in, ab_rok, ab_wsum, ab_prm, ab_ret, ab_sw, ab_cd, ab_tg, ab_cat_i, ab_cat_l, ab_cat_r, ab_cl_n, ab_cl_i, ab_cl_l, ab_cl_r, ab_f2_0, ab_f2_1, ab_f4_0, ab_f4_1, ab_f4_2, ab_f4_3, ab_op_s, ab_b1_s, ab_b2_s, ab_l1_s, ab_l2_s, ab_li_s, ab_o1_s, ab_io_s, ab_lo1_s, ab_iio_s, ab_lio_s, ab_cp5_s, ab_d2_l, ab_d2_i, ab_d2_o, ex_iconst, ex_bipush, ex_sipush, ex_lconst, ex_ldc, ex_ldc_w, ex_ldc2_w, ex_iadd, ex_isub, ex_imul, ex_iand, ex_ior, ex_ixor, ex_ishl, ex_ishr, ex_iushr, ex_idiv, ex_irem, ex_ladd, ex_lsub, ex_lmul, ex_lor, ex_ldiv, ex_lrem, ex_lshl, ex_lcmp, ex_ineg, ex_lneg, ex_i2l, ex_l2i, ex_i2b, ex_dup, ex_pop, ex_dup2, ex_goto, ex_tableswitch, ex_aaload, ex_ireturn, ex_lreturn, ex_return_, List.map_cons, List.map_nil, List.sum_cons, List.sum_nil, List.drop_succ_cons, List.drop_zero, List.take_succ_cons, List.take_zero, List.reverse_cons, List.reverse_nil, List.nil_append, List.cons_append, List.length_cons, List.length_nil, true_and, and_true, cond_false, cond_true, Bool.false_or, Bool.or_false, Bool.or_true, Bool.true_or, true_or, or_true, false_or, or_false, if_true, if_false, reduceIte, ite_true, ite_false, implies_true, true_implies, false_implies, forall_const, not_true_eq_false, not_false_eq_true, Nat.reduceAdd, Nat.reduceMul, Nat.reduceSub, Nat.reduceBEq, Nat.reduceEqDiff, Nat.reduceLeDiff, Nat.reduceLT, Int.reduceAdd, Int.reduceSub, Int.reduceMul, Int.reduceNeg, Int.reduceToNat, Int.reduceLE, Int.reduceLT, Int.reduceEq, Int.reduceNe, Int.reduceNatCast, Nat.add_zero, Nat.zero_add, reduceCtorEq, Int.reduceNatCast', wp_c, wp_g, e2_ifCond, e2_if_icmp, ↓bq_t, ↓bq_f, ab_br, ↓ab_b1_s, ↓ab_b2_s, ↓ab_l1_s, ↓ab_l2_s, ↓ab_li_s, ↓ab_o1_s, ↓ab_io_s, ↓ab_lo1_s, ↓ab_iio_s, ↓ab_lio_s, ↓ab_cp5_s, moX6_append, dX6_append_0, dX6_append_2, dis_2, dX6_append_3, dil_2, dX6_append_4, dX6_append_7, dal_0, dX6_append_8, dg1_6_15_1, dX6_append_11, dX6_append_14, dX6_append_17, dX6_append_18, dg1_6_9_1, dX6_append_21, dX6_append_22, dX6_append_25, dil_1, dX6_append_26, dX6_append_27, dX6_append_28, dX6_append_31, dX6_append_32, dX6_append_33, dX6_append_34, dX6_append_35, dX6_append_38, dX6_append_39, dX6_append_40, dp1_6_15_1, dX6_append_43, dinc_2, dX6_append_46, dX6_append_49, das1_2, s12_1, s12_2, ab_up_12, ab_up_2, h4]
      repeat' (with_reducible (first | apply And.intro | intro _))
      all_goals first | omega | skip
      · exact h g f (by omega) h5 (fun c c1 c2 => h6 c c1 (by omega)) h7
      · exact nx (by omega) _ rfl
  have k0 := key 5 0 (ω 1) (ω 2) (by omega) (by omega) (by omega) (by omega) (fun j _ => rfl) (fun c c1 c2 => by omega) (fun k _ => rfl)
  rw [ab_set_self, ab_set_self] at k0
  apply hG [3] 10
  simp only [cq_lt, cq_le, cq_gt, cq_ge, cq_eq, cq_r1, cq_r2, ab_r32, ab_r64, ab_go, ab_stp, wp_z, ab_in, ab_rok, ab_wsum, ab_prm, ab_ret, ab_sw, ab_cd, ab_tg, ab_cat_i, ab_cat_l, ab_cat_r, ab_cl_n, ab_cl_i, ab_cl_l, ab_cl_r, ab_f2_0, ab_f2_1, ab_f4_0, ab_f4_1, ab_f4_2, ab_f4_3, ab_op_s, ab_b1_s, ab_b2_s, ab_l1_s, ab_l2_s, ab_li_s, ab_o1_s, ab_io_s, ab_lo1_s, ab_iio_s, ab_lio_s, ab_cp5_s, ab_d2_l, ab_d2_i, ab_d2_o, ex_iconst, ex_bipush, ex_sipush, ex_lconst, ex_ldc, ex_ldc_w, ex_ldc2_w, ex_iadd, ex_isub, ex_imul, ex_iand, ex_ior, ex_ixor, ex_ishl, ex_ishr, ex_iushr, ex_idiv, ex_irem, ex_ladd, ex_lsub, ex_lmul, ex_lor, ex_ldiv, ex_lrem, ex_lshl, ex_lcmp, ex_ineg, ex_lneg, ex_i2l, ex_l2i, ex_i2b, ex_dup, ex_pop, ex_dup2, ex_goto, ex_tableswitch, ex_aaload, ex_ireturn, ex_lreturn, ex_return_, List.map_cons, List.map_nil, List.sum_cons, List.sum_nil, List.drop_succ_cons, List.drop_zero, List.take_succ_cons, List.take_zero, List.reverse_cons, List.reverse_nil, List.nil_append, List.cons_append, List.length_cons, List.length_nil, true_and, and_true, cond_false, cond_true, Bool.false_or, Bool.or_false, Bool.or_true, Bool.true_or, true_or, or_true, false_or, or_false, if_true, if_false, reduceIte, ite_true, ite_false, implies_true, true_implies, false_implies, forall_const, not_true_eq_false, not_false_eq_true, Nat.reduceAdd, Nat.reduceMul, Nat.reduceSub, Nat.reduceBEq, Nat.reduceEqDiff, Nat.reduceLeDiff, Nat.reduceLT, Int.reduceAdd, Int.reduceSub, Int.reduceMul, Int.reduceNeg, Int.reduceToNat, Int.reduceLE, Int.reduceLT, Int.reduceEq, Int.reduceNe, Int.reduceNatCast, Nat.add_zero, Nat.zero_add, reduceCtorEq, Int.reduceNatCast', wp_c, wp_g, e2_ifCond, e2_if_icmp, ↓bq_t, ↓bq_f, ab_br, ↓ab_b1_s, ↓ab_b2_s, ↓ab_l1_s, ↓ab_l2_s, ↓ab_li_s, ↓ab_o1_s, ↓ab_io_s, ↓ab_lo1_s, ↓ab_iio_s, ↓ab_lio_s, ↓ab_cp5_s, moX6_append, dX6_append_0, dX6_append_2, dis_2, dX6_append_3, dil_2, dX6_append_4, dX6_append_7, dal_0, dX6_append_8, dg1_6_15_1, dX6_append_11, dX6_append_14, dX6_append_17, dX6_append_18, dg1_6_9_1, dX6_append_21, dX6_append_22, dX6_append_25, dil_1, dX6_append_26, dX6_append_27, dX6_append_28, dX6_append_31, dX6_append_32, dX6_append_33, dX6_append_34, dX6_append_35, dX6_append_38, dX6_append_39, dX6_append_40, dp1_6_15_1, dX6_append_43, dinc_2, dX6_append_46, dX6_append_49, das1_2]
  exact k0
/-- m words of W are on the tape -/
def zApk (ω ω' : ab_S) (W : Int → Int) (m : Int) : Prop := (∀ o, o ≠ 1 → o ≠ 2 → ω' o = ω o) ∧ (∀ j, j ≠ 1 → ω' 1 j = ω 1 j) ∧ ω' 1 1 = ω 1 1 + 4 * m ∧ (∀ k, 0 ≤ k → k < 4 * m → ω' 2 (ω 1 1 + k) = zBy (W (k / 4)) (k % 4)) ∧ (∀ k, ¬ (ω 1 1 ≤ k ∧ k < ω 1 1 + 4 * m) → ω' 2 k = ω 2 k)
theorem zApk_0 (ω : ab_S) (W : Int → Int) : zApk ω ω W 0 := ⟨fun _ _ _ => rfl, fun _ _ => rfl, by omega, fun k k1 k2 => by omega, fun _ _ => rfl⟩
theorem r_appends {ω ω1 : ab_S} {W : Int → Int} {m x : Int} {K : ab_V → ab_S → Prop} (hx : -2147483648 ≤ x ∧ x ≤ 2147483647) (hm : 0 ≤ m ∧ m < 5) (hW : W m = x) (hn : 0 ≤ ω 1 1 ∧ ω 1 1 ≤ 880) (hA : zApk ω ω1 W m) (h : ∀ ω', zApk ω ω' W (m + 1) → K (vI 0) ω') : ab_Runs ab_G1 mdX6_append [vR 1, vI x] ω1 K := by
  obtain ⟨a1, a2, a3, a4, a5⟩ := hA
  refine r_append hx (by omega) (fun g f g1 g2 f1 f2 => h _ ⟨fun o o1 o2 => ?_, fun j hj => ?_, ?_, fun k k1 k2 => ?_, fun k hk => ?_⟩)
  · rw [ab_set_ne _ _ o2, ab_set_ne _ _ o1]
    exact a1 o o1 o2
  · rw [s12_1, g2 j hj]
    exact a2 j hj
  · rw [s12_1, g1, a3]
    omega
  · rw [s12_2]
    by_cases e : k < 4 * m
    · rw [f2 _ (by omega)]
      exact a4 k k1 e
    · have := f1 (k - 4 * m) (by omega) (by omega)
      rw [show k / 4 = m by omega, hW, show k % 4 = k - 4 * m by omega, ← this, a3]
      congr 1
      omega
  · rw [s12_2, f2 k (by omega)]
    exact a5 k (by omega)
def zWd (a b c d e k : Int) : Int := if k < 1 then a else if k < 2 then b else if k < 3 then c else if k < 4 then d else e
theorem s015_0 (σ : ab_S) (g f : Int → Int) : ab_set (ab_set σ 0 g) 15 f 0 = g := rfl
theorem s015_15 (σ : ab_S) (g f : Int → Int) : ab_set (ab_set σ 0 g) 15 f 15 = f := rfl
theorem ab_up_015 (σ : ab_S) (g f : Int → Int) (k v : Int) : ab_up (ab_set (ab_set σ 0 g) 15 f) 0 k v = ab_set (ab_set σ 0 (zu g k v)) 15 f := by
  funext q
  by_cases e1 : q = 0
  · subst e1
    rw [ab_up_eq, ab_set_at, ab_set_ne _ _ (by decide), ab_set_at, s015_0]
  · rw [ab_up_eq, ab_set_ne _ _ e1]
    by_cases e2 : q = 15
    · rw [e2, ab_set_at, ab_set_at]
    · rw [ab_set_ne _ _ e2, ab_set_ne _ _ e2, ab_set_ne _ _ e1, ab_set_ne _ _ e1]
theorem ab_up_15 (σ : ab_S) (g : Int → Int) (k v : Int) : ab_up (ab_set σ 15 g) 15 k v = ab_set σ 15 (zu g k v) := ab_up_set σ 15 g k v
set_option maxRecDepth 100000 in
set_option maxHeartbeats 4000000 in
theorem j_feed {ω τ : ab_S} {a b c d e : Int} (hB : yB ω τ) (ha : -2147483648 ≤ a ∧ a ≤ 2147483647) (hb : -2147483648 ≤ b ∧ b ≤ 2147483647) (hc : -2147483648 ≤ c ∧ c ≤ 2147483647) (hd : -2147483648 ≤ d ∧ d ≤ 2147483647) (he : -2147483648 ≤ e ∧ e ≤ 2147483647) : ab_Runs ab_G1 mdX11_feed [vR 0, vI a, vI b, vI c, vI d, vI e] ω (zJn ω τ mdX12_feed [vR 0, vI a, vI b, vI c, vI d, vI e]) := by
  obtain ⟨b1, b2, b3, b4, b5, b6, b7, b8, b9, b10, b11, b12, b13, b14⟩ := id hB
  have y2 : τ 0 29 = ω 1 1 := b1.2.2
  have hn := b1.1.1
  refine ab_runs mwX11_feed (by decide +kernel) (Nat.le_of_ble_eq_true rfl) (fun G hG => ?_)
  show G 0 [some (vR 0), some (vI a), some (vI b), some (vI c), some (vI d), some (vI e)] [] _
  have no : 880 < ω 1 1 → zJn ω τ mdX12_feed [vR 0, vI a, vI b, vI c, vI d, vI e] (vI (-1)) ω := by
    intro z
    refine ⟨zSs_rf ω, ?_⟩
    have fin : yJn ω (vI (-1)) (vI (-1)) τ := ⟨rfl, hB⟩
    refine ab_runs mwX12_feed (by decide +kernel) (Nat.le_of_ble_eq_true rfl) (fun G hG => ?_)
    show G 0 [some (vR 0), some (vI a), some (vI b), some (vI c), some (vI d), some (vI e), none, none] [] _
    apply hG [18] 40
    simp only [cq_lt, cq_le, cq_gt, cq_ge, cq_eq, cq_r1, cq_r2, ab_r32, ab_r64, ab_go, ab_stp, wp_z, ab_in, ab_rok, ab_wsum, ab_prm, ab_ret, ab_sw, ab_cd, ab_tg, ab_cat_i, ab_cat_l, ab_cat_r, ab_cl_n, ab_cl_i, ab_cl_l, ab_cl_r, ab_f2_0, ab_f2_1, ab_f4_0, ab_f4_1, ab_f4_2, ab_f4_3, ab_op_s, ab_b1_s, ab_b2_s, ab_l1_s, ab_l2_s, ab_li_s, ab_o1_s, ab_io_s, ab_lo1_s, ab_iio_s, ab_lio_s, ab_cp5_s, ab_d2_l, ab_d2_i, ab_d2_o, ex_iconst, ex_bipush, ex_sipush, ex_lconst, ex_ldc, ex_ldc_w, ex_ldc2_w, ex_iadd, ex_isub, ex_imul, ex_iand, ex_ior, ex_ixor, ex_ishl, ex_ishr, ex_iushr, ex_idiv, ex_irem, ex_ladd, ex_lsub, ex_lmul, ex_lor, ex_ldiv, ex_lrem, ex_lshl, ex_lcmp, ex_ineg, ex_lneg, ex_i2l, ex_l2i, ex_i2b, ex_dup, ex_pop, ex_dup2, ex_goto, ex_tableswitch, ex_aaload, ex_ireturn, ex_lreturn, ex_return_, List.map_cons, List.map_nil, List.sum_cons, List.sum_nil, List.drop_succ_cons, List.drop_zero, List.take_succ_cons, List.take_zero, List.reverse_cons, List.reverse_nil, List.nil_append, List.cons_append, List.length_cons, List.length_nil, true_and, and_true, cond_false, cond_true, Bool.false_or, Bool.or_false, Bool.or_true, Bool.true_or, true_or, or_true, false_or, or_false, if_true, if_false, reduceIte, ite_true, ite_false, implies_true, true_implies, false_implies, forall_const, not_true_eq_false, not_false_eq_true, Nat.reduceAdd, Nat.reduceMul, Nat.reduceSub, Nat.reduceBEq, Nat.reduceEqDiff, Nat.reduceLeDiff, Nat.reduceLT, Int.reduceAdd, Int.reduceSub, Int.reduceMul, Int.reduceNeg, Int.reduceToNat, Int.reduceLE, Int.reduceLT, Int.reduceEq, Int.reduceNe, Int.reduceNatCast, Nat.add_zero, Nat.zero_add, reduceCtorEq, Int.reduceNatCast', wp_c, wp_g, e2_ifCond, e2_if_icmp, ↓bq_t, ↓bq_f, ab_br, ↓ab_b1_s, ↓ab_b2_s, ↓ab_l1_s, ↓ab_l2_s, ↓ab_li_s, ↓ab_o1_s, ↓ab_io_s, ↓ab_lo1_s, ↓ab_iio_s, ↓ab_lio_s, ↓ab_cp5_s, moX12_feed, dX12_feed_0, dal_0, dX12_feed_1, dg2_12_188_0, dX12_feed_4, dX12_feed_6, dX12_feed_7, dX12_feed_10, dX12_feed_13, dX12_feed_14, dX12_feed_15, dX12_feed_16, dis_6, dX12_feed_18, dil_6, dX12_feed_20, dX12_feed_22, dX12_feed_25, dX12_feed_27, dX12_feed_28, dX12_feed_31, dil_1, dX12_feed_32, dX12_feed_35, dX12_feed_37, dX12_feed_39, dX12_feed_42, dil_2, dX12_feed_43, dX12_feed_46, dX12_feed_48, dX12_feed_50, dX12_feed_53, dil_3, dX12_feed_54, dX12_feed_57, dX12_feed_59, dX12_feed_61, dX12_feed_64, dil_4, dX12_feed_66, dX12_feed_69, dil_5, dX12_feed_71, dis_7, dX12_feed_73, dX12_feed_74, dg2_12_66_0, dX12_feed_77, dX12_feed_78, dX12_feed_81, dil_7, dX12_feed_83, dX12_feed_85, dX12_feed_87, dX12_feed_89, dX12_feed_90, dX12_feed_91, dX12_feed_92, dX12_feed_93, dX12_feed_94, dX12_feed_95, dX12_feed_96, dX12_feed_97, dX12_feed_98, dX12_feed_101, dX12_feed_102, dX12_feed_103, dp2_12_188_0, dX12_feed_106, dinc_6, dX12_feed_109, dX12_feed_112, dX12_feed_113, dX12_feed_116, das2_15, y2]
    repeat' (with_reducible (first | apply And.intro | intro _))
    all_goals first | omega | exact fin
  have M : ω 1 1 ≤ 880 → ∀ ω', zApk ω ω' (zWd a b c d e) 5 → zJn ω τ mdX12_feed [vR 0, vI a, vI b, vI c, vI d, vI e] (vI (ω 1 1 + 20)) ω' := by
    intro z ω' hA
    obtain ⟨a1, a2, a3, a4, a5⟩ := hA
    refine ⟨⟨fun o ho => a1 o (by omega) (by omega), Or.inl ⟨by rw [a1 0 (by decide) (by decide)], fun o ho => a1 o (by omega) (by omega), zBk_o (fun o _ _ => a1 o (by omega) (by omega))⟩, by rw [a1 0 (by decide) (by decide)]; omega⟩, ?_⟩
    have fin : ∀ q t : Int → Int, (∀ j, j ≠ 29 → q j = τ 0 j) → q 29 = ω 1 1 + 20 → (∀ k, 0 ≤ k → k < 20 → t (ω 1 1 + k) = ab_i2b (ab_shr (zWd a b c d e (k / 4)) (24 - 8 * (k % 4)))) → (∀ k, ¬ (ω 1 1 ≤ k ∧ k < ω 1 1 + 20) → t k = τ 15 k) → yJn ω' (vI (ω 1 1 + 20)) (vI (ω 1 1 + 20)) (ab_set (ab_set τ 0 q) 15 t) := by
      intro q t q1 q2 t1 t2
      have r0 : ω' 0 = ω 0 := a1 0 (by decide) (by decide)
      have tp : ∀ i, 0 ≤ i → i < 900 → (-128 ≤ t i ∧ t i ≤ 127) ∧ ω' 2 i = t i % 256 := by
        intro i i1 i2
        by_cases w : ω 1 1 ≤ i ∧ i < ω 1 1 + 20
        · have u1 := t1 (i - ω 1 1) (by omega) (by omega)
          have u2 := a4 (i - ω 1 1) (by omega) (by omega)
          rw [show ω 1 1 + (i - ω 1 1) = i by omega] at u1 u2
          have u3 := zBy_in (x := zWd a b c d e ((i - ω 1 1) / 4)) (i := (i - ω 1 1) % 4) (by omega)
          rw [← u1, ← u2] at u3
          exact ⟨u3.2, u3.1⟩
        · rw [t2 i w, a5 i (by omega)]
          exact b1.2.1 i i1 i2
      refine ⟨rfl, yB_rd hB (fun o o0 o1 o2 o3 => a1 o o1 o2) (fun j hj => by rw [r0]) (fun o o0 o2 o4 o6 o7 => ?_) (fun j hj => ?_) ⟨⟨by omega, fun i i1 i2 => ?_⟩, ?_, ?_⟩ ?_ ?_⟩
      · rw [ab_set_ne _ _ (by omega), ab_set_ne _ _ o0]
      · rw [s015_0]
        exact q1 j (by omega)
      · have := tp i i1 (by omega)
        omega
      · exact tp
      · rw [s015_0, q2, a3]
        omega
      · rw [s015_0, q1 30 (by decide), r0]
        exact b12
      · rw [r0]
        exact b13
    refine ab_runs mwX12_feed (by decide +kernel) (Nat.le_of_ble_eq_true rfl) (fun G hG => ?_)
    show G 0 [some (vR 0), some (vI a), some (vI b), some (vI c), some (vI d), some (vI e), none, none] [] _
    have key : ∀ (m : Nat) (k : Int) (q t : Int → Int) (z7 : Option ab_V), 20 - k < m → 0 ≤ k → k ≤ 20 → (∀ j, j ≠ 29 → q j = τ 0 j) → q 29 = ω 1 1 + k → (∀ i, 0 ≤ i → i < k → t (ω 1 1 + i) = ab_i2b (ab_shr (zWd a b c d e (i / 4)) (24 - 8 * (i % 4)))) → (∀ i, ¬ (ω 1 1 ≤ i ∧ i < ω 1 1 + 20) → t i = τ 15 i) → G 18 [some (vR 0), some (vI a), some (vI b), some (vI c), some (vI d), some (vI e), some (vI k), z7] [] (ab_set (ab_set τ 0 q) 15 t) := by
      intro m
      induction m with
      | zero => intro k q t z7 h1 h2 h3; omega
      | succ m ih =>
        intro k q t z7 h1 h2 h3 q1 q2 t1 t2
        have nx : k < 20 → ∀ x v, x = zWd a b c d e (k / 4) → v = ab_i2b (ab_shr x (24 - 8 * (k % 4))) → G 18 [some (vR 0), some (vI a), some (vI b), some (vI c), some (vI d), some (vI e), some (vI (k + 1)), some (vI x)] [] (ab_set (ab_set τ 0 (zu q 29 (ω 1 1 + k + 1))) 15 (zu t (ω 1 1 + k) v)) := by
          intro hk x v hx hv
          refine ih (k + 1) _ _ _ (by omega) (by omega) (by omega) (fun j hj => by rw [zu_ne _ _ hj]; exact q1 j hj) (by rw [zu_at]; omega) (fun i i1 i2 => ?_) (fun i hi => ?_)
          · by_cases w : i = k
            · rw [w, zu_at, hv, hx]
            · rw [zu_ne _ _ (by omega)]
              exact t1 i i1 (by omega)
          · rw [zu_ne _ _ (by omega)]
            exact t2 i hi
        have rg : ∀ x : Int, -128 ≤ ab_i2b (ab_shr x (24 - 8 * (k % 4))) ∧ ab_i2b (ab_shr x (24 - 8 * (k % 4))) ≤ 127 := fun x => (zBy_in (x := x) (i := k % 4) (by omega)).2
        have et : k.tmod 4 = k % 4 := Int.tmod_eq_emod_of_nonneg h2
        apply hG [18] 60
        simp only [cq_lt, cq_le, cq_gt, cq_ge, cq_eq, cq_r1, cq_r2, ab_r32, ab_r64, ab_go, ab_stp, wp_z, ab_in, ab_rok, ab_wsum, ab_prm, ab_ret, ab_sw, ab_cd, ab_tg, ab_cat_i, ab_cat_l, ab_cat_r, ab_cl_n, ab_cl_i, ab_cl_l, ab_cl_r, ab_f2_0, ab_f2_1, ab_f4_0, ab_f4_1, ab_f4_2, ab_f4_3, ab_op_s, ab_b1_s, ab_b2_s, ab_l1_s, ab_l2_s, ab_li_s, ab_o1_s, ab_io_s, ab_lo1_s, ab_iio_s, ab_lio_s, ab_cp5_s, ab_d2_l, ab_d2_i, ab_d2_o, ex_iconst, ex_bipush, ex_sipush, ex_lconst, ex_ldc, ex_ldc_w, ex_ldc2_w, ex_iadd, ex_isub, ex_imul, ex_iand, ex_ior, ex_ixor, ex_ishl, ex_ishr, ex_iushr, ex_idiv, ex_irem, ex_ladd, ex_lsub, ex_lmul, ex_lor, ex_ldiv, ex_lrem, ex_lshl, ex_lcmp, ex_ineg, ex_lneg, ex_i2l, ex_l2i, ex_i2b, ex_dup, ex_pop, ex_dup2, ex_goto, ex_tableswitch, ex_aaload, ex_ireturn, ex_lreturn, ex_return_, List.map_cons, List.map_nil, List.sum_cons, List.sum_nil, List.drop_succ_cons, List.drop_zero, List.take_succ_cons, List.take_zero, List.reverse_cons, List.reverse_nil, List.nil_append, List.cons_append, List.length_cons, List.length_nil, true_and, and_true, cond_false, cond_true, Bool.false_or, Bool.or_false, Bool.or_true, Bool.true_or, true_or, or_true, false_or, or_false, if_true, if_false, reduceIte, ite_true, ite_false, implies_true, true_implies, false_implies, forall_const, not_true_eq_false, not_false_eq_true, Nat.reduceAdd, Nat.reduceMul, Nat.reduceSub, Nat.reduceBEq, Nat.reduceEqDiff, Nat.reduceLeDiff, Nat.reduceLT, Int.reduceAdd, Int.reduceSub, Int.reduceMul, Int.reduceNeg, Int.reduceToNat, Int.reduceLE, Int.reduceLT, Int.reduceEq, Int.reduceNe, Int.reduceNatCast, Nat.add_zero, Nat.zero_add, reduceCtorEq, Int.reduceNatCast', wp_c, wp_g, e2_ifCond, e2_if_icmp, ↓bq_t, ↓bq_f, ab_br, ↓ab_b1_s, ↓ab_b2_s, ↓ab_l1_s, ↓ab_l2_s, ↓ab_li_s, ↓ab_o1_s, ↓ab_io_s, ↓ab_lo1_s, ↓ab_iio_s, ↓ab_lio_s, ↓ab_cp5_s, moX12_feed, dX12_feed_0, dal_0, dX12_feed_1, dg2_12_188_0, dX12_feed_4, dX12_feed_6, dX12_feed_7, dX12_feed_10, dX12_feed_13, dX12_feed_14, dX12_feed_15, dX12_feed_16, dis_6, dX12_feed_18, dil_6, dX12_feed_20, dX12_feed_22, dX12_feed_25, dX12_feed_27, dX12_feed_28, dX12_feed_31, dil_1, dX12_feed_32, dX12_feed_35, dX12_feed_37, dX12_feed_39, dX12_feed_42, dil_2, dX12_feed_43, dX12_feed_46, dX12_feed_48, dX12_feed_50, dX12_feed_53, dil_3, dX12_feed_54, dX12_feed_57, dX12_feed_59, dX12_feed_61, dX12_feed_64, dil_4, dX12_feed_66, dX12_feed_69, dil_5, dX12_feed_71, dis_7, dX12_feed_73, dX12_feed_74, dg2_12_66_0, dX12_feed_77, dX12_feed_78, dX12_feed_81, dil_7, dX12_feed_83, dX12_feed_85, dX12_feed_87, dX12_feed_89, dX12_feed_90, dX12_feed_91, dX12_feed_92, dX12_feed_93, dX12_feed_94, dX12_feed_95, dX12_feed_96, dX12_feed_97, dX12_feed_98, dX12_feed_101, dX12_feed_102, dX12_feed_103, dp2_12_188_0, dX12_feed_106, dinc_6, dX12_feed_109, dX12_feed_112, dX12_feed_113, dX12_feed_116, das2_15, s015_0, s015_15, ab_up_015, ab_up_15, q2, et]
        repeat' (with_reducible (first | apply And.intro | intro _))
        all_goals first | omega | skip
        · rw [show ω 1 1 + k = ω 1 1 + 20 by omega]
          exact fin _ _ q1 (by omega) (fun i i1 i2 => t1 i i1 (by omega)) t2
        all_goals first | exact (rg _).1 | exact (rg _).2 | exact nx (by omega) a _ (by unfold zWd; rw [if_pos (by omega)]) rfl | exact nx (by omega) b _ (by unfold zWd; rw [if_neg (by omega), if_pos (by omega)]) rfl | exact nx (by omega) c _ (by unfold zWd; rw [if_neg (by omega), if_neg (by omega), if_pos (by omega)]) rfl | exact nx (by omega) d _ (by unfold zWd; rw [if_neg (by omega), if_neg (by omega), if_neg (by omega), if_pos (by omega)]) rfl | exact nx (by omega) e _ (by unfold zWd; rw [if_neg (by omega), if_neg (by omega), if_neg (by omega), if_neg (by omega)]) rfl
    have k0 := key 21 0 (τ 0) (τ 15) none (by omega) (by omega) (by omega) (fun j _ => rfl) (by omega) (fun i i1 i2 => by omega) (fun i _ => rfl)
    rw [ab_set_self, ab_set_self] at k0
    apply hG [18] 40
    simp only [cq_lt, cq_le, cq_gt, cq_ge, cq_eq, cq_r1, cq_r2, ab_r32, ab_r64, ab_go, ab_stp, wp_z, ab_in, ab_rok, ab_wsum, ab_prm, ab_ret, ab_sw, ab_cd, ab_tg, ab_cat_i, ab_cat_l, ab_cat_r, ab_cl_n, ab_cl_i, ab_cl_l, ab_cl_r, ab_f2_0, ab_f2_1, ab_f4_0, ab_f4_1, ab_f4_2, ab_f4_3, ab_op_s, ab_b1_s, ab_b2_s, ab_l1_s, ab_l2_s, ab_li_s, ab_o1_s, ab_io_s, ab_lo1_s, ab_iio_s, ab_lio_s, ab_cp5_s, ab_d2_l, ab_d2_i, ab_d2_o, ex_iconst, ex_bipush, ex_sipush, ex_lconst, ex_ldc, ex_ldc_w, ex_ldc2_w, ex_iadd, ex_isub, ex_imul, ex_iand, ex_ior, ex_ixor, ex_ishl, ex_ishr, ex_iushr, ex_idiv, ex_irem, ex_ladd, ex_lsub, ex_lmul, ex_lor, ex_ldiv, ex_lrem, ex_lshl, ex_lcmp, ex_ineg, ex_lneg, ex_i2l, ex_l2i, ex_i2b, ex_dup, ex_pop, ex_dup2, ex_goto, ex_tableswitch, ex_aaload, ex_ireturn, ex_lreturn, ex_return_, List.map_cons, List.map_nil, List.sum_cons, List.sum_nil, List.drop_succ_cons, List.drop_zero, List.take_succ_cons, List.take_zero, List.reverse_cons, List.reverse_nil, List.nil_append, List.cons_append, List.length_cons, List.length_nil, true_and, and_true, cond_false, cond_true, Bool.false_or, Bool.or_false, Bool.or_true, Bool.true_or, true_or, or_true, false_or, or_false, if_true, if_false, reduceIte, ite_true, ite_false, implies_true, true_implies, false_implies, forall_const, not_true_eq_false, not_false_eq_true, Nat.reduceAdd, Nat.reduceMul, Nat.reduceSub, Nat.reduceBEq, Nat.reduceEqDiff, Nat.reduceLeDiff, Nat.reduceLT, Int.reduceAdd, Int.reduceSub, Int.reduceMul, Int.reduceNeg, Int.reduceToNat, Int.reduceLE, Int.reduceLT, Int.reduceEq, Int.reduceNe, Int.reduceNatCast, Nat.add_zero, Nat.zero_add, reduceCtorEq, Int.reduceNatCast', wp_c, wp_g, e2_ifCond, e2_if_icmp, ↓bq_t, ↓bq_f, ab_br, ↓ab_b1_s, ↓ab_b2_s, ↓ab_l1_s, ↓ab_l2_s, ↓ab_li_s, ↓ab_o1_s, ↓ab_io_s, ↓ab_lo1_s, ↓ab_iio_s, ↓ab_lio_s, ↓ab_cp5_s, moX12_feed, dX12_feed_0, dal_0, dX12_feed_1, dg2_12_188_0, dX12_feed_4, dX12_feed_6, dX12_feed_7, dX12_feed_10, dX12_feed_13, dX12_feed_14, dX12_feed_15, dX12_feed_16, dis_6, dX12_feed_18, dil_6, dX12_feed_20, dX12_feed_22, dX12_feed_25, dX12_feed_27, dX12_feed_28, dX12_feed_31, dil_1, dX12_feed_32, dX12_feed_35, dX12_feed_37, dX12_feed_39, dX12_feed_42, dil_2, dX12_feed_43, dX12_feed_46, dX12_feed_48, dX12_feed_50, dX12_feed_53, dil_3, dX12_feed_54, dX12_feed_57, dX12_feed_59, dX12_feed_61, dX12_feed_64, dil_4, dX12_feed_66, dX12_feed_69, dil_5, dX12_feed_71, dis_7, dX12_feed_73, dX12_feed_74, dg2_12_66_0, dX12_feed_77, dX12_feed_78, dX12_feed_81, dil_7, dX12_feed_83, dX12_feed_85, dX12_feed_87, dX12_feed_89, dX12_feed_90, dX12_feed_91, dX12_feed_92, dX12_feed_93, dX12_feed_94, dX12_feed_95, dX12_feed_96, dX12_feed_97, dX12_feed_98, dX12_feed_101, dX12_feed_102, dX12_feed_103, dp2_12_188_0, dX12_feed_106, dinc_6, dX12_feed_109, dX12_feed_112, dX12_feed_113, dX12_feed_116, das2_15, y2]
    repeat' (with_reducible (first | apply And.intro | intro _))
    all_goals first | omega | exact k0
  apply hG [9999] 40
  simp only [cq_lt, cq_le, cq_gt, cq_ge, cq_eq, cq_r1, cq_r2, ab_r32, ab_r64, ab_go, ab_stp, wp_z, ab_in, ab_rok, ab_wsum, ab_prm, ab_ret, ab_sw, ab_cd, ab_tg, ab_cat_i, ab_cat_l, ab_cat_r, ab_cl_n, ab_cl_i, ab_cl_l, ab_cl_r, ab_f2_0, ab_f2_1, ab_f4_0, ab_f4_1, ab_f4_2, ab_f4_3, ab_op_s, ab_b1_s, ab_b2_s, ab_l1_s, ab_l2_s, ab_li_s, ab_o1_s, ab_io_s, ab_lo1_s, ab_iio_s, ab_lio_s, ab_cp5_s, ab_d2_l, ab_d2_i, ab_d2_o, ex_iconst, ex_bipush, ex_sipush, ex_lconst, ex_ldc, ex_ldc_w, ex_ldc2_w, ex_iadd, ex_isub, ex_imul, ex_iand, ex_ior, ex_ixor, ex_ishl, ex_ishr, ex_iushr, ex_idiv, ex_irem, ex_ladd, ex_lsub, ex_lmul, ex_lor, ex_ldiv, ex_lrem, ex_lshl, ex_lcmp, ex_ineg, ex_lneg, ex_i2l, ex_l2i, ex_i2b, ex_dup, ex_pop, ex_dup2, ex_goto, ex_tableswitch, ex_aaload, ex_ireturn, ex_lreturn, ex_return_, List.map_cons, List.map_nil, List.sum_cons, List.sum_nil, List.drop_succ_cons, List.drop_zero, List.take_succ_cons, List.take_zero, List.reverse_cons, List.reverse_nil, List.nil_append, List.cons_append, List.length_cons, List.length_nil, true_and, and_true, cond_false, cond_true, Bool.false_or, Bool.or_false, Bool.or_true, Bool.true_or, true_or, or_true, false_or, or_false, if_true, if_false, reduceIte, ite_true, ite_false, implies_true, true_implies, false_implies, forall_const, not_true_eq_false, not_false_eq_true, Nat.reduceAdd, Nat.reduceMul, Nat.reduceSub, Nat.reduceBEq, Nat.reduceEqDiff, Nat.reduceLeDiff, Nat.reduceLT, Int.reduceAdd, Int.reduceSub, Int.reduceMul, Int.reduceNeg, Int.reduceToNat, Int.reduceLE, Int.reduceLT, Int.reduceEq, Int.reduceNe, Int.reduceNatCast, Nat.add_zero, Nat.zero_add, reduceCtorEq, Int.reduceNatCast', wp_c, wp_g, e2_ifCond, e2_if_icmp, ↓bq_t, ↓bq_f, ab_br, ↓ab_b1_s, ↓ab_b2_s, ↓ab_l1_s, ↓ab_l2_s, ↓ab_li_s, ↓ab_o1_s, ↓ab_io_s, ↓ab_lo1_s, ↓ab_iio_s, ↓ab_lio_s, ↓ab_cp5_s, moX11_feed, dX11_feed_0, dal_0, dX11_feed_1, dg1_11_10_0, dX11_feed_4, dg1_11_111_1, dX11_feed_7, dX11_feed_9, dX11_feed_10, dX11_feed_13, dX11_feed_16, dX11_feed_17, dX11_feed_18, dX11_feed_19, dX11_feed_22, dil_1, dX11_feed_23, dv1_11_114_1, moX6_append, dX11_feed_26, dX11_feed_27, dX11_feed_30, dil_2, dX11_feed_31, dX11_feed_34, dX11_feed_35, dX11_feed_38, dil_3, dX11_feed_39, dX11_feed_42, dX11_feed_43, dX11_feed_46, dil_4, dX11_feed_48, dX11_feed_51, dX11_feed_52, dX11_feed_55, dil_5, dX11_feed_57, dX11_feed_60, dX11_feed_61, dX11_feed_64, dX11_feed_67]
  repeat' (with_reducible (first | apply And.intro | intro _))
  all_goals first | omega | exact no (by omega) | skip
  refine r_appends ha (by omega) (W := zWd a b c d e) (m := 0) rfl (by omega) (zApk_0 ω _) (fun ω1 h1 => ?_)
  try simp only [cq_lt, cq_le, cq_gt, cq_ge, cq_eq, cq_r1, cq_r2, ab_r32, ab_r64, ab_go, ab_stp, wp_z, ab_in, ab_rok, ab_wsum, ab_prm, ab_ret, ab_sw, ab_cd, ab_tg, ab_cat_i, ab_cat_l, ab_cat_r, ab_cl_n, ab_cl_i, ab_cl_l, ab_cl_r, ab_f2_0, ab_f2_1, ab_f4_0, ab_f4_1, ab_f4_2, ab_f4_3, ab_op_s, ab_b1_s, ab_b2_s, ab_l1_s, ab_l2_s, ab_li_s, ab_o1_s, ab_io_s, ab_lo1_s, ab_iio_s, ab_lio_s, ab_cp5_s, ab_d2_l, ab_d2_i, ab_d2_o, ex_iconst, ex_bipush, ex_sipush, ex_lconst, ex_ldc, ex_ldc_w, ex_ldc2_w, ex_iadd, ex_isub, ex_imul, ex_iand, ex_ior, ex_ixor, ex_ishl, ex_ishr, ex_iushr, ex_idiv, ex_irem, ex_ladd, ex_lsub, ex_lmul, ex_lor, ex_ldiv, ex_lrem, ex_lshl, ex_lcmp, ex_ineg, ex_lneg, ex_i2l, ex_l2i, ex_i2b, ex_dup, ex_pop, ex_dup2, ex_goto, ex_tableswitch, ex_aaload, ex_ireturn, ex_lreturn, ex_return_, List.map_cons, List.map_nil, List.sum_cons, List.sum_nil, List.drop_succ_cons, List.drop_zero, List.take_succ_cons, List.take_zero, List.reverse_cons, List.reverse_nil, List.nil_append, List.cons_append, List.length_cons, List.length_nil, true_and, and_true, cond_false, cond_true, Bool.false_or, Bool.or_false, Bool.or_true, Bool.true_or, true_or, or_true, false_or, or_false, if_true, if_false, reduceIte, ite_true, ite_false, implies_true, true_implies, false_implies, forall_const, not_true_eq_false, not_false_eq_true, Nat.reduceAdd, Nat.reduceMul, Nat.reduceSub, Nat.reduceBEq, Nat.reduceEqDiff, Nat.reduceLeDiff, Nat.reduceLT, Int.reduceAdd, Int.reduceSub, Int.reduceMul, Int.reduceNeg, Int.reduceToNat, Int.reduceLE, Int.reduceLT, Int.reduceEq, Int.reduceNe, Int.reduceNatCast, Nat.add_zero, Nat.zero_add, reduceCtorEq, Int.reduceNatCast', wp_c, wp_g, e2_ifCond, e2_if_icmp, ↓bq_t, ↓bq_f, ab_br, ↓ab_b1_s, ↓ab_b2_s, ↓ab_l1_s, ↓ab_l2_s, ↓ab_li_s, ↓ab_o1_s, ↓ab_io_s, ↓ab_lo1_s, ↓ab_iio_s, ↓ab_lio_s, ↓ab_cp5_s, moX11_feed, dX11_feed_0, dal_0, dX11_feed_1, dg1_11_10_0, dX11_feed_4, dg1_11_111_1, dX11_feed_7, dX11_feed_9, dX11_feed_10, dX11_feed_13, dX11_feed_16, dX11_feed_17, dX11_feed_18, dX11_feed_19, dX11_feed_22, dil_1, dX11_feed_23, dv1_11_114_1, moX6_append, dX11_feed_26, dX11_feed_27, dX11_feed_30, dil_2, dX11_feed_31, dX11_feed_34, dX11_feed_35, dX11_feed_38, dil_3, dX11_feed_39, dX11_feed_42, dX11_feed_43, dX11_feed_46, dil_4, dX11_feed_48, dX11_feed_51, dX11_feed_52, dX11_feed_55, dil_5, dX11_feed_57, dX11_feed_60, dX11_feed_61, dX11_feed_64, dX11_feed_67]
  refine r_appends hb (by omega) rfl (by omega) h1 (fun ω2 h2 => ?_)
  try simp only [cq_lt, cq_le, cq_gt, cq_ge, cq_eq, cq_r1, cq_r2, ab_r32, ab_r64, ab_go, ab_stp, wp_z, ab_in, ab_rok, ab_wsum, ab_prm, ab_ret, ab_sw, ab_cd, ab_tg, ab_cat_i, ab_cat_l, ab_cat_r, ab_cl_n, ab_cl_i, ab_cl_l, ab_cl_r, ab_f2_0, ab_f2_1, ab_f4_0, ab_f4_1, ab_f4_2, ab_f4_3, ab_op_s, ab_b1_s, ab_b2_s, ab_l1_s, ab_l2_s, ab_li_s, ab_o1_s, ab_io_s, ab_lo1_s, ab_iio_s, ab_lio_s, ab_cp5_s, ab_d2_l, ab_d2_i, ab_d2_o, ex_iconst, ex_bipush, ex_sipush, ex_lconst, ex_ldc, ex_ldc_w, ex_ldc2_w, ex_iadd, ex_isub, ex_imul, ex_iand, ex_ior, ex_ixor, ex_ishl, ex_ishr, ex_iushr, ex_idiv, ex_irem, ex_ladd, ex_lsub, ex_lmul, ex_lor, ex_ldiv, ex_lrem, ex_lshl, ex_lcmp, ex_ineg, ex_lneg, ex_i2l, ex_l2i, ex_i2b, ex_dup, ex_pop, ex_dup2, ex_goto, ex_tableswitch, ex_aaload, ex_ireturn, ex_lreturn, ex_return_, List.map_cons, List.map_nil, List.sum_cons, List.sum_nil, List.drop_succ_cons, List.drop_zero, List.take_succ_cons, List.take_zero, List.reverse_cons, List.reverse_nil, List.nil_append, List.cons_append, List.length_cons, List.length_nil, true_and, and_true, cond_false, cond_true, Bool.false_or, Bool.or_false, Bool.or_true, Bool.true_or, true_or, or_true, false_or, or_false, if_true, if_false, reduceIte, ite_true, ite_false, implies_true, true_implies, false_implies, forall_const, not_true_eq_false, not_false_eq_true, Nat.reduceAdd, Nat.reduceMul, Nat.reduceSub, Nat.reduceBEq, Nat.reduceEqDiff, Nat.reduceLeDiff, Nat.reduceLT, Int.reduceAdd, Int.reduceSub, Int.reduceMul, Int.reduceNeg, Int.reduceToNat, Int.reduceLE, Int.reduceLT, Int.reduceEq, Int.reduceNe, Int.reduceNatCast, Nat.add_zero, Nat.zero_add, reduceCtorEq, Int.reduceNatCast', wp_c, wp_g, e2_ifCond, e2_if_icmp, ↓bq_t, ↓bq_f, ab_br, ↓ab_b1_s, ↓ab_b2_s, ↓ab_l1_s, ↓ab_l2_s, ↓ab_li_s, ↓ab_o1_s, ↓ab_io_s, ↓ab_lo1_s, ↓ab_iio_s, ↓ab_lio_s, ↓ab_cp5_s, moX11_feed, dX11_feed_0, dal_0, dX11_feed_1, dg1_11_10_0, dX11_feed_4, dg1_11_111_1, dX11_feed_7, dX11_feed_9, dX11_feed_10, dX11_feed_13, dX11_feed_16, dX11_feed_17, dX11_feed_18, dX11_feed_19, dX11_feed_22, dil_1, dX11_feed_23, dv1_11_114_1, moX6_append, dX11_feed_26, dX11_feed_27, dX11_feed_30, dil_2, dX11_feed_31, dX11_feed_34, dX11_feed_35, dX11_feed_38, dil_3, dX11_feed_39, dX11_feed_42, dX11_feed_43, dX11_feed_46, dil_4, dX11_feed_48, dX11_feed_51, dX11_feed_52, dX11_feed_55, dil_5, dX11_feed_57, dX11_feed_60, dX11_feed_61, dX11_feed_64, dX11_feed_67]
  refine r_appends hc (by omega) rfl (by omega) h2 (fun ω3 h3 => ?_)
  try simp only [cq_lt, cq_le, cq_gt, cq_ge, cq_eq, cq_r1, cq_r2, ab_r32, ab_r64, ab_go, ab_stp, wp_z, ab_in, ab_rok, ab_wsum, ab_prm, ab_ret, ab_sw, ab_cd, ab_tg, ab_cat_i, ab_cat_l, ab_cat_r, ab_cl_n, ab_cl_i, ab_cl_l, ab_cl_r, ab_f2_0, ab_f2_1, ab_f4_0, ab_f4_1, ab_f4_2, ab_f4_3, ab_op_s, ab_b1_s, ab_b2_s, ab_l1_s, ab_l2_s, ab_li_s, ab_o1_s, ab_io_s, ab_lo1_s, ab_iio_s, ab_lio_s, ab_cp5_s, ab_d2_l, ab_d2_i, ab_d2_o, ex_iconst, ex_bipush, ex_sipush, ex_lconst, ex_ldc, ex_ldc_w, ex_ldc2_w, ex_iadd, ex_isub, ex_imul, ex_iand, ex_ior, ex_ixor, ex_ishl, ex_ishr, ex_iushr, ex_idiv, ex_irem, ex_ladd, ex_lsub, ex_lmul, ex_lor, ex_ldiv, ex_lrem, ex_lshl, ex_lcmp, ex_ineg, ex_lneg, ex_i2l, ex_l2i, ex_i2b, ex_dup, ex_pop, ex_dup2, ex_goto, ex_tableswitch, ex_aaload, ex_ireturn, ex_lreturn, ex_return_, List.map_cons, List.map_nil, List.sum_cons, List.sum_nil, List.drop_succ_cons, List.drop_zero, List.take_succ_cons, List.take_zero, List.reverse_cons, List.reverse_nil, List.nil_append, List.cons_append, List.length_cons, List.length_nil, true_and, and_true, cond_false, cond_true, Bool.false_or, Bool.or_false, Bool.or_true, Bool.true_or, true_or, or_true, false_or, or_false, if_true, if_false, reduceIte, ite_true, ite_false, implies_true, true_implies, false_implies, forall_const, not_true_eq_false, not_false_eq_true, Nat.reduceAdd, Nat.reduceMul, Nat.reduceSub, Nat.reduceBEq, Nat.reduceEqDiff, Nat.reduceLeDiff, Nat.reduceLT, Int.reduceAdd, Int.reduceSub, Int.reduceMul, Int.reduceNeg, Int.reduceToNat, Int.reduceLE, Int.reduceLT, Int.reduceEq, Int.reduceNe, Int.reduceNatCast, Nat.add_zero, Nat.zero_add, reduceCtorEq, Int.reduceNatCast', wp_c, wp_g, e2_ifCond, e2_if_icmp, ↓bq_t, ↓bq_f, ab_br, ↓ab_b1_s, ↓ab_b2_s, ↓ab_l1_s, ↓ab_l2_s, ↓ab_li_s, ↓ab_o1_s, ↓ab_io_s, ↓ab_lo1_s, ↓ab_iio_s, ↓ab_lio_s, ↓ab_cp5_s, moX11_feed, dX11_feed_0, dal_0, dX11_feed_1, dg1_11_10_0, dX11_feed_4, dg1_11_111_1, dX11_feed_7, dX11_feed_9, dX11_feed_10, dX11_feed_13, dX11_feed_16, dX11_feed_17, dX11_feed_18, dX11_feed_19, dX11_feed_22, dil_1, dX11_feed_23, dv1_11_114_1, moX6_append, dX11_feed_26, dX11_feed_27, dX11_feed_30, dil_2, dX11_feed_31, dX11_feed_34, dX11_feed_35, dX11_feed_38, dil_3, dX11_feed_39, dX11_feed_42, dX11_feed_43, dX11_feed_46, dil_4, dX11_feed_48, dX11_feed_51, dX11_feed_52, dX11_feed_55, dil_5, dX11_feed_57, dX11_feed_60, dX11_feed_61, dX11_feed_64, dX11_feed_67]
  refine r_appends hd (by omega) rfl (by omega) h3 (fun ω4 h4 => ?_)
  try simp only [cq_lt, cq_le, cq_gt, cq_ge, cq_eq, cq_r1, cq_r2, ab_r32, ab_r64, ab_go, ab_stp, wp_z, ab_in, ab_rok, ab_wsum, ab_prm, ab_ret, ab_sw, ab_cd, ab_tg, ab_cat_i, ab_cat_l, ab_cat_r, ab_cl_n, ab_cl_i, ab_cl_l, ab_cl_r, ab_f2_0, ab_f2_1, ab_f4_0, ab_f4_1, ab_f4_2, ab_f4_3, ab_op_s, ab_b1_s, ab_b2_s, ab_l1_s, ab_l2_s, ab_li_s, ab_o1_s, ab_io_s, ab_lo1_s, ab_iio_s, ab_lio_s, ab_cp5_s, ab_d2_l, ab_d2_i, ab_d2_o, ex_iconst, ex_bipush, ex_sipush, ex_lconst, ex_ldc, ex_ldc_w, ex_ldc2_w, ex_iadd, ex_isub, ex_imul, ex_iand, ex_ior, ex_ixor, ex_ishl, ex_ishr, ex_iushr, ex_idiv, ex_irem, ex_ladd, ex_lsub, ex_lmul, ex_lor, ex_ldiv, ex_lrem, ex_lshl, ex_lcmp, ex_ineg, ex_lneg, ex_i2l, ex_l2i, ex_i2b, ex_dup, ex_pop, ex_dup2, ex_goto, ex_tableswitch, ex_aaload, ex_ireturn, ex_lreturn, ex_return_, List.map_cons, List.map_nil, List.sum_cons, List.sum_nil, List.drop_succ_cons, List.drop_zero, List.take_succ_cons, List.take_zero, List.reverse_cons, List.reverse_nil, List.nil_append, List.cons_append, List.length_cons, List.length_nil, true_and, and_true, cond_false, cond_true, Bool.false_or, Bool.or_false, Bool.or_true, Bool.true_or, true_or, or_true, false_or, or_false, if_true, if_false, reduceIte, ite_true, ite_false, implies_true, true_implies, false_implies, forall_const, not_true_eq_false, not_false_eq_true, Nat.reduceAdd, Nat.reduceMul, Nat.reduceSub, Nat.reduceBEq, Nat.reduceEqDiff, Nat.reduceLeDiff, Nat.reduceLT, Int.reduceAdd, Int.reduceSub, Int.reduceMul, Int.reduceNeg, Int.reduceToNat, Int.reduceLE, Int.reduceLT, Int.reduceEq, Int.reduceNe, Int.reduceNatCast, Nat.add_zero, Nat.zero_add, reduceCtorEq, Int.reduceNatCast', wp_c, wp_g, e2_ifCond, e2_if_icmp, ↓bq_t, ↓bq_f, ab_br, ↓ab_b1_s, ↓ab_b2_s, ↓ab_l1_s, ↓ab_l2_s, ↓ab_li_s, ↓ab_o1_s, ↓ab_io_s, ↓ab_lo1_s, ↓ab_iio_s, ↓ab_lio_s, ↓ab_cp5_s, moX11_feed, dX11_feed_0, dal_0, dX11_feed_1, dg1_11_10_0, dX11_feed_4, dg1_11_111_1, dX11_feed_7, dX11_feed_9, dX11_feed_10, dX11_feed_13, dX11_feed_16, dX11_feed_17, dX11_feed_18, dX11_feed_19, dX11_feed_22, dil_1, dX11_feed_23, dv1_11_114_1, moX6_append, dX11_feed_26, dX11_feed_27, dX11_feed_30, dil_2, dX11_feed_31, dX11_feed_34, dX11_feed_35, dX11_feed_38, dil_3, dX11_feed_39, dX11_feed_42, dX11_feed_43, dX11_feed_46, dil_4, dX11_feed_48, dX11_feed_51, dX11_feed_52, dX11_feed_55, dil_5, dX11_feed_57, dX11_feed_60, dX11_feed_61, dX11_feed_64, dX11_feed_67]
  refine r_appends he (by omega) rfl (by omega) h4 (fun ω5 h5 => ?_)
  try simp only [cq_lt, cq_le, cq_gt, cq_ge, cq_eq, cq_r1, cq_r2, ab_r32, ab_r64, ab_go, ab_stp, wp_z, ab_in, ab_rok, ab_wsum, ab_prm, ab_ret, ab_sw, ab_cd, ab_tg, ab_cat_i, ab_cat_l, ab_cat_r, ab_cl_n, ab_cl_i, ab_cl_l, ab_cl_r, ab_f2_0, ab_f2_1, ab_f4_0, ab_f4_1, ab_f4_2, ab_f4_3, ab_op_s, ab_b1_s, ab_b2_s, ab_l1_s, ab_l2_s, ab_li_s, ab_o1_s, ab_io_s, ab_lo1_s, ab_iio_s, ab_lio_s, ab_cp5_s, ab_d2_l, ab_d2_i, ab_d2_o, ex_iconst, ex_bipush, ex_sipush, ex_lconst, ex_ldc, ex_ldc_w, ex_ldc2_w, ex_iadd, ex_isub, ex_imul, ex_iand, ex_ior, ex_ixor, ex_ishl, ex_ishr, ex_iushr, ex_idiv, ex_irem, ex_ladd, ex_lsub, ex_lmul, ex_lor, ex_ldiv, ex_lrem, ex_lshl, ex_lcmp, ex_ineg, ex_lneg, ex_i2l, ex_l2i, ex_i2b, ex_dup, ex_pop, ex_dup2, ex_goto, ex_tableswitch, ex_aaload, ex_ireturn, ex_lreturn, ex_return_, List.map_cons, List.map_nil, List.sum_cons, List.sum_nil, List.drop_succ_cons, List.drop_zero, List.take_succ_cons, List.take_zero, List.reverse_cons, List.reverse_nil, List.nil_append, List.cons_append, List.length_cons, List.length_nil, true_and, and_true, cond_false, cond_true, Bool.false_or, Bool.or_false, Bool.or_true, Bool.true_or, true_or, or_true, false_or, or_false, if_true, if_false, reduceIte, ite_true, ite_false, implies_true, true_implies, false_implies, forall_const, not_true_eq_false, not_false_eq_true, Nat.reduceAdd, Nat.reduceMul, Nat.reduceSub, Nat.reduceBEq, Nat.reduceEqDiff, Nat.reduceLeDiff, Nat.reduceLT, Int.reduceAdd, Int.reduceSub, Int.reduceMul, Int.reduceNeg, Int.reduceToNat, Int.reduceLE, Int.reduceLT, Int.reduceEq, Int.reduceNe, Int.reduceNatCast, Nat.add_zero, Nat.zero_add, reduceCtorEq, Int.reduceNatCast', wp_c, wp_g, e2_ifCond, e2_if_icmp, ↓bq_t, ↓bq_f, ab_br, ↓ab_b1_s, ↓ab_b2_s, ↓ab_l1_s, ↓ab_l2_s, ↓ab_li_s, ↓ab_o1_s, ↓ab_io_s, ↓ab_lo1_s, ↓ab_iio_s, ↓ab_lio_s, ↓ab_cp5_s, moX11_feed, dX11_feed_0, dal_0, dX11_feed_1, dg1_11_10_0, dX11_feed_4, dg1_11_111_1, dX11_feed_7, dX11_feed_9, dX11_feed_10, dX11_feed_13, dX11_feed_16, dX11_feed_17, dX11_feed_18, dX11_feed_19, dX11_feed_22, dil_1, dX11_feed_23, dv1_11_114_1, moX6_append, dX11_feed_26, dX11_feed_27, dX11_feed_30, dil_2, dX11_feed_31, dX11_feed_34, dX11_feed_35, dX11_feed_38, dil_3, dX11_feed_39, dX11_feed_42, dX11_feed_43, dX11_feed_46, dil_4, dX11_feed_48, dX11_feed_51, dX11_feed_52, dX11_feed_55, dil_5, dX11_feed_57, dX11_feed_60, dX11_feed_61, dX11_feed_64, dX11_feed_67]
  have e5 : ω5 1 1 = ω 1 1 + 20 := h5.2.2.1
  rw [e5]
  exact M (by omega) ω5 h5
