-- BITS of the machine's words as numbers
theorem z_sl : ∀ n : Nat, n < 32 → ((nI n &&& 31).toBitVec.smod 32).toNat = n := by decide +kernel
theorem z_or32 (a b : Nat) : nI a ||| nI b = nI (a ||| b) := by
  apply Int32.toBitVec_inj.1
  show BitVec.ofNat 32 a ||| BitVec.ofNat 32 b = BitVec.ofNat 32 (a ||| b)
  apply BitVec.eq_of_getLsbD_eq
  intro i hi
  simp [hi]
theorem z_of (n : Nat) : Int32.ofInt (n : Int) = nI n := rfl
theorem z_shrN {n k : Nat} (hn : n < 2 ^ 31) (hk : k < 31) : ab_shr (n : Int) (k : Int) = ((n / 2 ^ k : Nat) : Int) := by
  unfold ab_shr
  rw [z_of, z_of, pk_shrN hn (nI k &&& 31) k (z_sl k (by omega)), nI_toInt (Nat.lt_of_le_of_lt (Nat.div_le_self _ _) hn)]
theorem z_shr4 {x : Int} (hx : 0 ≤ x ∧ x ≤ 2147483647) : ab_shr x 4 = x / 16 := by
  have h := z_shrN (n := x.toNat) (k := 4) (by omega) (by omega)
  rw [show ((x.toNat : Nat) : Int) = x by omega] at h
  rw [show (4 : Int) = ((4 : Nat) : Int) from rfl, h]
  omega
theorem z_andN {n k : Nat} (hn : n < 2 ^ 31) {m : Int} (hm : (Int32.ofInt m).toBitVec.toNat = 2 ^ k - 1) : ab_and (n : Int) m = ((n % 2 ^ k : Nat) : Int) := by
  unfold ab_and
  rw [z_of, pk_andN (by omega) k hm, nI_toInt (Nat.lt_of_le_of_lt (Nat.mod_le _ _) hn)]
theorem z_and15 {x : Int} (hx : 0 ≤ x ∧ x ≤ 2147483647) : ab_and x 15 = x % 16 := by
  have h := z_andN (n := x.toNat) (k := 4) (m := 15) (by omega) (by decide +kernel)
  rw [show ((x.toNat : Nat) : Int) = x by omega] at h
  rw [h]
  omega
theorem z_and1 {x : Int} (hx : 0 ≤ x ∧ x ≤ 2147483647) : ab_and x 1 = x % 2 := by
  have h := z_andN (n := x.toNat) (k := 1) (m := 1) (by omega) (by decide +kernel)
  rw [show ((x.toNat : Nat) : Int) = x by omega] at h
  rw [h]
  omega
def zor (x y : Int) : Int := ((x.toNat ||| y.toNat : Nat) : Int)
theorem z_or {x y : Int} (hx : 0 ≤ x ∧ x ≤ 2147483647) (hy : 0 ≤ y ∧ y ≤ 2147483647) : ab_or x y = zor x y := by
  unfold ab_or zor
  have e1 : Int32.ofInt x = nI x.toNat := by rw [← z_of, show ((x.toNat : Nat) : Int) = x by omega]
  have e2 : Int32.ofInt y = nI y.toNat := by rw [← z_of, show ((y.toNat : Nat) : Int) = y by omega]
  rw [e1, e2, z_or32, nI_toInt]
  exact Nat.or_lt_two_pow (by omega) (by omega)
theorem z_shl1N {k : Nat} (hk : k < 31) : ab_shl 1 (k : Int) = ((2 ^ k : Nat) : Int) := by
  unfold ab_shl
  have h1 : 2 ^ k < 2 ^ 31 := Nat.pow_lt_pow_right (by omega) hk
  rw [z_of, show Int32.ofInt 1 = nI 1 from rfl, pk_shlN (nI k &&& 31) k (z_sl k (by omega)) (by omega), Nat.one_mul, nI_toInt h1]
/-- 2 to the j, for the four sellers -/
def zp2 (j : Int) : Int := if j = 0 then 1 else if j = 1 then 2 else if j = 2 then 4 else 8
theorem z_shl1 {j : Int} (hj : 0 ≤ j ∧ j < 4) : ab_shl 1 j = zp2 j := by
  rcases (show j = 0 ∨ j = 1 ∨ j = 2 ∨ j = 3 by omega) with rfl | rfl | rfl | rfl <;> decide +kernel
theorem zp2_b4 {j : Int} (hj : 0 ≤ j ∧ j < 4) : zp2 j = zb4 (fun i => decide (i = j)) := by
  rcases (show j = 0 ∨ j = 1 ∨ j = 2 ∨ j = 3 by omega) with rfl | rfl | rfl | rfl <;> decide +kernel
theorem zp2_in {j : Int} : 1 ≤ zp2 j ∧ zp2 j ≤ 8 := by
  unfold zp2
  repeat' split
  all_goals omega
def zbm (a b c d : Bool) : Int := (if a then 1 else 0) + (if b then 2 else 0) + (if c then 4 else 0) + (if d then 8 else 0)
theorem zb4_bm (p : Int → Bool) : zb4 p = zbm (p 0) (p 1) (p 2) (p 3) := rfl
theorem zor_bm : ∀ a b c d e f g h : Bool, zor (zbm a b c d) (zbm e f g h) = zbm (a || e) (b || f) (c || g) (d || h) := by decide +kernel
theorem zor_b4 (p q : Int → Bool) : zor (zb4 p) (zb4 q) = zb4 (fun j => p j || q j) := by
  rw [zb4_bm, zb4_bm, zb4_bm, zor_bm]
theorem zor_16 {c a b : Int} (hc : 0 ≤ c) (ha : 0 ≤ a ∧ a < 16) (hb : 0 ≤ b ∧ b < 16) : zor (16 * c + a) (16 * c + b) = 16 * c + zor a b := by
  unfold zor
  have e1 : (16 * c + a).toNat = 2 ^ 4 * c.toNat + a.toNat := by omega
  have e2 : (16 * c + b).toNat = 2 ^ 4 * c.toNat + b.toNat := by omega
  rw [e1, e2, Nat.two_pow_add_eq_or_of_lt (by omega), Nat.two_pow_add_eq_or_of_lt (by omega)]
  have e3 : 2 ^ 4 * c.toNat ||| a.toNat ||| (2 ^ 4 * c.toNat ||| b.toNat) = 2 ^ 4 * c.toNat ||| (a.toNat ||| b.toNat) := by
    apply Nat.eq_of_testBit_eq
    intro i
    simp only [Nat.testBit_or]
    cases (2 ^ 4 * c.toNat).testBit i <;> cases a.toNat.testBit i <;> cases b.toNat.testBit i <;> rfl
  have e4 : a.toNat ||| b.toNat < 2 ^ 4 := Nat.or_lt_two_pow (by omega) (by omega)
  rw [e3, ← Nat.two_pow_add_eq_or_of_lt e4]
  omega
/-- bit j of a number of four bits -/
theorem z_bit {p : Int → Bool} {j : Int} (hj : 0 ≤ j ∧ j < 4) : ab_and (ab_shr (zb4 p) j) 1 = if p j then 1 else 0 := by
  have key : ∀ a b c d : Bool, ab_and (ab_shr (zbm a b c d) 0) 1 = (if a then 1 else 0) ∧ ab_and (ab_shr (zbm a b c d) 1) 1 = (if b then 1 else 0) ∧ ab_and (ab_shr (zbm a b c d) 2) 1 = (if c then 1 else 0) ∧ ab_and (ab_shr (zbm a b c d) 3) 1 = (if d then 1 else 0) := by decide +kernel
  have k := key (p 0) (p 1) (p 2) (p 3)
  rw [zb4_bm]
  rcases (show j = 0 ∨ j = 1 ∨ j = 2 ∨ j = 3 by omega) with rfl | rfl | rfl | rfl
  · exact k.1
  · exact k.2.1
  · exact k.2.2.1
  · exact k.2.2.2
/-- how many bits -/
def zpop (m : Int) : Int := m % 2 + m / 2 % 2 + m / 4 % 2 + m / 8 % 2
set_option maxRecDepth 100000 in
set_option maxHeartbeats 4000000 in
theorem r_bitCount {Γ : List ab_O} {σ : ab_S} {m : Int} {K : ab_V → ab_S → Prop} (hm : 0 ≤ m ∧ m < 16) (h : K (vI (zpop m)) σ) : ab_Runs Γ mdJ6_bitCount_0f7a4 [vI m] σ K := by
  refine ab_runs mwJ6_bitCount_0f7a4 (by decide +kernel) (Nat.le_of_ble_eq_true rfl) (fun G hG => ?_)
  show G 0 [some (vI m)] [] _
  apply hG [] 60
  simp only [cq_lt, cq_le, cq_gt, cq_ge, cq_eq, cq_r1, cq_r2, ab_r32, ab_r64, ab_go, ab_stp, wp_z, wp_s, ab_in, ab_gv, ab_psh, ab_rok, ab_wsum, ab_prm, ab_ret, ab_sw, ab_cd, ab_tg, ab_cat_i, ab_cat_l, ab_cat_r, ab_cl_n, ab_cl_i, ab_cl_l, ab_cl_r, ab_f2_0, ab_f2_1, ab_f4_0, ab_f4_1, ab_f4_2, ab_f4_3, ab_op_s, ab_gI_s, ab_gL_s, ab_gR_s, ab_b1_s, ab_b2_s, ab_l1_s, ab_l2_s, ab_li_s, ab_o1_s, ab_io_s, ab_lo1_s, ab_iio_s, ab_lio_s, ab_cp5_s, ab_d2_l, ab_d2_i, ab_d2_o, ex_iconst, ex_bipush, ex_sipush, ex_lconst, ex_ldc, ex_ldc_w, ex_ldc2_w, ex_iload_n, ex_iload, ex_lload_n, ex_lload, ex_aload_n, ex_aload, ex_istore_n, ex_istore, ex_lstore_n, ex_lstore, ex_iinc, ex_iadd, ex_isub, ex_imul, ex_iand, ex_ior, ex_ixor, ex_ishl, ex_ishr, ex_iushr, ex_idiv, ex_irem, ex_ladd, ex_lsub, ex_lmul, ex_lor, ex_ldiv, ex_lrem, ex_lshl, ex_lcmp, ex_ineg, ex_lneg, ex_i2l, ex_l2i, ex_i2b, ex_dup, ex_pop, ex_dup2, ex_goto, ex_ifCond, ex_if_icmp, ex_tableswitch, ex_getfield, ex_putfield, ex_iaload, ex_laload, ex_baload, ex_iastore, ex_lastore, ex_bastore, ex_aaload, ex_arraylength, ex_invokevirtual, ex_invokestatic, ex_ireturn, ex_lreturn, ex_return_, List.map_cons, List.map_nil, List.sum_cons, List.sum_nil, List.drop_succ_cons, List.drop_zero, List.take_succ_cons, List.take_zero, List.reverse_cons, List.reverse_nil, List.nil_append, List.cons_append, List.length_cons, List.length_nil, true_and, and_true, cond_false, cond_true, Bool.false_or, Bool.or_false, Bool.or_true, Bool.true_or, true_or, or_true, false_or, or_false, if_true, if_false, reduceIte, ite_true, ite_false, implies_true, true_implies, false_implies, forall_const, not_true_eq_false, not_false_eq_true, Nat.reduceAdd, Nat.reduceMul, Nat.reduceSub, Nat.reduceBEq, Nat.reduceEqDiff, Nat.reduceLeDiff, Nat.reduceLT, Int.reduceAdd, Int.reduceSub, Int.reduceMul, Int.reduceNeg, Int.reduceToNat, Int.reduceLE, Int.reduceLT, Int.reduceEq, Int.reduceNe, Int.reduceNatCast, Nat.add_zero, Nat.zero_add, reduceCtorEq, Int.reduceNatCast', moJ6_bitCount_0f7a4, dJ6_bitCount_0f7a4_0, dJ6_bitCount_0f7a4_1, dJ6_bitCount_0f7a4_2, dJ6_bitCount_0f7a4_3, dJ6_bitCount_0f7a4_4, kx26_265, dJ6_bitCount_0f7a4_7, dJ6_bitCount_0f7a4_8, dJ6_bitCount_0f7a4_9, dJ6_bitCount_0f7a4_10, dJ6_bitCount_0f7a4_11, kx26_266, dJ6_bitCount_0f7a4_14, dJ6_bitCount_0f7a4_15, dJ6_bitCount_0f7a4_16, dJ6_bitCount_0f7a4_17, dJ6_bitCount_0f7a4_18, dJ6_bitCount_0f7a4_21, dJ6_bitCount_0f7a4_22, dJ6_bitCount_0f7a4_23, dJ6_bitCount_0f7a4_24, dJ6_bitCount_0f7a4_25, dJ6_bitCount_0f7a4_26, dJ6_bitCount_0f7a4_27, dJ6_bitCount_0f7a4_28, dJ6_bitCount_0f7a4_29, kx26_267, dJ6_bitCount_0f7a4_32, dJ6_bitCount_0f7a4_33, dJ6_bitCount_0f7a4_34, dJ6_bitCount_0f7a4_35, dJ6_bitCount_0f7a4_36, dJ6_bitCount_0f7a4_38, dJ6_bitCount_0f7a4_39, dJ6_bitCount_0f7a4_40, dJ6_bitCount_0f7a4_41, dJ6_bitCount_0f7a4_42, dJ6_bitCount_0f7a4_43, dJ6_bitCount_0f7a4_45, dJ6_bitCount_0f7a4_46, dJ6_bitCount_0f7a4_47, dJ6_bitCount_0f7a4_48, dJ6_bitCount_0f7a4_49, dJ6_bitCount_0f7a4_51, dJ6_bitCount_0f7a4_52, lk_0, st1_0]
  refine Eq.mp (congrArg (fun v => K (Sum.inl v) σ) (?_ : zpop m = _)) h
  rcases (show m = 0 ∨ m = 1 ∨ m = 2 ∨ m = 3 ∨ m = 4 ∨ m = 5 ∨ m = 6 ∨ m = 7 ∨ m = 8 ∨ m = 9 ∨ m = 10 ∨ m = 11 ∨ m = 12 ∨ m = 13 ∨ m = 14 ∨ m = 15 by omega) with rfl | rfl | rfl | rfl | rfl | rfl | rfl | rfl | rfl | rfl | rfl | rfl | rfl | rfl | rfl | rfl <;> decide +kernel
