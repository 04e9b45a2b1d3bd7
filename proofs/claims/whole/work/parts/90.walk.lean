-- MATH: what people walk along a street; CLASS: Walks open, meetCorner, meetStretch, close
def zmn (f : Int → Int) : Nat → Int
  | 0 => f 0
  | n + 1 => min (zmn f n) (f n)
theorem zmn_le (f : Int → Int) : ∀ (n : Nat) (j : Int), 0 ≤ j → j < n → zmn f n ≤ f j
  | 0, j, h0, h1 => by omega
  | n + 1, j, h0, h1 => by
    rw [zmn]
    by_cases e : j = n
    · rw [e]
      omega
    · have := zmn_le f n j h0 (by omega)
      omega
theorem zmn_at (f : Int → Int) : ∀ (n : Nat), 1 ≤ n → ∃ j : Int, 0 ≤ j ∧ j < n ∧ f j = zmn f n
  | 0, h => by omega
  | n + 1, _ => by
    rw [zmn]
    by_cases e : n = 0
    · subst e
      exact ⟨0, by omega, by omega, by show f 0 = min (f 0) (f 0); omega⟩
    · obtain ⟨j, h0, h1, h2⟩ := zmn_at f n (by omega)
      by_cases c : zmn f n ≤ f n
      · exact ⟨j, h0, by omega, by omega⟩
      · exact ⟨n, by omega, by omega, by omega⟩
theorem zmn_eq {f : Int → Int} {n : Nat} {m : Int} (hn : 1 ≤ n) (h1 : ∀ j, 0 ≤ j → j < (n : Int) → m ≤ f j) (h2 : ∃ j, 0 ≤ j ∧ j < (n : Int) ∧ f j = m) : zmn f n = m := by
  obtain ⟨j, a, b, c⟩ := h2
  obtain ⟨i, d, e, g⟩ := zmn_at f n hn
  have := zmn_le f n j a b
  have := h1 i d e
  omega
theorem zmn_Le {f : Int → Int} {n d m : Int} (hn : 1 ≤ n) (h : zLe n f d m) : zmn f n.toNat = m := by
  refine zmn_eq (by omega) (fun j j0 j1 => h.1 j j0 (by omega)) ?_
  rcases h.2 with z | ⟨j, a, b, c⟩
  · omega
  · exact ⟨j, a, by omega, c⟩
theorem zmn_congr {f g : Int → Int} {n : Nat} (hn : 1 ≤ n) (h : ∀ j, 0 ≤ j → j < (n : Int) → f j = g j) : zmn f n = zmn g n := by
  obtain ⟨j, a, b, c⟩ := zmn_at g n hn
  refine zmn_eq hn (fun i i0 i1 => ?_) ⟨j, a, b, by rw [h j a b, c]⟩
  rw [h i i0 i1]
  exact zmn_le g n i i0 i1
/-- half steps from a half place h of street s to a spot p -/
def zHj (ω : ab_S) (s h p : Int) : Int := if 100 ≤ p ∧ (p - 100) / 20 = s then min (min (2 * zRe ω p (ω 8 s) + h) (2 * zRe ω p (ω 9 s) + (2 * ω 10 s - h))) (max (h - 2 * ((p - 100) % 20)) (-(h - 2 * ((p - 100) % 20)))) else min (2 * zRe ω p (ω 8 s) + h) (2 * zRe ω p (ω 9 s) + (2 * ω 10 s - h))
theorem zHj_mid {ω : ab_S} {s t0 t1 p h : Int} (hno : (100 ≤ p ∧ (p - 100) / 20 = s) → ((p - 100) % 20 ≤ t0 ∨ t1 ≤ (p - 100) % 20)) (hh : 2 * t0 ≤ h ∧ h ≤ 2 * t1) : zHj ω s h p = min (zHj ω s (2 * t0) p + (h - 2 * t0)) (zHj ω s (2 * t1) p + (2 * t1 - h)) := by
  unfold zHj
  by_cases c : 100 ≤ p ∧ (p - 100) / 20 = s
  · rw [if_pos c, if_pos c, if_pos c]
    rcases hno c with q | q <;> omega
  · rw [if_neg c, if_neg c, if_neg c]
    omega
theorem zHj_lip {ω : ab_S} {s t0 t1 p : Int} (ht : t0 ≤ t1) : zHj ω s (2 * t1) p ≤ zHj ω s (2 * t0) p + 2 * (t1 - t0) ∧ zHj ω s (2 * t0) p ≤ zHj ω s (2 * t1) p + 2 * (t1 - t0) := by
  unfold zHj
  by_cases c : 100 ≤ p ∧ (p - 100) / 20 = s
  · rw [if_pos c, if_pos c]
    omega
  · rw [if_neg c, if_neg c]
    omega
/-- .. to the nearest of n spots -/
def zHm (ω : ab_S) (n : Nat) (g : Int → Int) (s h : Int) : Int := zmn (fun j => zHj ω s h (g j)) n
theorem zHm_lip {ω : ab_S} {n : Nat} {g : Int → Int} {s t0 t1 : Int} (hn : 1 ≤ n) (ht : t0 ≤ t1) : zHm ω n g s (2 * t1) ≤ zHm ω n g s (2 * t0) + 2 * (t1 - t0) ∧ zHm ω n g s (2 * t0) ≤ zHm ω n g s (2 * t1) + 2 * (t1 - t0) := by
  unfold zHm
  obtain ⟨j, a, b, c⟩ := zmn_at (fun j => zHj ω s (2 * t0) (g j)) n hn
  obtain ⟨i, d, e, f⟩ := zmn_at (fun j => zHj ω s (2 * t1) (g j)) n hn
  have q1 := zmn_le (fun j => zHj ω s (2 * t1) (g j)) n j a b
  have q2 := zmn_le (fun j => zHj ω s (2 * t0) (g j)) n i d e
  have q3 := zHj_lip (ω := ω) (s := s) (p := g j) ht
  have q4 := zHj_lip (ω := ω) (s := s) (p := g i) ht
  try dsimp only at c f q1 q2
  omega
theorem zHm_mid {ω : ab_S} {n : Nat} {g : Int → Int} {s t0 t1 h : Int} (hn : 1 ≤ n) (hno : ∀ j, 0 ≤ j → j < (n : Int) → (100 ≤ g j ∧ (g j - 100) / 20 = s) → ((g j - 100) % 20 ≤ t0 ∨ t1 ≤ (g j - 100) % 20)) (hh : 2 * t0 ≤ h ∧ h ≤ 2 * t1) : zHm ω n g s h = min (zHm ω n g s (2 * t0) + (h - 2 * t0)) (zHm ω n g s (2 * t1) + (2 * t1 - h)) := by
  unfold zHm
  obtain ⟨j, a, b, c⟩ := zmn_at (fun j => zHj ω s (2 * t0) (g j)) n hn
  obtain ⟨i, d, e, f⟩ := zmn_at (fun j => zHj ω s (2 * t1) (g j)) n hn
  have q1 := zmn_le (fun j => zHj ω s (2 * t1) (g j)) n j a b
  have q2 := zmn_le (fun j => zHj ω s (2 * t0) (g j)) n i d e
  have q3 := zHj_mid (ω := ω) (hno j a b) hh
  have q4 := zHj_mid (ω := ω) (hno i d e) hh
  try dsimp only at c f q1 q2
  refine zmn_eq hn (fun k k0 k1 => ?_) ?_
  · have r1 := zmn_le (fun j => zHj ω s (2 * t1) (g j)) n k k0 k1
    have r2 := zmn_le (fun j => zHj ω s (2 * t0) (g j)) n k k0 k1
    have r3 := zHj_mid (ω := ω) (hno k k0 k1) hh
    try dsimp only at r1 r2 ⊢
    omega
  · by_cases z : zmn (fun j => zHj ω s (2 * t0) (g j)) n + (h - 2 * t0) ≤ zmn (fun j => zHj ω s (2 * t1) (g j)) n + (2 * t1 - h)
    · exact ⟨j, a, b, by (try dsimp only); omega⟩
    · exact ⟨i, d, e, by (try dsimp only); omega⟩
theorem zsq (n : Int) : (n + 1) * (n + 1) = n * n + 2 * n + 1 := by
  rw [Int.add_mul, Int.mul_add]
  omega
theorem zml (c n : Int) : c * (n + 1) = c * n + c := by rw [Int.mul_add, Int.mul_one]
theorem zS_up (c : Int) : ∀ n : Nat, zS (fun i => c + (2 * (i : Int) + 1)) n = c * n + n * n
  | 0 => by simp [zS]
  | n + 1 => by
    rw [zS, zS_up c n, Int.natCast_succ, zsq, zml]
    omega
theorem zS_down (c b : Int) : ∀ n : Nat, zS (fun i => c + (2 * (b - (i : Int)) - 1)) n = c * n + 2 * (b * n) - n * n
  | 0 => by simp [zS]
  | n + 1 => by
    rw [zS, zS_down c b n, Int.natCast_succ, zsq, zml, zml]
    omega
theorem zS_tent {H : Nat → Int} {m0 m1 : Int} {L : Nat} (hb : m1 ≤ m0 + L ∧ m0 ≤ m1 + L) (hH : ∀ i : Nat, i ≤ 2 * L → H i = min (2 * m0 + i) (2 * m1 + (2 * L - i))) : zS (fun i => H i + H (i + 1)) (2 * L) = 4 * m0 * (m1 - m0 + L) + (m1 - m0 + L) * (m1 - m0 + L) + 4 * m1 * (2 * L - (m1 - m0 + L)) + (2 * L - (m1 - m0 + L)) * (2 * L - (m1 - m0 + L)) := by
  obtain ⟨a, ha⟩ : ∃ a : Nat, (a : Int) = m1 - m0 + L := ⟨(m1 - m0 + L).toNat, by omega⟩
  obtain ⟨b, hb2⟩ : ∃ b : Nat, (b : Int) = 2 * L - (m1 - m0 + L) := ⟨(2 * L - (m1 - m0 + L)).toNat, by omega⟩
  rw [show 2 * L = a + b by omega, zS_add, ← ha]
  have e1 : zS (fun i => H i + H (i + 1)) a = zS (fun i => 4 * m0 + (2 * (i : Int) + 1)) a := zS_congr (fun i hi => by
    have h1 := hH i (by omega)
    have h2 := hH (i + 1) (by omega)
    omega)
  have e2 : zS (fun i => H (a + i) + H (a + i + 1)) b = zS (fun i => 4 * m1 + (2 * ((b : Int) - (i : Int)) - 1)) b := zS_congr (fun i hi => by
    have h1 := hH (a + i) (by omega)
    have h2 := hH (a + i + 1) (by omega)
    omega)
  rw [e1, e2, zS_up, zS_down]
  have e3 : 2 * (L : Int) - (a : Int) = b := by omega
  rw [e3]
  omega
/-- all that half of a half step's people walk up to half place c -/
def zHu (ω : ab_S) (n : Nat) (g : Int → Int) (s : Int) (c : Nat) : Int := zS (fun i => zHm ω n g s i + zHm ω n g s (i + 1)) c
theorem zHu_add {ω : ab_S} {n : Nat} {g : Int → Int} {s t0 t1 m0 m1 : Int} (hn : 1 ≤ n) (ht : 0 ≤ t0 ∧ t0 ≤ t1) (h0 : zHm ω n g s (2 * t0) = 2 * m0) (h1 : zHm ω n g s (2 * t1) = 2 * m1) (hno : ∀ j, 0 ≤ j → j < (n : Int) → (100 ≤ g j ∧ (g j - 100) / 20 = s) → ((g j - 100) % 20 ≤ t0 ∨ t1 ≤ (g j - 100) % 20)) :
    zHu ω n g s (2 * t1).toNat = zHu ω n g s (2 * t0).toNat + (4 * m0 * (m1 - m0 + (t1 - t0)) + (m1 - m0 + (t1 - t0)) * (m1 - m0 + (t1 - t0)) + 4 * m1 * (2 * (t1 - t0) - (m1 - m0 + (t1 - t0))) + (2 * (t1 - t0) - (m1 - m0 + (t1 - t0))) * (2 * (t1 - t0) - (m1 - m0 + (t1 - t0)))) := by
  have lp := zHm_lip (ω := ω) (g := g) (s := s) hn ht.2
  rw [h0, h1] at lp
  obtain ⟨L, hL⟩ : ∃ L : Nat, (L : Int) = t1 - t0 := ⟨(t1 - t0).toNat, by omega⟩
  obtain ⟨c0, hc0⟩ : ∃ c0 : Nat, (c0 : Int) = 2 * t0 := ⟨(2 * t0).toNat, by omega⟩
  have e1 : (2 * t1).toNat = c0 + 2 * L := by omega
  have e0 : (2 * t0).toNat = c0 := by omega
  rw [e1, e0]
  unfold zHu
  rw [zS_add]
  congr 1
  have key := zS_tent (H := fun i => zHm ω n g s ((c0 + i : Nat) : Int)) (m0 := m0) (m1 := m1) (L := L) (by omega) (fun i hi => by
    have := zHm_mid (ω := ω) (h := ((c0 + i : Nat) : Int)) hn hno (by omega)
    try dsimp only
    rw [this, h0, h1]
    omega)
  rw [hL] at key
  exact key
-- CLASS
/-- only the sum and whether somebody is stranded are otherwise -/
def zW9 (σ ρ : ab_S) : Prop := (∀ o, o ≠ 76 → ρ o = σ o) ∧ ∀ k, k ≠ 9 → k ≠ 10 → ρ 76 k = σ 76 k
theorem zW9_rf (σ : ab_S) : zW9 σ σ := ⟨fun _ _ => rfl, fun _ _ _ => rfl⟩
theorem zW9_tr {σ ρ υ : ab_S} (h1 : zW9 σ ρ) (h2 : zW9 ρ υ) : zW9 σ υ := ⟨fun o ho => (h2.1 o ho).trans (h1.1 o ho), fun k a b => (h2.2 k a b).trans (h1.2 k a b)⟩
theorem zW9_1 (σ : ab_S) {a : Int} (x : Int) (ha : a = 9 ∨ a = 10) : zW9 σ (ab_up σ 76 a x) := by
  refine ⟨fun o ho => ab_up_o o ho, fun k h1 h2 => ?_⟩
  rw [ab_up_eq, ab_set_at, zu_ne _ _ (by omega)]
set_option maxRecDepth 100000 in
set_option maxHeartbeats 4000000 in
theorem r_wOpen {σ : ab_S} {K : ab_V → ab_S → Prop} (h : ∀ ρ, zW9 σ ρ → ρ 76 9 = 0 → ρ 76 10 = 0 → K (vI 0) ρ) : ab_Runs ab_G1 mdX10_open [vR 76] σ K := by
  refine ab_runs mwX10_open (by decide +kernel) (Nat.le_of_ble_eq_true rfl) (fun G hG => ?_)
  show G 0 [some (vR 76)] [] _
  apply hG [9999] 30
  simp only [cq_lt, cq_le, cq_gt, cq_ge, cq_eq, cq_r1, cq_r2, ab_r32, ab_r64, ab_go, ab_stp, wp_z, ab_in, ab_rok, ab_wsum, ab_prm, ab_ret, ab_sw, ab_cd, ab_tg, ab_cat_i, ab_cat_l, ab_cat_r, ab_cl_n, ab_cl_i, ab_cl_l, ab_cl_r, ab_f2_0, ab_f2_1, ab_f4_0, ab_f4_1, ab_f4_2, ab_f4_3, ab_op_s, ab_b1_s, ab_b2_s, ab_l1_s, ab_l2_s, ab_li_s, ab_o1_s, ab_io_s, ab_lo1_s, ab_iio_s, ab_lio_s, ab_cp5_s, ab_d2_l, ab_d2_i, ab_d2_o, ex_iconst, ex_bipush, ex_sipush, ex_lconst, ex_ldc, ex_ldc_w, ex_ldc2_w, ex_iadd, ex_isub, ex_imul, ex_iand, ex_ior, ex_ixor, ex_ishl, ex_ishr, ex_iushr, ex_idiv, ex_irem, ex_ladd, ex_lsub, ex_lmul, ex_lor, ex_ldiv, ex_lrem, ex_lshl, ex_lcmp, ex_ineg, ex_lneg, ex_i2l, ex_l2i, ex_i2b, ex_dup, ex_pop, ex_dup2, ex_goto, ex_tableswitch, ex_aaload, ex_ireturn, ex_lreturn, ex_return_, List.map_cons, List.map_nil, List.sum_cons, List.sum_nil, List.drop_succ_cons, List.drop_zero, List.take_succ_cons, List.take_zero, List.reverse_cons, List.reverse_nil, List.nil_append, List.cons_append, List.length_cons, List.length_nil, true_and, and_true, cond_false, cond_true, Bool.false_or, Bool.or_false, Bool.or_true, Bool.true_or, true_or, or_true, false_or, or_false, if_true, if_false, reduceIte, ite_true, ite_false, implies_true, true_implies, false_implies, forall_const, not_true_eq_false, not_false_eq_true, Nat.reduceAdd, Nat.reduceMul, Nat.reduceSub, Nat.reduceBEq, Nat.reduceEqDiff, Nat.reduceLeDiff, Nat.reduceLT, Int.reduceAdd, Int.reduceSub, Int.reduceMul, Int.reduceNeg, Int.reduceToNat, Int.reduceLE, Int.reduceLT, Int.reduceEq, Int.reduceNe, Int.reduceNatCast, Nat.add_zero, Nat.zero_add, reduceCtorEq, Int.reduceNatCast', wp_c, wp_g, e2_ifCond, e2_if_icmp, ↓bq_t, ↓bq_f, ab_br, ↓ab_b1_s, ↓ab_b2_s, ↓ab_l1_s, ↓ab_l2_s, ↓ab_li_s, ↓ab_o1_s, ↓ab_io_s, ↓ab_lo1_s, ↓ab_iio_s, ↓ab_lio_s, ↓ab_cp5_s, moX10_open, dX10_open_0, dal_0, dX10_open_1, dX10_open_2, dp1_10_9_76, dX10_open_5, dX10_open_6, dX10_open_7, dp1_10_15_76, dX10_open_10]
  exact h _ (zW9_tr (zW9_1 σ 0 (Or.inl rfl)) (zW9_1 _ 0 (Or.inr rfl))) rfl rfl
set_option maxRecDepth 100000 in
set_option maxHeartbeats 4000000 in
theorem r_wCorner {σ : ab_S} {k m M : Int} {K : ab_V → ab_S → Prop} (hk : 0 ≤ k ∧ k < 12) (hp : 0 ≤ σ 6 k ∧ σ 6 k ≤ 198) (hb : σ 80 k = 16 * m + M) (hm : 0 ≤ m ∧ m ≤ 1000060) (hM : 0 ≤ M ∧ M < 16) (hs : σ 76 10 = 0 ∨ σ 76 10 = 1)
    (h : ∀ ρ, zW9 σ ρ → ρ 76 9 = σ 76 9 + 8 * σ 6 k * m → ((0 < σ 6 k ∧ 100000 ≤ m) ∧ ρ 76 10 = 1 ∨ ¬ (0 < σ 6 k ∧ 100000 ≤ m) ∧ ρ 76 10 = σ 76 10) → K (vI 0) ρ) : ab_Runs ab_G1 mdX10_meetCorner [vR 76, vI k] σ K := by
  refine ab_runs mwX10_meetCorner (by decide +kernel) (Nat.le_of_ble_eq_true rfl) (fun G hG => ?_)
  show G 0 [some (vR 76), some (vI k), none] [] _
  have b1 : ab_shr (σ 80 k) 4 = m := by rw [hb, z_shr4 (by omega)]; omega
  have o1 : ab_or 0 1 = 1 := by decide
  have o2 : ab_or 1 1 = 1 := by decide
  have o3 : ab_or 0 0 = 0 := by decide
  have o4 : ab_or 1 0 = 1 := by decide
  have fin : ∀ q S, 0 < σ 6 k → S = σ 76 9 + 8 * σ 6 k * m → (100000 ≤ m ∧ q = 1 ∨ ¬ 100000 ≤ m ∧ q = σ 76 10) → K (vI 0) (ab_up (ab_up σ 76 10 q) 76 9 S) := fun q S h0 hS hq => h _ (zW9_tr (zW9_1 σ q (Or.inr rfl)) (zW9_1 _ S (Or.inl rfl))) hS (by
    show (_ ∧ q = 1 ∨ _ ∧ q = σ 76 10)
    omega)
  have u6 : ∀ v, ab_up σ 76 10 v 6 = σ 6 := fun v => ab_up_o 6 (by decide)
  have bh : 0 ≤ σ 80 k ∧ σ 80 k ≤ 2147483647 := by rw [hb]; omega
  have nil : ¬ 0 < σ 6 k → K (vI 0) σ := fun h0 => h σ (zW9_rf σ) (by rw [show σ 6 k = 0 by omega]; omega) (Or.inr ⟨fun z => h0 z.1, rfl⟩)
  rcases hs with e | e
  · rw [e] at fin
    apply hG [9999] 60
    simp only [cq_lt, cq_le, cq_gt, cq_ge, cq_eq, cq_r1, cq_r2, ab_r32, ab_r64, ab_go, ab_stp, wp_z, ab_in, ab_rok, ab_wsum, ab_prm, ab_ret, ab_sw, ab_cd, ab_tg, ab_cat_i, ab_cat_l, ab_cat_r, ab_cl_n, ab_cl_i, ab_cl_l, ab_cl_r, ab_f2_0, ab_f2_1, ab_f4_0, ab_f4_1, ab_f4_2, ab_f4_3, ab_op_s, ab_b1_s, ab_b2_s, ab_l1_s, ab_l2_s, ab_li_s, ab_o1_s, ab_io_s, ab_lo1_s, ab_iio_s, ab_lio_s, ab_cp5_s, ab_d2_l, ab_d2_i, ab_d2_o, ex_iconst, ex_bipush, ex_sipush, ex_lconst, ex_ldc, ex_ldc_w, ex_ldc2_w, ex_iadd, ex_isub, ex_imul, ex_iand, ex_ior, ex_ixor, ex_ishl, ex_ishr, ex_iushr, ex_idiv, ex_irem, ex_ladd, ex_lsub, ex_lmul, ex_lor, ex_ldiv, ex_lrem, ex_lshl, ex_lcmp, ex_ineg, ex_lneg, ex_i2l, ex_l2i, ex_i2b, ex_dup, ex_pop, ex_dup2, ex_goto, ex_tableswitch, ex_aaload, ex_ireturn, ex_lreturn, ex_return_, List.map_cons, List.map_nil, List.sum_cons, List.sum_nil, List.drop_succ_cons, List.drop_zero, List.take_succ_cons, List.take_zero, List.reverse_cons, List.reverse_nil, List.nil_append, List.cons_append, List.length_cons, List.length_nil, true_and, and_true, cond_false, cond_true, Bool.false_or, Bool.or_false, Bool.or_true, Bool.true_or, true_or, or_true, false_or, or_false, if_true, if_false, reduceIte, ite_true, ite_false, implies_true, true_implies, false_implies, forall_const, not_true_eq_false, not_false_eq_true, Nat.reduceAdd, Nat.reduceMul, Nat.reduceSub, Nat.reduceBEq, Nat.reduceEqDiff, Nat.reduceLeDiff, Nat.reduceLT, Int.reduceAdd, Int.reduceSub, Int.reduceMul, Int.reduceNeg, Int.reduceToNat, Int.reduceLE, Int.reduceLT, Int.reduceEq, Int.reduceNe, Int.reduceNatCast, Nat.add_zero, Nat.zero_add, reduceCtorEq, Int.reduceNatCast', wp_c, wp_g, e2_ifCond, e2_if_icmp, ↓bq_t, ↓bq_f, ab_br, ↓ab_b1_s, ↓ab_b2_s, ↓ab_l1_s, ↓ab_l2_s, ↓ab_li_s, ↓ab_o1_s, ↓ab_io_s, ↓ab_lo1_s, ↓ab_iio_s, ↓ab_lio_s, ↓ab_cp5_s, moX10_meetCorner, dX10_meetCorner_0, dal_0, dX10_meetCorner_1, dg1_10_31_76, dX10_meetCorner_4, dg1_10_35_3, dg1_10_35_12, dX10_meetCorner_7, dil_1, dX10_meetCorner_8, dX10_meetCorner_9, dX10_meetCorner_12, dX10_meetCorner_13, dg1_10_41_76, dX10_meetCorner_16, dX10_meetCorner_17, dX10_meetCorner_18, dX10_meetCorner_19, dX10_meetCorner_20, dis_2, dX10_meetCorner_21, dX10_meetCorner_22, dX10_meetCorner_23, dg1_10_15_76, dX10_meetCorner_26, dil_2, dX10_meetCorner_27, kx10_44, dX10_meetCorner_29, dX10_meetCorner_32, dX10_meetCorner_33, dX10_meetCorner_36, dX10_meetCorner_37, dX10_meetCorner_38, dp1_10_15_76, dX10_meetCorner_41, dX10_meetCorner_42, dX10_meetCorner_43, dg1_10_9_76, dX10_meetCorner_46, kx10_45, dX10_meetCorner_49, dX10_meetCorner_50, dX10_meetCorner_53, dX10_meetCorner_56, dX10_meetCorner_57, dX10_meetCorner_58, dX10_meetCorner_59, dX10_meetCorner_60, dX10_meetCorner_61, dX10_meetCorner_62, dX10_meetCorner_63, dX10_meetCorner_64, dp1_10_9_76, dX10_meetCorner_67, dal1_6, dal1_15, dal1_80, b1, e, o1, o3, u6]
    repeat' (with_reducible (first | apply And.intro | intro _))
    all_goals first | omega | exact nil (by omega) | exact fin _ _ (by omega) rfl (by omega)
  · rw [e] at fin
    apply hG [9999] 60
    simp only [cq_lt, cq_le, cq_gt, cq_ge, cq_eq, cq_r1, cq_r2, ab_r32, ab_r64, ab_go, ab_stp, wp_z, ab_in, ab_rok, ab_wsum, ab_prm, ab_ret, ab_sw, ab_cd, ab_tg, ab_cat_i, ab_cat_l, ab_cat_r, ab_cl_n, ab_cl_i, ab_cl_l, ab_cl_r, ab_f2_0, ab_f2_1, ab_f4_0, ab_f4_1, ab_f4_2, ab_f4_3, ab_op_s, ab_b1_s, ab_b2_s, ab_l1_s, ab_l2_s, ab_li_s, ab_o1_s, ab_io_s, ab_lo1_s, ab_iio_s, ab_lio_s, ab_cp5_s, ab_d2_l, ab_d2_i, ab_d2_o, ex_iconst, ex_bipush, ex_sipush, ex_lconst, ex_ldc, ex_ldc_w, ex_ldc2_w, ex_iadd, ex_isub, ex_imul, ex_iand, ex_ior, ex_ixor, ex_ishl, ex_ishr, ex_iushr, ex_idiv, ex_irem, ex_ladd, ex_lsub, ex_lmul, ex_lor, ex_ldiv, ex_lrem, ex_lshl, ex_lcmp, ex_ineg, ex_lneg, ex_i2l, ex_l2i, ex_i2b, ex_dup, ex_pop, ex_dup2, ex_goto, ex_tableswitch, ex_aaload, ex_ireturn, ex_lreturn, ex_return_, List.map_cons, List.map_nil, List.sum_cons, List.sum_nil, List.drop_succ_cons, List.drop_zero, List.take_succ_cons, List.take_zero, List.reverse_cons, List.reverse_nil, List.nil_append, List.cons_append, List.length_cons, List.length_nil, true_and, and_true, cond_false, cond_true, Bool.false_or, Bool.or_false, Bool.or_true, Bool.true_or, true_or, or_true, false_or, or_false, if_true, if_false, reduceIte, ite_true, ite_false, implies_true, true_implies, false_implies, forall_const, not_true_eq_false, not_false_eq_true, Nat.reduceAdd, Nat.reduceMul, Nat.reduceSub, Nat.reduceBEq, Nat.reduceEqDiff, Nat.reduceLeDiff, Nat.reduceLT, Int.reduceAdd, Int.reduceSub, Int.reduceMul, Int.reduceNeg, Int.reduceToNat, Int.reduceLE, Int.reduceLT, Int.reduceEq, Int.reduceNe, Int.reduceNatCast, Nat.add_zero, Nat.zero_add, reduceCtorEq, Int.reduceNatCast', wp_c, wp_g, e2_ifCond, e2_if_icmp, ↓bq_t, ↓bq_f, ab_br, ↓ab_b1_s, ↓ab_b2_s, ↓ab_l1_s, ↓ab_l2_s, ↓ab_li_s, ↓ab_o1_s, ↓ab_io_s, ↓ab_lo1_s, ↓ab_iio_s, ↓ab_lio_s, ↓ab_cp5_s, moX10_meetCorner, dX10_meetCorner_0, dal_0, dX10_meetCorner_1, dg1_10_31_76, dX10_meetCorner_4, dg1_10_35_3, dg1_10_35_12, dX10_meetCorner_7, dil_1, dX10_meetCorner_8, dX10_meetCorner_9, dX10_meetCorner_12, dX10_meetCorner_13, dg1_10_41_76, dX10_meetCorner_16, dX10_meetCorner_17, dX10_meetCorner_18, dX10_meetCorner_19, dX10_meetCorner_20, dis_2, dX10_meetCorner_21, dX10_meetCorner_22, dX10_meetCorner_23, dg1_10_15_76, dX10_meetCorner_26, dil_2, dX10_meetCorner_27, kx10_44, dX10_meetCorner_29, dX10_meetCorner_32, dX10_meetCorner_33, dX10_meetCorner_36, dX10_meetCorner_37, dX10_meetCorner_38, dp1_10_15_76, dX10_meetCorner_41, dX10_meetCorner_42, dX10_meetCorner_43, dg1_10_9_76, dX10_meetCorner_46, kx10_45, dX10_meetCorner_49, dX10_meetCorner_50, dX10_meetCorner_53, dX10_meetCorner_56, dX10_meetCorner_57, dX10_meetCorner_58, dX10_meetCorner_59, dX10_meetCorner_60, dX10_meetCorner_61, dX10_meetCorner_62, dX10_meetCorner_63, dX10_meetCorner_64, dp1_10_9_76, dX10_meetCorner_67, dal1_6, dal1_15, dal1_80, b1, e, o2, o4, u6]
    repeat' (with_reducible (first | apply And.intro | intro _))
    all_goals first | omega | exact nil (by omega) | exact fin _ _ (by omega) rfl (by omega)
set_option maxRecDepth 100000 in
set_option maxHeartbeats 4000000 in
theorem r_wStretch {σ : ab_S} {m0 M0 m1 M1 len cr : Int} {K : ab_V → ab_S → Prop} (hm0 : 0 ≤ m0 ∧ m0 ≤ 1000060) (hM0 : 0 ≤ M0 ∧ M0 < 16) (hm1 : 0 ≤ m1 ∧ m1 ≤ 1000060) (hM1 : 0 ≤ M1 ∧ M1 < 16) (hl : 0 ≤ len ∧ len ≤ 12) (hc : 0 ≤ cr ∧ cr ≤ 20) (hs : σ 76 10 = 0 ∨ σ 76 10 = 1)
    (h : ∀ ρ, zW9 σ ρ → ρ 76 9 = σ 76 9 + cr * (4 * m0 * (m1 - m0 + len) + (m1 - m0 + len) * (m1 - m0 + len) + 4 * m1 * (2 * len - (m1 - m0 + len)) + (2 * len - (m1 - m0 + len)) * (2 * len - (m1 - m0 + len))) → ((100000 ≤ m0 ∨ 100000 ≤ m1) ∧ ρ 76 10 = 1 ∨ ¬ (100000 ≤ m0 ∨ 100000 ≤ m1) ∧ ρ 76 10 = σ 76 10) → K (vI 0) ρ) : ab_Runs ab_G1 mdX10_meetStretch [vR 76, vI (16 * m0 + M0), vI (16 * m1 + M1), vI len, vI cr] σ K := by
  refine ab_runs mwX10_meetStretch (by decide +kernel) (Nat.le_of_ble_eq_true rfl) (fun G hG => ?_)
  show G 0 [some (vR 76), some (vI (16 * m0 + M0)), some (vI (16 * m1 + M1)), some (vI len), some (vI cr), none, none, none, none, none, none, none, none] [] _
  have b1 : ab_shr (16 * m0 + M0) 4 = m0 := by rw [z_shr4 (by omega)]; omega
  have b2 : ab_shr (16 * m1 + M1) 4 = m1 := by rw [z_shr4 (by omega)]; omega
  have o1 : ab_or 0 1 = 1 := by decide
  have o2 : ab_or 1 1 = 1 := by decide
  have o3 : ab_or 0 0 = 0 := by decide
  have o4 : ab_or 1 0 = 1 := by decide
  have fin : ∀ q S, S = σ 76 9 + cr * (4 * m0 * (m1 - m0 + len) + (m1 - m0 + len) * (m1 - m0 + len) + 4 * m1 * (2 * len - (m1 - m0 + len)) + (2 * len - (m1 - m0 + len)) * (2 * len - (m1 - m0 + len))) → ((100000 ≤ m0 ∨ 100000 ≤ m1) ∧ q = 1 ∨ ¬ (100000 ≤ m0 ∨ 100000 ≤ m1) ∧ q = σ 76 10) → K (vI 0) (ab_up (ab_up σ 76 10 q) 76 9 S) := fun q S hS hq => h _ (zW9_tr (zW9_1 σ q (Or.inr rfl)) (zW9_1 _ S (Or.inl rfl))) hS hq
  rcases hs with e | e
  · rw [e] at fin
    apply hG [9999] 90
    simp only [cq_lt, cq_le, cq_gt, cq_ge, cq_eq, cq_r1, cq_r2, ab_r32, ab_r64, ab_go, ab_stp, wp_z, ab_in, ab_rok, ab_wsum, ab_prm, ab_ret, ab_sw, ab_cd, ab_tg, ab_cat_i, ab_cat_l, ab_cat_r, ab_cl_n, ab_cl_i, ab_cl_l, ab_cl_r, ab_f2_0, ab_f2_1, ab_f4_0, ab_f4_1, ab_f4_2, ab_f4_3, ab_op_s, ab_b1_s, ab_b2_s, ab_l1_s, ab_l2_s, ab_li_s, ab_o1_s, ab_io_s, ab_lo1_s, ab_iio_s, ab_lio_s, ab_cp5_s, ab_d2_l, ab_d2_i, ab_d2_o, ex_iconst, ex_bipush, ex_sipush, ex_lconst, ex_ldc, ex_ldc_w, ex_ldc2_w, ex_iadd, ex_isub, ex_imul, ex_iand, ex_ior, ex_ixor, ex_ishl, ex_ishr, ex_iushr, ex_idiv, ex_irem, ex_ladd, ex_lsub, ex_lmul, ex_lor, ex_ldiv, ex_lrem, ex_lshl, ex_lcmp, ex_ineg, ex_lneg, ex_i2l, ex_l2i, ex_i2b, ex_dup, ex_pop, ex_dup2, ex_goto, ex_tableswitch, ex_aaload, ex_ireturn, ex_lreturn, ex_return_, List.map_cons, List.map_nil, List.sum_cons, List.sum_nil, List.drop_succ_cons, List.drop_zero, List.take_succ_cons, List.take_zero, List.reverse_cons, List.reverse_nil, List.nil_append, List.cons_append, List.length_cons, List.length_nil, true_and, and_true, cond_false, cond_true, Bool.false_or, Bool.or_false, Bool.or_true, Bool.true_or, true_or, or_true, false_or, or_false, if_true, if_false, reduceIte, ite_true, ite_false, implies_true, true_implies, false_implies, forall_const, not_true_eq_false, not_false_eq_true, Nat.reduceAdd, Nat.reduceMul, Nat.reduceSub, Nat.reduceBEq, Nat.reduceEqDiff, Nat.reduceLeDiff, Nat.reduceLT, Int.reduceAdd, Int.reduceSub, Int.reduceMul, Int.reduceNeg, Int.reduceToNat, Int.reduceLE, Int.reduceLT, Int.reduceEq, Int.reduceNe, Int.reduceNatCast, Nat.add_zero, Nat.zero_add, reduceCtorEq, Int.reduceNatCast', wp_c, wp_g, e2_ifCond, e2_if_icmp, ↓bq_t, ↓bq_f, ab_br, ↓ab_b1_s, ↓ab_b2_s, ↓ab_l1_s, ↓ab_l2_s, ↓ab_li_s, ↓ab_o1_s, ↓ab_io_s, ↓ab_lo1_s, ↓ab_iio_s, ↓ab_lio_s, ↓ab_cp5_s, moX10_meetStretch, dX10_meetStretch_0, dil_1, dX10_meetStretch_1, dX10_meetStretch_2, dX10_meetStretch_3, dX10_meetStretch_4, dls_5, dX10_meetStretch_6, dil_2, dX10_meetStretch_7, dX10_meetStretch_8, dX10_meetStretch_9, dX10_meetStretch_10, dls_7, dX10_meetStretch_12, dal_0, dX10_meetStretch_13, dX10_meetStretch_14, dg1_10_15_76, dX10_meetStretch_17, dll_5, dX10_meetStretch_19, kx10_47, dX10_meetStretch_22, dX10_meetStretch_23, dX10_meetStretch_26, dll_7, dX10_meetStretch_28, dX10_meetStretch_31, dX10_meetStretch_32, dX10_meetStretch_35, dX10_meetStretch_36, dX10_meetStretch_39, dX10_meetStretch_40, dX10_meetStretch_41, dp1_10_15_76, dX10_meetStretch_44, dX10_meetStretch_46, dX10_meetStretch_48, dX10_meetStretch_49, dil_3, dX10_meetStretch_50, dX10_meetStretch_51, dX10_meetStretch_52, dls_9, dX10_meetStretch_54, kx10_49, dX10_meetStretch_57, dX10_meetStretch_58, dX10_meetStretch_59, dX10_meetStretch_60, dll_9, dX10_meetStretch_62, dX10_meetStretch_63, dls_11, dX10_meetStretch_65, dX10_meetStretch_66, dX10_meetStretch_67, dg1_10_9_76, dX10_meetStretch_70, dil_4, dX10_meetStretch_72, dX10_meetStretch_73, kx10_51, dX10_meetStretch_76, dX10_meetStretch_78, dX10_meetStretch_79, dX10_meetStretch_81, dX10_meetStretch_82, dX10_meetStretch_84, dX10_meetStretch_86, dX10_meetStretch_87, dX10_meetStretch_88, dX10_meetStretch_91, dX10_meetStretch_93, dX10_meetStretch_94, dll_11, dX10_meetStretch_96, dX10_meetStretch_97, dX10_meetStretch_98, dX10_meetStretch_100, dX10_meetStretch_102, dX10_meetStretch_103, dX10_meetStretch_104, dX10_meetStretch_105, dX10_meetStretch_106, dp1_10_9_76, dX10_meetStretch_109, b1, b2, e, o1, o3]
    repeat' (with_reducible (first | apply And.intro | intro _))
    all_goals first | omega | exact fin _ _ rfl (by omega)
  · rw [e] at fin
    apply hG [9999] 90
    simp only [cq_lt, cq_le, cq_gt, cq_ge, cq_eq, cq_r1, cq_r2, ab_r32, ab_r64, ab_go, ab_stp, wp_z, ab_in, ab_rok, ab_wsum, ab_prm, ab_ret, ab_sw, ab_cd, ab_tg, ab_cat_i, ab_cat_l, ab_cat_r, ab_cl_n, ab_cl_i, ab_cl_l, ab_cl_r, ab_f2_0, ab_f2_1, ab_f4_0, ab_f4_1, ab_f4_2, ab_f4_3, ab_op_s, ab_b1_s, ab_b2_s, ab_l1_s, ab_l2_s, ab_li_s, ab_o1_s, ab_io_s, ab_lo1_s, ab_iio_s, ab_lio_s, ab_cp5_s, ab_d2_l, ab_d2_i, ab_d2_o, ex_iconst, ex_bipush, ex_sipush, ex_lconst, ex_ldc, ex_ldc_w, ex_ldc2_w, ex_iadd, ex_isub, ex_imul, ex_iand, ex_ior, ex_ixor, ex_ishl, ex_ishr, ex_iushr, ex_idiv, ex_irem, ex_ladd, ex_lsub, ex_lmul, ex_lor, ex_ldiv, ex_lrem, ex_lshl, ex_lcmp, ex_ineg, ex_lneg, ex_i2l, ex_l2i, ex_i2b, ex_dup, ex_pop, ex_dup2, ex_goto, ex_tableswitch, ex_aaload, ex_ireturn, ex_lreturn, ex_return_, List.map_cons, List.map_nil, List.sum_cons, List.sum_nil, List.drop_succ_cons, List.drop_zero, List.take_succ_cons, List.take_zero, List.reverse_cons, List.reverse_nil, List.nil_append, List.cons_append, List.length_cons, List.length_nil, true_and, and_true, cond_false, cond_true, Bool.false_or, Bool.or_false, Bool.or_true, Bool.true_or, true_or, or_true, false_or, or_false, if_true, if_false, reduceIte, ite_true, ite_false, implies_true, true_implies, false_implies, forall_const, not_true_eq_false, not_false_eq_true, Nat.reduceAdd, Nat.reduceMul, Nat.reduceSub, Nat.reduceBEq, Nat.reduceEqDiff, Nat.reduceLeDiff, Nat.reduceLT, Int.reduceAdd, Int.reduceSub, Int.reduceMul, Int.reduceNeg, Int.reduceToNat, Int.reduceLE, Int.reduceLT, Int.reduceEq, Int.reduceNe, Int.reduceNatCast, Nat.add_zero, Nat.zero_add, reduceCtorEq, Int.reduceNatCast', wp_c, wp_g, e2_ifCond, e2_if_icmp, ↓bq_t, ↓bq_f, ab_br, ↓ab_b1_s, ↓ab_b2_s, ↓ab_l1_s, ↓ab_l2_s, ↓ab_li_s, ↓ab_o1_s, ↓ab_io_s, ↓ab_lo1_s, ↓ab_iio_s, ↓ab_lio_s, ↓ab_cp5_s, moX10_meetStretch, dX10_meetStretch_0, dil_1, dX10_meetStretch_1, dX10_meetStretch_2, dX10_meetStretch_3, dX10_meetStretch_4, dls_5, dX10_meetStretch_6, dil_2, dX10_meetStretch_7, dX10_meetStretch_8, dX10_meetStretch_9, dX10_meetStretch_10, dls_7, dX10_meetStretch_12, dal_0, dX10_meetStretch_13, dX10_meetStretch_14, dg1_10_15_76, dX10_meetStretch_17, dll_5, dX10_meetStretch_19, kx10_47, dX10_meetStretch_22, dX10_meetStretch_23, dX10_meetStretch_26, dll_7, dX10_meetStretch_28, dX10_meetStretch_31, dX10_meetStretch_32, dX10_meetStretch_35, dX10_meetStretch_36, dX10_meetStretch_39, dX10_meetStretch_40, dX10_meetStretch_41, dp1_10_15_76, dX10_meetStretch_44, dX10_meetStretch_46, dX10_meetStretch_48, dX10_meetStretch_49, dil_3, dX10_meetStretch_50, dX10_meetStretch_51, dX10_meetStretch_52, dls_9, dX10_meetStretch_54, kx10_49, dX10_meetStretch_57, dX10_meetStretch_58, dX10_meetStretch_59, dX10_meetStretch_60, dll_9, dX10_meetStretch_62, dX10_meetStretch_63, dls_11, dX10_meetStretch_65, dX10_meetStretch_66, dX10_meetStretch_67, dg1_10_9_76, dX10_meetStretch_70, dil_4, dX10_meetStretch_72, dX10_meetStretch_73, kx10_51, dX10_meetStretch_76, dX10_meetStretch_78, dX10_meetStretch_79, dX10_meetStretch_81, dX10_meetStretch_82, dX10_meetStretch_84, dX10_meetStretch_86, dX10_meetStretch_87, dX10_meetStretch_88, dX10_meetStretch_91, dX10_meetStretch_93, dX10_meetStretch_94, dll_11, dX10_meetStretch_96, dX10_meetStretch_97, dX10_meetStretch_98, dX10_meetStretch_100, dX10_meetStretch_102, dX10_meetStretch_103, dX10_meetStretch_104, dX10_meetStretch_105, dX10_meetStretch_106, dp1_10_9_76, dX10_meetStretch_109, b1, b2, e, o2, o4]
    repeat' (with_reducible (first | apply And.intro | intro _))
    all_goals first | omega | exact fin _ _ rfl (by omega)
set_option maxRecDepth 100000 in
set_option maxHeartbeats 4000000 in
theorem r_wClose {σ : ab_S} {K : ab_V → ab_S → Prop} (hs : σ 76 10 = 0 ∨ σ 76 10 = 1) (h : ∀ ρ, zW9 σ ρ → (σ 76 10 = 1 ∧ ρ 76 9 = -1 ∨ σ 76 10 = 0 ∧ ρ 76 9 = σ 76 9) → K (vI 0) ρ) : ab_Runs ab_G1 mdX10_close [vR 76] σ K := by
  refine ab_runs mwX10_close (by decide +kernel) (Nat.le_of_ble_eq_true rfl) (fun G hG => ?_)
  show G 0 [some (vR 76)] [] _
  apply hG [9999] 30
  simp only [cq_lt, cq_le, cq_gt, cq_ge, cq_eq, cq_r1, cq_r2, ab_r32, ab_r64, ab_go, ab_stp, wp_z, ab_in, ab_rok, ab_wsum, ab_prm, ab_ret, ab_sw, ab_cd, ab_tg, ab_cat_i, ab_cat_l, ab_cat_r, ab_cl_n, ab_cl_i, ab_cl_l, ab_cl_r, ab_f2_0, ab_f2_1, ab_f4_0, ab_f4_1, ab_f4_2, ab_f4_3, ab_op_s, ab_b1_s, ab_b2_s, ab_l1_s, ab_l2_s, ab_li_s, ab_o1_s, ab_io_s, ab_lo1_s, ab_iio_s, ab_lio_s, ab_cp5_s, ab_d2_l, ab_d2_i, ab_d2_o, ex_iconst, ex_bipush, ex_sipush, ex_lconst, ex_ldc, ex_ldc_w, ex_ldc2_w, ex_iadd, ex_isub, ex_imul, ex_iand, ex_ior, ex_ixor, ex_ishl, ex_ishr, ex_iushr, ex_idiv, ex_irem, ex_ladd, ex_lsub, ex_lmul, ex_lor, ex_ldiv, ex_lrem, ex_lshl, ex_lcmp, ex_ineg, ex_lneg, ex_i2l, ex_l2i, ex_i2b, ex_dup, ex_pop, ex_dup2, ex_goto, ex_tableswitch, ex_aaload, ex_ireturn, ex_lreturn, ex_return_, List.map_cons, List.map_nil, List.sum_cons, List.sum_nil, List.drop_succ_cons, List.drop_zero, List.take_succ_cons, List.take_zero, List.reverse_cons, List.reverse_nil, List.nil_append, List.cons_append, List.length_cons, List.length_nil, true_and, and_true, cond_false, cond_true, Bool.false_or, Bool.or_false, Bool.or_true, Bool.true_or, true_or, or_true, false_or, or_false, if_true, if_false, reduceIte, ite_true, ite_false, implies_true, true_implies, false_implies, forall_const, not_true_eq_false, not_false_eq_true, Nat.reduceAdd, Nat.reduceMul, Nat.reduceSub, Nat.reduceBEq, Nat.reduceEqDiff, Nat.reduceLeDiff, Nat.reduceLT, Int.reduceAdd, Int.reduceSub, Int.reduceMul, Int.reduceNeg, Int.reduceToNat, Int.reduceLE, Int.reduceLT, Int.reduceEq, Int.reduceNe, Int.reduceNatCast, Nat.add_zero, Nat.zero_add, reduceCtorEq, Int.reduceNatCast', wp_c, wp_g, e2_ifCond, e2_if_icmp, ↓bq_t, ↓bq_f, ab_br, ↓ab_b1_s, ↓ab_b2_s, ↓ab_l1_s, ↓ab_l2_s, ↓ab_li_s, ↓ab_o1_s, ↓ab_io_s, ↓ab_lo1_s, ↓ab_iio_s, ↓ab_lio_s, ↓ab_cp5_s, moX10_close, dX10_close_0, dal_0, dX10_close_1, dg1_10_15_76, dX10_close_4, dX10_close_7, dX10_close_8, kx10_19, dX10_close_11, dp1_10_9_76, dX10_close_14]
  repeat' (with_reducible (first | apply And.intro | intro _))
  all_goals first | omega | exact h σ (zW9_rf σ) (Or.inr ⟨by omega, rfl⟩) | exact h _ (zW9_1 σ (-1) (Or.inl rfl)) (Or.inl ⟨by omega, rfl⟩)
