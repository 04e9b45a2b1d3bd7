-- the calls of the ghost machine, and its soundness in all
section
variable {Γ : List ab_O} {M : ab_M} {l : Launch} {D : va_G} {cs : Nat → ClassId} {ad kd : Nat → Nat} {A : Nat → Prop} {p : Program} {e : Env} {s : State} {m : MethodId} {args : Array Value} {below : List Frame} {meth : Method} {c : Code} {Q : State → Prop} {pc : Nat} {L : ab_L} {st : List ab_V} {σ : ab_S}
theorem ab_s_virt (C : ab_Cx Γ M D cs ad kd A p s m args meth c) {j k o ci n : Nat} {rf : List (Option Nat)} {N : ab_M} {r : List ab_V} {K : ab_V → ab_S → Prop} (hd : decode (ab_cc M) pc = .ok (.invokevirtual j, 3)) (hst : st.drop k = .inr (.inr (.inl o)) :: r) (hΓ : Γ[o]? = some (ci, n, rf)) (hiv : ab_iv (ab_own M) j ci = some N) (hna : ab_na N = k + 1) (hrk : ab_rok M N r)
    (hrun : ab_Runs Γ N (.inr (.inr (.inl o)) :: (st.take k).reverse) σ K)
    (kk : ∀ (v : ab_V) (τ : ab_S), K v τ → ab_GG Γ M l D cs ad kd A p e s m args below meth c Q (pc + 3) L (ab_psh N v r) τ) : ab_GG Γ M l D cs ad kd A p e s m args below meth c Q pc L st σ := by
  intro H locs ls hP hS hL
  obtain ⟨hcode, hM⟩ := hrun
  have hM := hM l D cs ad kd H.size
  obtain ⟨hins, hini, hnp, hmh, Cn, T, N', hc, hkind⟩ := ab_iv_ok hiv
  have h12 : ci < 20 := by
    have := (List.getElem?_eq_some_iff.mp hc).1
    simp at this
    omega
  have hpre := ab_pre (σ := σ) C hP hS
  have C' := C
  obtain ⟨hx, hb, hml, hown, hts, hK, hD, hA, hE⟩ := C
  have he : (ab_w Γ cs ad σ)[o]? = some (ad o, .inr (ci, (List.range n).map (fun k => ab_fv ad σ o (ab_ty ci k) (rf.getD k none) k))) := by
    rw [ab_w_get hΓ, ab_cl_o h12]
  have hrecv := va_recv hK hP hc he
  have hlen : (((st.take k).reverse).map (ab_d ad kd)).length = ab_na N - 1 := by
    have h1 : k < st.length := by
      rcases Nat.lt_or_ge k st.length with h | h
      · exact h
      · rw [List.drop_eq_nil_of_le h] at hst
        cases hst
    simp
    omega
  have hstack : st.map (ab_d ad kd) = (((st.take k).reverse).map (ab_d ad kd)).reverse ++ .ref (ad o) :: r.map (ab_d ad kd) := by
    conv => lhs; rw [← List.take_append_drop k st]
    rw [hst]
    simp [List.map_append, List.map_reverse]
    rfl
  have hpv : PreV s H Cn (ad o) (va_Pc ((.inr (.inr (.inl o)) :: (st.take k).reverse : List ab_V).map (ab_d ad kd)) (ab_Pc Γ D cs ad kd σ H.size)) (((st.take k).reverse).map (ab_d ad kd)) :=
    ⟨ab_blind, hrecv, fun U hU hW => ⟨rfl, hpre U hU hW⟩⟩
  have hfix : CallFix p m c (ab_cc M) (ab_ml M) s args ab_TG (ab_cn (ab_own M)) := ⟨hx, hb, hml, hown, hts⟩
  have hR : (ab_rm N).frames + 1 ≤ (ab_rm M).frames ∧ 8 + (ab_ml N + 11) + (ab_rm N).locals ≤ (ab_rm M).locals := ⟨hrk.1, hrk.2.1⟩
  have hW8 : 2 * (F0 m pc ls (st.map (ab_d ad kd))).monitorRoom + ((r.map (ab_d ad kd)).map fun v => v.category).sum ≤ 8 := lv_room (by rw [ab_wsum_c]; exact hrk.2.2)
  refine ab_s_run (σ := σ) C' hS hL (N := N) (r := r) (a := (Value.ref (ad o) :: ((st.take k).reverse).map (ab_d ad kd)).toArray) ?_ kk
  rcases hkind with ⟨hcl, hlk, hse⟩ | ⟨x, ow, ⟨ho1, ho2, hds⟩, hlk, hsm, hse, hor⟩
  · have cw : CallW (ab_rm M) s args (ab_cn (ab_own M)) Cn j (ab_y N) (ab_cc N) (ab_ml N) (ab_rt N) (ab_ws N) (ab_rm N) 0 0 (ab_na N - 1) :=
      cwV (ab_na N - 1) hts (ab_goodapp (fun w hw => by
        simp only [List.mem_cons, List.not_mem_nil, or_false] at hw
        rcases hw with rfl | rfl | rfl | rfl
        · exact hlk
        · exact hins
        · exact hse
        · rw [← hcl]; exact hini) (ab_goodws hcode)) rfl rfl rfl ⟨hcl, hmh.1, hmh.2, hnp.1⟩ hR
    exact va_runV hfix hM cw hpv rfl hlen hL.1 hstack hW8 hd ⟨Nat.le_refl 0, Nat.le_refl 0⟩
  · have hU : ∀ w ∈ ([.methodLink (ab_cn (ab_own M)) j x, .sameMethod x.cls ow x.name x.desc, .selects Cn x (ab_y N), .instanceMethod (ab_y N), .initialized (ab_y N).cls] : List Cond), w ∈ ab_TG := fun w hw => by
      simp only [List.mem_cons, List.not_mem_nil, or_false] at hw
      rcases hw with rfl | rfl | rfl | rfl | rfl
      · exact hlk
      · exact hsm
      · exact hse
      · exact hins
      · exact hini
    have cw : va_CU (ab_rm M) s args (ab_cn (ab_own M)) Cn ow j x (ab_y N) (ab_cc N) (ab_ml N) (ab_rt N) (ab_ws N) (ab_rm N) 0 0 (ab_na N - 1) := by
      rcases hor with hy | hdc
      · exact va_cwU (ab_na N - 1) hts (ab_goodapp hU (ab_goodws hcode)) rfl rfl rfl hy ⟨ho1, ho2, by rw [hds]; exact hnp.1⟩ hR
      · refine va_cwA (ab_na N - 1) hts (ab_goodapp hU (ab_goodws hcode)) rfl rfl rfl (hE.1 _ ?_) ⟨ho1, ho2, by rw [hds]; exact hnp.1⟩ hR
        exact List.mem_filter.mpr ⟨hdc, rfl⟩
    exact va_runU hfix hM cw hpv rfl hlen hL.1 hstack hW8 hd ⟨Nat.le_refl 0, Nat.le_refl 0⟩
theorem ab_s_stat (C : ab_Cx Γ M D cs ad kd A p s m args meth c) {j : Nat} {N : ab_M} {K : ab_V → ab_S → Prop} (hd : decode (ab_cc M) pc = .ok (.invokestatic j, 3)) (his : ab_is (ab_own M) j = some N) (hna : ab_na N ≤ st.length) (hrk : ab_rok M N (st.drop (ab_na N)))
    (hrun : ab_Runs Γ N (st.take (ab_na N)).reverse σ K)
    (kk : ∀ (v : ab_V) (τ : ab_S), K v τ → ab_GG Γ M l D cs ad kd A p e s m args below meth c Q (pc + 3) L (ab_psh N v (st.drop (ab_na N))) τ) : ab_GG Γ M l D cs ad kd A p e s m args below meth c Q pc L st σ := by
  intro H locs ls hP hS hL
  obtain ⟨hcode, hM⟩ := hrun
  have hM := hM l D cs ad kd H.size
  obtain ⟨hst, hini, hnp, hmh, hkind⟩ := ab_is_ok his
  have hpre := ab_pre (σ := σ) C hP hS
  have C' := C
  obtain ⟨hx, hb, hml, hown, hts, hK, hD, hA, hE⟩ := C
  have hlen : (((st.take (ab_na N)).reverse).map (ab_d ad kd)).length = ab_na N := by
    simp
    omega
  have hstack : st.map (ab_d ad kd) = (((st.take (ab_na N)).reverse).map (ab_d ad kd)).reverse ++ (st.drop (ab_na N)).map (ab_d ad kd) := by
    conv => lhs; rw [← List.take_append_drop (ab_na N) st]
    simp [List.map_append, List.map_reverse]
  have hpv : PreS s H (va_Pc (((st.take (ab_na N)).reverse).map (ab_d ad kd)) (ab_Pc Γ D cs ad kd σ H.size)) (((st.take (ab_na N)).reverse).map (ab_d ad kd)) :=
    ⟨ab_blind, fun U hU hW => ⟨rfl, hpre U hU hW⟩⟩
  have hfix : CallFix p m c (ab_cc M) (ab_ml M) s args ab_TG (ab_cn (ab_own M)) := ⟨hx, hb, hml, hown, hts⟩
  have hR : (ab_rm N).frames + 1 ≤ (ab_rm M).frames ∧ 8 + (ab_ml N + 11) + (ab_rm N).locals ≤ (ab_rm M).locals := ⟨hrk.1, hrk.2.1⟩
  have hW8 : 2 * (F0 m pc ls (st.map (ab_d ad kd))).monitorRoom + (((st.drop (ab_na N)).map (ab_d ad kd)).map fun v => v.category).sum ≤ 8 := lv_room (by rw [ab_wsum_c]; exact hrk.2.2)
  refine ab_s_run (σ := σ) C' hS hL (N := N) (r := st.drop (ab_na N)) (a := (((st.take (ab_na N)).reverse).map (ab_d ad kd)).toArray) ?_ kk
  rcases hkind with hlk | hlk
  · have cw := va_cwS (R := ab_rm M) (s := s) (args := args) (own := ab_cn (ab_own M)) (index := j) (y := ab_y N) (bytes := ab_cc N) (maxL := ab_ml N) (ret := ab_rt N) (ws := ab_ws N) (rm := ab_rm N) (mc := 0) (ms := 0) (ab_na N) hts (ab_goodapp (fun w hw => by
        simp only [List.mem_cons, List.not_mem_nil, or_false] at hw
        rcases hw with rfl | rfl | rfl
        · exact hlk
        · exact hst
        · exact hini) (ab_goodws hcode)) rfl rfl rfl ⟨hmh.1, hmh.2, hnp⟩ hR
    exact va_runS hfix hM cw hpv rfl hlen hL.1 hstack hW8 hd ⟨Nat.le_refl 0, Nat.le_refl 0⟩
  · have hz : va_Nw (.methodLinkNest (ab_cn (ab_own M)) j (ab_y N) "TwoBakers") s := hE.1 _ (List.mem_filter.mpr ⟨hlk, rfl⟩)
    have cw := va_cnB (R := ab_rm M) (s := s) (args := args) (own := ab_cn (ab_own M)) (host := "TwoBakers") (index := j) (y := ab_y N) (bytes := ab_cc N) (maxL := ab_ml N) (ret := ab_rt N) (ws := ab_ws N) (rm := ab_rm N) (mc := 0) (ms := 0) (ab_na N) hts (ab_goodws hcode) rfl rfl rfl hz (hts _ hini) ⟨hmh.1, hmh.2, hnp⟩ hR
    exact va_runSN hfix hM ⟨cw, hts _ hst, trivial⟩ hpv rfl hlen hL.1 hstack hW8 hd ⟨Nat.le_refl 0, Nat.le_refl 0⟩
theorem ab_s_prm (C : ab_Cx Γ M D cs ad kd A p s m args meth c) {j n : Nat} {K : ab_K} (hd : decode (ab_cc M) pc = .ok (.invokestatic j, 3)) (hpr : ab_pr (ab_own M) j = some n) (h : ab_prm Γ M K pc L st σ n)
    (hK' : ∀ pc L st σ, K pc L st σ → ab_GG Γ M l D cs ad kd A p e s m args below meth c Q pc L st σ) : ab_GG Γ M l D cs ad kd A p e s m args below meth c Q pc L st σ := by
  intro H locs ls hP hS hL
  have hlk := ab_pr_ok hpr
  obtain ⟨hx, hb, hml, hown, hts, hK, hD, hA, hE⟩ := C
  have hsz : c.maxLocals = ls.size := by rw [hml]; exact hL.1.symm
  unfold ab_prm at h
  split at h
  · obtain ⟨x, y, r, rfl, ⟨hx1, hy1⟩, ⟨g1, g2⟩, h⟩ := ab_b2_ok h
    refine va_mmin hx hb hsz hown (hts _ hlk) (hts _ pw0) (hts _ pim) (hts _ pc0) g1 (by rw [ab_wsum_c]; exact Nat.le_trans (by omega) g2) (Nat.le_refl 0) (Nat.le_refl 0) hd ?_
    have e1 : (if Int32.ofInt y < Int32.ofInt x then Int32.ofInt y else Int32.ofInt x) = Int32.ofInt (min x y) := by
      by_cases hc : y < x
      · rw [if_pos ((ab_lt32 hy1 hx1).mpr hc), Int.min_eq_right (by omega)]
      · rw [if_neg (fun q => hc ((ab_lt32 hy1 hx1).mp q)), Int.min_eq_left (by omega)]
    rw [e1]
    exact hK' _ _ _ _ h H locs ls hP hS hL
  · obtain ⟨x, y, r, rfl, ⟨hx1, hy1⟩, ⟨g1, g2⟩, h⟩ := ab_b2_ok h
    refine va_mmax hx hb hsz hown (hts _ hlk) (hts _ pw1) (hts _ pim) (hts _ pc1) g1 (by rw [ab_wsum_c]; exact Nat.le_trans (by omega) g2) (Nat.le_refl 0) (Nat.le_refl 0) hd ?_
    have e1 : (if Int32.ofInt x < Int32.ofInt y then Int32.ofInt y else Int32.ofInt x) = Int32.ofInt (max x y) := by
      by_cases hc : x < y
      · rw [if_pos ((ab_lt32 hx1 hy1).mpr hc), Int.max_eq_right (by omega)]
      · rw [if_neg (fun q => hc ((ab_lt32 hx1 hy1).mp q)), Int.max_eq_left (by omega)]
    rw [e1]
    exact hK' _ _ _ _ h H locs ls hP hS hL
  · obtain ⟨x, r, rfl, hx1, ⟨g1, g2⟩, h⟩ := ab_b1_ok h
    refine va_mabs hx hb hsz hown (hts _ hlk) (hts _ pw2) (hts _ pim) (hts _ pc2) g1 (by rw [ab_wsum_c]; exact Nat.le_trans (by omega) g2) (Nat.le_refl 0) (Nat.le_refl 0) hd ?_
    have e1 : (if 0 ≤ Int32.ofInt x then Int32.ofInt x else 0 - Int32.ofInt x) = Int32.ofInt (if 0 ≤ x then x else -x) := by
      have e5 : 0 ≤ Int32.ofInt x ↔ 0 ≤ x := by rw [← ab_zero32, ab_le32 ab_r0 hx1]
      by_cases hc : 0 ≤ x
      · rw [if_pos (e5.mpr hc), if_pos hc]
      · rw [if_neg (fun q => hc (e5.mp q)), if_neg hc, ← ab_zero32, ab_sub32, Int.zero_sub]
    rw [e1]
    exact hK' _ _ _ _ h H locs ls hP hS hL
  · obtain ⟨x, y, r, rfl, ⟨hx1, hy1⟩, ⟨g1, g2⟩, h⟩ := ab_l2_ok h
    refine va_mmin_long hx hb hsz hown (hts _ hlk) (hts _ pw3) (hts _ pim) (hts _ pc3) g1 (by rw [ab_wsum_c]; exact Nat.le_trans (by omega) g2) (Nat.le_refl 0) (Nat.le_refl 0) hd ?_
    have e1 : (if Int64.ofInt y < Int64.ofInt x then Int64.ofInt y else Int64.ofInt x) = Int64.ofInt (min x y) := by
      by_cases hc : y < x
      · rw [if_pos ((ab_lt64 hy1 hx1).mpr hc), Int.min_eq_right (by omega)]
      · rw [if_neg (fun q => hc ((ab_lt64 hy1 hx1).mp q)), Int.min_eq_left (by omega)]
    rw [e1]
    exact hK' _ _ _ _ h H locs ls hP hS hL
  · obtain ⟨x, r, rfl, hx1, ⟨g1, g2⟩, h⟩ := ab_l1_ok h
    refine va_mabs_long hx hb hsz hown (hts _ hlk) (hts _ pw4) (hts _ pim) (hts _ pc4) g1 (by rw [ab_wsum_c]; exact Nat.le_trans (by omega) g2) (Nat.le_refl 0) (Nat.le_refl 0) hd ?_
    have e1 : (if 0 < Int64.ofInt x then Int64.ofInt x else -Int64.ofInt x) = Int64.ofInt (if 0 ≤ x then x else -x) := by
      have z64 : Int64.ofInt 0 = 0 := by decide +kernel
      have r64 : ab_r64 0 := by unfold ab_r64; omega
      have e5 : 0 < Int64.ofInt x ↔ 0 < x := by rw [← z64, ab_lt64 r64 hx1]
      by_cases hc : 0 < x
      · rw [if_pos (e5.mpr hc), if_pos (by omega)]
      · rw [if_neg (fun q => hc (e5.mp q)), ab_neg64]
        by_cases h0 : 0 ≤ x
        · rw [if_pos h0]
          have : x = 0 := by omega
          subst this
          rfl
        · rw [if_neg h0]
    rw [e1]
    exact hK' _ _ _ _ h H locs ls hP hS hL
  · rename_i n0 n1 n2 n3 n4
    have hpn : ab_prn n = ab_prn 5 := by
      unfold ab_prn
      split <;> first | rfl | (exfalso; simp_all)
    rw [hpn] at hlk
    obtain ⟨o0, sp, o1, dp, k, r, rfl, h⟩ := ab_cp5_ok h
    obtain ⟨a, ha, h⟩ := ab_op_ok h
    obtain ⟨b, hb', ⟨t1, t2⟩, ⟨i1, i2, i3, i4, i5⟩, ⟨z1, z2⟩, ⟨g1, g2⟩, h⟩ := ab_op_ok h
    obtain ⟨ra, hΓa⟩ := ab_ar_ok ha
    obtain ⟨rb, hΓb⟩ := ab_ar_ok hb'
    rw [t1] at hΓa
    rw [t2] at hΓb
    have cl : ∀ z : Int, 0 ≤ z → z < 200000 → (Int32.ofInt z).toNatClampNeg = z.toNat ∧ ¬ Int32.ofInt z < 0 := by
      intro z h1 h2
      have hz : ab_r32 z := by unfold ab_r32; omega
      refine ⟨?_, ?_⟩
      · unfold Int32.toNatClampNeg
        rw [ab_i32 hz]
      · rw [← ab_zero32, ab_lt32 hz ab_r0]
        omega
    obtain ⟨c1, d1⟩ := cl sp i1 (by omega)
    obtain ⟨c2, d2⟩ := cl dp i2 (by omega)
    obtain ⟨c3, d3⟩ := cl k i3 (by omega)
    refine va_copyi hx hb hsz hown (hts _ hlk) (hts _ pn5) (hts _ pw5) (hts _ pis) hK hP (hD σ) hS o0 o1 0 0 (ab_c20 hΓa) (ab_c20 hΓb) rfl rfl rfl d1 d2 d3 (by rw [c1, c3]; omega) (by rw [c2, c3]; omega) (fun i _ => rfl) g1 (by rw [ab_wsum_c]; exact g2) hd ?_
    intro H1 locs1 hP1 hD1 hS1
    rw [c1, c2, c3, ← ab_cpyI i1 i2 i3] at hP1
    exact hK' _ _ _ _ h H1 locs1 ls (by rw [ab_w_set (σ := σ) hΓb ab_cpy_o]; exact hP1) hS1 hL
end
