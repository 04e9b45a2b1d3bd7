-- CONSTANT TEXTS: steps beside the ghost machine's own; String.length, charAt
abbrev vT (k : Nat) : ab_V := Sum.inr (Sum.inr (Sum.inr k))
def ab_T8 (own j : Nat) (N : ab_M) : Prop := Cond.methodLink (ab_cn own) j (ab_y N) ∈ ab_TG ∧ Cond.instanceMethod (ab_y N) ∈ ab_TG ∧ Cond.selects RJ0 (ab_y N) (ab_y N) ∈ ab_TG ∧ Cond.initialized RJ0 ∈ ab_TG ∧ (ab_y N).cls = RJ0 ∧ ((parseMethodDescriptor (ab_y N).desc).map (fun d => d.parameters.length) = some (ab_na N - 1) ∧ 0 < ab_na N)
def ab_T9 (own j : Nat) (N : ab_M) : Prop := Cond.static (ab_y N) ∈ ab_TG ∧ Cond.initialized (ab_y N).cls ∈ ab_TG ∧ (parseMethodDescriptor (ab_y N).desc).map (fun d => d.parameters.length) = some (ab_na N) ∧ ((ab_y N).cls ≠ "java/lang/invoke/MethodHandle" ∧ (ab_y N).cls ≠ "java/lang/invoke/VarHandle") ∧ Cond.methodLink (ab_cn own) j (ab_y N) ∈ ab_TG
theorem tx_c : Cond.fieldLink RJ0 38 RJ0 "COMPACT_STRINGS" "Z" ∈ ab_TG := ab_ag_ok (i := 833) (by decide +kernel)
theorem tx_f : Cond.fieldLink RJ0 1053 RJ3 "SIOOBE_FORMATTER" "Ljava/util/function/BiFunction;" ∈ ab_TG := ab_ag_ok (i := 849) (by decide +kernel)
theorem tx_v : Cond.fieldLink RJ0 9 RJ0 "value" "[B" ∈ ab_TG := ab_ag_ok (i := 2171) (by decide +kernel)
theorem tx_d : Cond.fieldLink RJ0 15 RJ0 "coder" "B" ∈ ab_TG := ab_ag_ok (i := 2172) (by decide +kernel)
theorem tx_i2c : ∀ n : Nat, n < 256 → ((Int32.ofInt (n : Int)).toUInt32 % 65536).toInt32 = Int32.ofInt (n : Int) := by decide +kernel
theorem tx_nc : ∀ n : Nat, n < 256 → narrow .char (.int (Int32.ofInt (n : Int))) = .int (Int32.ofInt (n : Int)) := by decide +kernel
theorem tx_nb : narrow .byte (.int (Int32.ofInt 0)) = .int (Int32.ofInt 0) := by decide +kernel
section
variable {Γ : List ab_O} {M : ab_M} {l : Launch} {D : va_G} {cs : Nat → ClassId} {ad kd : Nat → Nat} {A : Nat → Prop} {p : Program} {e : Env} {s : State} {m : MethodId} {args : Array Value} {below : List Frame} {meth : Method} {c : Code} {Q : State → Prop} {pc : Nat} {L : ab_L} {st : List ab_V} {σ : ab_S}
theorem ab_t_c (C : ab_Cx Γ M D cs ad kd A p s m args meth c) (ho : ab_own M = 20) (hd : decode (ab_cc M) pc = .ok (.getstatic 38, 3)) (k : ab_GG Γ M l D cs ad kd A p e s m args below meth c Q (pc + 3) L (.inl 1 :: st) σ) : ab_GG Γ M l D cs ad kd A p e s m args below meth c Q pc L st σ := by
  intro H locs ls hP hS hL
  have kk := k H locs ls hP hS hL
  obtain ⟨hx, hb, hml, hown, hts, hK, hD, hA, hE⟩ := C
  rw [ho] at hown
  exact va_gets hx hb hE.2.2.2.1 hS hown (hts _ tx_c) (fun x h => h) hd kk
theorem ab_t_f (C : ab_Cx Γ M D cs ad kd A p s m args meth c) (ho : ab_own M = 20) (hd : decode (ab_cc M) pc = .ok (.getstatic 1053, 3)) (k : ab_GG Γ M l D cs ad kd A p e s m args below meth c Q (pc + 3) L (vT 28 :: st) σ) : ab_GG Γ M l D cs ad kd A p e s m args below meth c Q pc L st σ := by
  intro H locs ls hP hS hL
  have kk := k H locs ls hP hS hL
  obtain ⟨hx, hb, hml, hown, hts, hK, hD, hA, hE⟩ := C
  rw [ho] at hown
  rw [List.map_cons, ab_d_f] at kk
  exact va_gets hx hb hE.2.2.2.2 hS hown (hts _ tx_f) (fun x h => h) hd kk
theorem ab_t_v (C : ab_Cx Γ M D cs ad kd A p s m args meth c) {i : Nat} (hi : i < 14) (ho : ab_own M = 20) (hd : decode (ab_cc M) pc = .ok (.getfield 9, 3)) (k : ab_GG Γ M l D cs ad kd A p e s m args below meth c Q (pc + 3) L (vT (2 * i + 1) :: st) σ) : ab_GG Γ M l D cs ad kd A p e s m args below meth c Q pc L (vT (2 * i) :: st) σ := by
  intro H locs ls hP hS hL
  have kk := k H locs ls hP hS hL
  obtain ⟨hx, hb, hml, hown, hts, hK, hD, hA, hE⟩ := C
  rw [ho] at hown
  rw [List.map_cons, ab_d_t (by omega)] at kk
  rw [List.map_cons, ab_d_t (by omega)]
  exact vk_getf hx hb (hE.2.2.1.1 i hi).2.2.1 hS hown (hts _ tx_v) (fun x h => h) hd kk
theorem ab_t_d (C : ab_Cx Γ M D cs ad kd A p s m args meth c) {i : Nat} (hi : i < 14) (ho : ab_own M = 20) (hd : decode (ab_cc M) pc = .ok (.getfield 15, 3)) (k : ab_GG Γ M l D cs ad kd A p e s m args below meth c Q (pc + 3) L (.inl 0 :: st) σ) : ab_GG Γ M l D cs ad kd A p e s m args below meth c Q pc L (vT (2 * i) :: st) σ := by
  intro H locs ls hP hS hL
  have kk := k H locs ls hP hS hL
  obtain ⟨hx, hb, hml, hown, hts, hK, hD, hA, hE⟩ := C
  rw [ho] at hown
  rw [List.map_cons, ab_d_t (by omega)]
  exact vk_getf hx hb (hE.2.2.1.1 i hi).2.1 hS hown (hts _ tx_d) (fun x h => h) hd kk
theorem ab_t_len (C : ab_Cx Γ M D cs ad kd A p s m args meth c) {i : Nat} (hi : i < 14) (hd : decode (ab_cc M) pc = .ok (.arraylength, 1)) (k : ab_GG Γ M l D cs ad kd A p e s m args below meth c Q (pc + 1) L (.inl ((ab_sl.getD i 0 : Nat) : Int) :: st) σ) : ab_GG Γ M l D cs ad kd A p e s m args below meth c Q pc L (vT (2 * i + 1) :: st) σ := by
  intro H locs ls hP hS hL
  have kk := k H locs ls hP hS hL
  obtain ⟨hx, hb, hml, hown, hts, hK, hD, hA, hE⟩ := C
  rw [List.map_cons, ab_d_t (by omega)]
  exact va_tlen hx hb (hE.2.2.1.1 i hi).2.2.2 hS (v := Int32.ofInt ((ab_sl.getD i 0 : Nat) : Int)) rfl hd kk
theorem tx_sl : ∀ i : Nat, i < 14 → ab_sl.getD i 0 < 100000 := by decide
theorem ab_t_b (C : ab_Cx Γ M D cs ad kd A p s m args meth c) {i : Nat} {j : Int} (hi : i < 14) (hj : 0 ≤ j ∧ j < (ab_sl.getD i 0 : Nat)) (hd : decode (ab_cc M) pc = .ok (.baload, 1)) (k : ab_GG Γ M l D cs ad kd A p e s m args below meth c Q (pc + 1) L (.inl ((ab_sb.getD i []).getD j.toNat 0).toInt :: st) σ) : ab_GG Γ M l D cs ad kd A p e s m args below meth c Q pc L (.inl j :: vT (2 * i + 1) :: st) σ := by
  intro H locs ls hP hS hL
  have kk := k H locs ls hP hS hL
  obtain ⟨hx, hb, hml, hown, hts, hK, hD, hA, hE⟩ := C
  have q := ab_in_i (i := j) (n := ab_sl.getD i 0) ⟨hj.1, hj.2, tx_sl i hi⟩
  rw [List.map_cons, List.map_cons, ab_d_t (by omega)]
  refine va_tb hx hb (hE.2.2.1.1 i hi).2.2.2 hS q.1 (v := .int (Int32.ofInt ((ab_sb.getD i []).getD j.toNat 0).toInt)) ?_ hd kk
  rw [q.2, ab_of32]
theorem ab_t_i2c (C : ab_Cx Γ M D cs ad kd A p s m args meth c) {x : Int} (hx0 : 0 ≤ x ∧ x < 256) (hd : decode (ab_cc M) pc = .ok (.i2c, 1)) (k : ab_GG Γ M l D cs ad kd A p e s m args below meth c Q (pc + 1) L (.inl x :: st) σ) : ab_GG Γ M l D cs ad kd A p e s m args below meth c Q pc L (.inl x :: st) σ := by
  intro H locs ls hP hS hL
  have kk := k H locs ls hP hS hL
  obtain ⟨hx, hb, hml, hown, hts, hK, hD, hA, hE⟩ := C
  refine lv_i2c hx hb hd (v := Int32.ofInt x) ?_ kk
  have := tx_i2c x.toNat (by omega)
  rw [Int.toNat_of_nonneg hx0.1] at this
  exact this
theorem ab_t_ret (C : ab_Cx Γ M D cs ad kd A p s m args meth c) {Rt : ab_V → ab_S → Prop} {x : Int} (hr : meth.sig.returnType = ab_rt M) (hlk : meth.locks = false) (ht : (ab_rt M = some .char ∧ 0 ≤ x ∧ x < 256) ∨ (ab_rt M = some .byte ∧ x = 0)) (hd : decode (ab_cc M) pc = .ok (.ireturn, 1)) (h : Rt (.inl x) σ) :
    ab_GG Γ M l D cs ad kd A p e s m args below meth c (MQ below (ab_Q M Rt (ab_B Γ D cs ad) A) args s 0 0 A) pc L [.inl x] σ := by
  intro H locs ls hP hS hL
  obtain ⟨hx, hb, hml, hown, hts, hK, hD, hA, hE⟩ := C
  rcases ht with ⟨hm, hx0⟩ | ⟨hm, rfl⟩
  · rw [hm] at hr
    refine W.zret (ty := .char) hx hb hr ?_ (fun t ht hW => ?_) (fun q hq => hS.2.2 q hq) hd hlk
    · have := tx_nc x.toNat (by omega)
      rw [Int.toNat_of_nonneg hx0.1] at this
      exact this
    · unfold ab_Q
      rw [hm]
      exact ⟨⟨_, σ, rfl, ⟨x, rfl, h⟩, ⟨by rw [ht]; exact hP, va_K.moved hW.alike hK⟩⟩, hS.F ht⟩
  · rw [hm] at hr
    refine W.zret (ty := .byte) hx hb hr tx_nb (fun t ht hW => ?_) (fun q hq => hS.2.2 q hq) hd hlk
    unfold ab_Q
    rw [hm]
    exact ⟨⟨_, σ, rfl, ⟨0, rfl, h⟩, ⟨by rw [ht]; exact hP, va_K.moved hW.alike hK⟩⟩, hS.F ht⟩
theorem ab_t_virt (C : ab_Cx Γ M D cs ad kd A p s m args meth c) {i j k : Nat} {N : ab_M} {r : List ab_V} {K : ab_V → ab_S → Prop} (hi : i < 14) (hd : decode (ab_cc M) pc = .ok (.invokevirtual j, 3)) (hst : st.drop k = vT (2 * i) :: r) (h8 : ab_T8 (ab_own M) j N) (hna : ab_na N = k + 1) (hrk : ab_rok M N r)
    (hrun : ab_Runs Γ N (vT (2 * i) :: (st.take k).reverse) σ K)
    (kk : ∀ (v : ab_V) (τ : ab_S), K v τ → ab_GG Γ M l D cs ad kd A p e s m args below meth c Q (pc + 3) L (ab_psh N v r) τ) : ab_GG Γ M l D cs ad kd A p e s m args below meth c Q pc L st σ := by
  intro H locs ls hP hS hL
  obtain ⟨hcode, hM⟩ := hrun
  have hM := hM l D cs ad kd H.size
  obtain ⟨hlk, hins, hse, hini, hcl, hnp⟩ := h8
  have hpre := ab_pre (σ := σ) C hP hS
  have C' := C
  obtain ⟨hx, hb, hml, hown, hts, hK, hD, hA, hE⟩ := C
  have hrecv := vk_recv hE.2.2.1 hi hS
  have hlen : (((st.take k).reverse).map (ab_d ad kd)).length = ab_na N - 1 := by
    have h1 : k < st.length := by
      rcases Nat.lt_or_ge k st.length with h | h
      · exact h
      · rw [List.drop_eq_nil_of_le h] at hst
        cases hst
    simp
    omega
  have hstack : st.map (ab_d ad kd) = (((st.take k).reverse).map (ab_d ad kd)).reverse ++ .ref (kd (2 * i)) :: r.map (ab_d ad kd) := by
    conv => lhs; rw [← List.take_append_drop k st]
    rw [hst]
    rw [List.map_append, List.map_cons, ab_d_t (by omega)]
    simp [List.map_reverse]
  have hpv : PreV s H RJ0 (kd (2 * i)) (va_Pc ((vT (2 * i) :: (st.take k).reverse : List ab_V).map (ab_d ad kd)) (ab_Pc Γ D cs ad kd σ H.size)) (((st.take k).reverse).map (ab_d ad kd)) :=
    ⟨ab_blind, hrecv, fun U hU hW => ⟨by rw [List.map_cons, ab_d_t (by omega)], hpre U hU hW⟩⟩
  have hfix : CallFix p m c (ab_cc M) (ab_ml M) s args ab_TG (ab_cn (ab_own M)) := ⟨hx, hb, hml, hown, hts⟩
  have hR : (ab_rm N).frames + 1 ≤ (ab_rm M).frames ∧ 8 + (ab_ml N + 11) + (ab_rm N).locals ≤ (ab_rm M).locals := ⟨hrk.1, hrk.2.1⟩
  have hW8 : 2 * (F0 m pc ls (st.map (ab_d ad kd))).monitorRoom + ((r.map (ab_d ad kd)).map fun v => v.category).sum ≤ 8 := lv_room (by rw [ab_wsum_c]; exact hrk.2.2)
  refine ab_s_run (σ := σ) C' hS hL (N := N) (r := r) (a := (Value.ref (kd (2 * i)) :: ((st.take k).reverse).map (ab_d ad kd)).toArray) ?_ kk
  have cw : CallW (ab_rm M) s args (ab_cn (ab_own M)) RJ0 j (ab_y N) (ab_cc N) (ab_ml N) (ab_rt N) (ab_ws N) (ab_rm N) 0 0 (ab_na N - 1) :=
    cwV (ab_na N - 1) hts (ab_goodapp (fun w hw => by
      simp only [List.mem_cons, List.not_mem_nil, or_false] at hw
      rcases hw with rfl | rfl | rfl | rfl
      · exact hlk
      · exact hins
      · exact hse
      · exact hini) (ab_goodws hcode)) rfl rfl rfl ⟨hcl, by rw [hcl]; decide, by rw [hcl]; decide, hnp.1⟩ hR
  exact va_runV hfix hM cw hpv rfl hlen hL.1 hstack hW8 hd ⟨Nat.le_refl 0, Nat.le_refl 0⟩
theorem ab_t_stat (C : ab_Cx Γ M D cs ad kd A p s m args meth c) {j : Nat} {N : ab_M} {K : ab_V → ab_S → Prop} (hd : decode (ab_cc M) pc = .ok (.invokestatic j, 3)) (h9 : ab_T9 (ab_own M) j N) (hna : ab_na N ≤ st.length) (hrk : ab_rok M N (st.drop (ab_na N)))
    (hrun : ab_Runs Γ N (st.take (ab_na N)).reverse σ K)
    (kk : ∀ (v : ab_V) (τ : ab_S), K v τ → ab_GG Γ M l D cs ad kd A p e s m args below meth c Q (pc + 3) L (ab_psh N v (st.drop (ab_na N))) τ) : ab_GG Γ M l D cs ad kd A p e s m args below meth c Q pc L st σ := by
  intro H locs ls hP hS hL
  obtain ⟨hcode, hM⟩ := hrun
  have hM := hM l D cs ad kd H.size
  obtain ⟨hst, hini, hnp, hmh, hlk⟩ := h9
  have hpre := ab_pre (σ := σ) C hP hS
  have C' := C
  obtain ⟨hx, hb, hml, hown, hts, hK, hD, hA, hE⟩ := C
  have hlen : (((st.take (ab_na N)).reverse).map (ab_d ad kd)).length = ab_na N := by
    simp
    omega
  have hstack : st.map (ab_d ad kd) = (((st.take (ab_na N)).reverse).map (ab_d ad kd)).reverse ++ (st.drop (ab_na N)).map (ab_d ad kd) := by
    conv => lhs; rw [← List.take_append_drop (ab_na N) st]
    simp [List.map_append, List.map_reverse]
  have hpv : PreS s H (va_Pc (((st.take (ab_na N)).reverse).map (ab_d ad kd)) (ab_Pc Γ D cs ad kd σ H.size)) (((st.take (ab_na N)).reverse).map (ab_d ad kd)) :=
    ⟨ab_blind, fun U hU hW => ⟨rfl, hpre U hU hW⟩⟩
  have hfix : CallFix p m c (ab_cc M) (ab_ml M) s args ab_TG (ab_cn (ab_own M)) := ⟨hx, hb, hml, hown, hts⟩
  have hR : (ab_rm N).frames + 1 ≤ (ab_rm M).frames ∧ 8 + (ab_ml N + 11) + (ab_rm N).locals ≤ (ab_rm M).locals := ⟨hrk.1, hrk.2.1⟩
  have hW8 : 2 * (F0 m pc ls (st.map (ab_d ad kd))).monitorRoom + (((st.drop (ab_na N)).map (ab_d ad kd)).map fun v => v.category).sum ≤ 8 := lv_room (by rw [ab_wsum_c]; exact hrk.2.2)
  refine ab_s_run (σ := σ) C' hS hL (N := N) (r := st.drop (ab_na N)) (a := (((st.take (ab_na N)).reverse).map (ab_d ad kd)).toArray) ?_ kk
  have cw := va_cwS (R := ab_rm M) (s := s) (args := args) (own := ab_cn (ab_own M)) (index := j) (y := ab_y N) (bytes := ab_cc N) (maxL := ab_ml N) (ret := ab_rt N) (ws := ab_ws N) (rm := ab_rm N) (mc := 0) (ms := 0) (ab_na N) hts (ab_goodapp (fun w hw => by
      simp only [List.mem_cons, List.not_mem_nil, or_false] at hw
      rcases hw with rfl | rfl | rfl
      · exact hlk
      · exact hst
      · exact hini) (ab_goodws hcode)) rfl rfl rfl ⟨hmh.1, hmh.2, hnp⟩ hR
  exact va_runS hfix hM cw hpv rfl hlen hL.1 hstack hW8 hd ⟨Nat.le_refl 0, Nat.le_refl 0⟩
end
/-- closed under the steps with texts too -/
def ab_GoodT (Γ : List ab_O) (M : ab_M) (G : ab_K) (Rt : ab_V → ab_S → Prop) : Prop := ab_Good Γ M G Rt ∧
  (∀ pc L st σ, ab_own M = 20 → decode (ab_cc M) pc = .ok (.getstatic 38, 3) → G (pc + 3) L (.inl 1 :: st) σ → G pc L st σ) ∧
  (∀ pc L st σ, ab_own M = 20 → decode (ab_cc M) pc = .ok (.getstatic 1053, 3) → G (pc + 3) L (vT 28 :: st) σ → G pc L st σ) ∧
  (∀ pc L st σ (i : Nat), i < 14 → ab_own M = 20 → decode (ab_cc M) pc = .ok (.getfield 9, 3) → G (pc + 3) L (vT (2 * i + 1) :: st) σ → G pc L (vT (2 * i) :: st) σ) ∧
  (∀ pc L st σ (i : Nat), i < 14 → ab_own M = 20 → decode (ab_cc M) pc = .ok (.getfield 15, 3) → G (pc + 3) L (.inl 0 :: st) σ → G pc L (vT (2 * i) :: st) σ) ∧
  (∀ pc L st σ (i : Nat), i < 14 → decode (ab_cc M) pc = .ok (.arraylength, 1) → G (pc + 1) L (.inl ((ab_sl.getD i 0 : Nat) : Int) :: st) σ → G pc L (vT (2 * i + 1) :: st) σ) ∧
  (∀ pc L st σ (i : Nat) (j : Int), i < 14 → (0 ≤ j ∧ j < (ab_sl.getD i 0 : Nat)) → decode (ab_cc M) pc = .ok (.baload, 1) → G (pc + 1) L (.inl ((ab_sb.getD i []).getD j.toNat 0).toInt :: st) σ → G pc L (.inl j :: vT (2 * i + 1) :: st) σ) ∧
  (∀ pc L st σ (x : Int), (0 ≤ x ∧ x < 256) → decode (ab_cc M) pc = .ok (.i2c, 1) → G (pc + 1) L (.inl x :: st) σ → G pc L (.inl x :: st) σ) ∧
  (∀ pc L σ (x : Int), ((ab_rt M = some .char ∧ 0 ≤ x ∧ x < 256) ∨ (ab_rt M = some .byte ∧ x = 0)) → decode (ab_cc M) pc = .ok (.ireturn, 1) → Rt (.inl x) σ → G pc L [.inl x] σ) ∧
  (∀ pc L st σ (i j k : Nat) (N : ab_M) (r : List ab_V), i < 14 → decode (ab_cc M) pc = .ok (.invokevirtual j, 3) → st.drop k = vT (2 * i) :: r → ab_T8 (ab_own M) j N → ab_na N = k + 1 → ab_rok M N r → ab_Runs Γ N (vT (2 * i) :: (st.take k).reverse) σ (fun v τ => G (pc + 3) L (ab_psh N v r) τ) → G pc L st σ) ∧
  (∀ pc L st σ (j : Nat) (N : ab_M), decode (ab_cc M) pc = .ok (.invokestatic j, 3) → ab_T9 (ab_own M) j N → ab_na N ≤ st.length → ab_rok M N (st.drop (ab_na N)) → ab_Runs Γ N (st.take (ab_na N)).reverse σ (fun v τ => G (pc + 3) L (ab_psh N v (st.drop (ab_na N))) τ) → G pc L st σ)
theorem ab_runsT {Γ : List ab_O} {M : ab_M} {vs : List ab_V} {σ : ab_S} {Rt : ab_V → ab_S → Prop} (hcode : Cond.code (ab_y M) (ab_cc M) (ab_ml M) (ab_rt M) ∈ ab_TG) (hcl : (plainName (ab_y M).cls && decide ((ab_y M).cls = ab_cn (ab_own M))) = true) (hlen : (ab_en vs).length ≤ ab_ml M)
    (h : ∀ G : ab_K, ab_GoodT Γ M G Rt → G 0 (ab_ent (ab_ml M) vs) [] σ) : ab_Runs Γ M vs σ Rt := by
  refine ⟨hcode, ?_⟩
  intro l D cs ad kd sz
  obtain ⟨hpl, hcl⟩ := Bool.and_eq_true_iff.mp hcl
  have hcl := of_decide_eq_true hcl
  refine Met.ofW (cc := ab_cc M) (maxL := ab_ml M) (ret := ab_rt M) hpl rfl ?_
  intro p e s m args below meth c s₁ B hml hv
  obtain ⟨rfl, hsz, hP, hK, hD0, hE⟩ := hv
  subst hsz
  have hts0 := atoms_spec (ws := ab_ws M) B.pre
  have hown : s.vm.findClass (ab_y M).cls = some m.cls := findClass_of_methodNamed B.named
  have hA0 : ∀ σ' : ab_S, va_A (ab_w Γ cs ad σ') s.heap.size = va_A (ab_w Γ cs ad σ) s.heap.size := by
    intro σ'
    funext q
    unfold va_A
    have : ∀ τ τ' : ab_S, (∃ (k : Nat) (e : va_E), (ab_w Γ cs ad τ)[k]? = some (q, e)) → ∃ (k : Nat) (e : va_E), (ab_w Γ cs ad τ')[k]? = some (q, e) := by
      rintro τ τ' ⟨k, e, hk⟩
      have hlt : k < Γ.length := by
        have := (List.getElem?_eq_some_iff.mp hk).1
        simpa [ab_w] using this
      have hg : Γ[k]? = some Γ[k] := List.getElem?_eq_getElem hlt
      rw [ab_w_get hg] at hk
      cases hk
      exact ⟨k, _, ab_w_get hg⟩
    exact propext ⟨fun z => z.elim (fun z => Or.inl (this _ _ z)) Or.inr, fun z => z.elim (fun z => Or.inl (this _ _ z)) Or.inr⟩
  have hDs : ∀ σ' : ab_S, va_D (va_A (ab_w Γ cs ad σ) s.heap.size) (ab_w Γ cs ad σ') := by
    intro σ'
    rw [← hA0 σ']
    refine va_D.self (A := fun _ => True) ⟨?_, fun _ _ _ => trivial⟩
    intro i j p1 q1 hi hj hpq
    have hli : i < Γ.length := by
      have := (List.getElem?_eq_some_iff.mp hi).1
      simpa [ab_w] using this
    have hlj : j < Γ.length := by
      have := (List.getElem?_eq_some_iff.mp hj).1
      simpa [ab_w] using this
    have gi : Γ[i]? = some Γ[i] := List.getElem?_eq_getElem hli
    have gj : Γ[j]? = some Γ[j] := List.getElem?_eq_getElem hlj
    rw [ab_w_get gi] at hi
    rw [ab_w_get gj] at hj
    cases hi
    cases hj
    exact hD0.1 i j _ _ (ab_w_get gi) (ab_w_get gj) hpq
  have C : ab_Cx Γ M D cs ad kd (va_A (ab_w Γ cs ad σ) s.heap.size) p s m ((vs.map (ab_d ad kd)).toArray) meth c :=
    ⟨B.exec, B.bytes, hml, by rw [← hcl]; exact hown, fun w hw => hts0 w (List.mem_cons_of_mem _ hw), hK, hDs, fun q hq => Or.inr hq, hE⟩
  have hgo : ab_GoodT Γ M (ab_GG Γ M l D cs ad kd (va_A (ab_w Γ cs ad σ) s.heap.size) p e s m ((vs.map (ab_d ad kd)).toArray) below meth c (MQ below (ab_Q M Rt (ab_B Γ D cs ad) (va_A (ab_w Γ cs ad σ) s.heap.size)) ((vs.map (ab_d ad kd)).toArray) s 0 0 (va_A (ab_w Γ cs ad σ) s.heap.size))) Rt :=
    ⟨fun cuts n pc L st σ' hg => ab_stp_ok C B.returns B.notSynchronized hg (ab_wp_ok C B.returns B.notSynchronized cuts (fun _ _ _ _ z => z) n),
      fun _ _ _ _ a b k => ab_t_c C a b k, fun _ _ _ _ a b k => ab_t_f C a b k, fun _ _ _ _ _ a b c k => ab_t_v C a b c k, fun _ _ _ _ _ a b c k => ab_t_d C a b c k, fun _ _ _ _ _ a b k => ab_t_len C a b k, fun _ _ _ _ _ _ a b c k => ab_t_b C a b c k, fun _ _ _ _ _ a b k => ab_t_i2c C a b k, fun _ _ _ _ a b k => ab_t_ret C B.returns B.notSynchronized a b k,
      fun _ _ _ _ _ _ _ _ _ a b c d f g k => ab_t_virt C a b c d f g k (fun _ _ z => z), fun _ _ _ _ _ _ a b c d k => ab_t_stat C a b c d k (fun _ _ z => z)⟩
  have hl := ab_en_len (ad := ad) (kd := kd) vs
  rw [lg_entry_eq]
  have hlv := lv_entry (vs.map (ab_d ad kd)) (n := ab_ml M) (by rw [hl]; exact hlen)
  exact h _ hgo s.heap [] _ hP va_S.rf (ab_ent_lv hlv)
-- the methods
def mdJ3_checkIndex_8e157 : ab_M := (23, yJ3_checkIndex_8e157, cJ3_checkIndex_8e157, 3, (some .int), 0, 0, 3)
def mdJ0_checkIndex_df160 : ab_M := (20, yJ0_checkIndex_df160, cJ0_checkIndex_df160, 2, none, 1, 22, 2)
def mdJ1_charAt_3b067 : ab_M := (21, yJ1_charAt_3b067, cJ1_charAt_3b067, 2, (some .char), 2, 43, 2)
def mdJ0_isLatin1_aae02 : ab_M := (20, yJ0_isLatin1_aae02, cJ0_isLatin1_aae02, 1, (some .boolean), 0, 0, 1)
def mdJ0_coder_7d493 : ab_M := (20, yJ0_coder_7d493, cJ0_coder_7d493, 1, (some .byte), 0, 0, 1)
def mdJ0_charAt_5068e : ab_M := (20, yJ0_charAt_5068e, cJ0_charAt_5068e, 2, (some .char), 3, 64, 2)
def mdJ0_length_8abf5 : ab_M := (20, yJ0_length_8abf5, cJ0_length_8abf5, 1, (some .int), 1, 20, 1)
theorem mwJ3_checkIndex_8e157 : Cond.code (ab_y mdJ3_checkIndex_8e157) (ab_cc mdJ3_checkIndex_8e157) (ab_ml mdJ3_checkIndex_8e157) (ab_rt mdJ3_checkIndex_8e157) ∈ ab_TG := ab_ag_ok (i := 853) (by decide +kernel)
theorem moJ3_checkIndex_8e157 : ab_own mdJ3_checkIndex_8e157 = 23 ∧ ab_cc mdJ3_checkIndex_8e157 = cJ3_checkIndex_8e157 ∧ ab_ml mdJ3_checkIndex_8e157 = 3 ∧ ab_rt mdJ3_checkIndex_8e157 = (some .int) ∧ ab_fr mdJ3_checkIndex_8e157 = 0 ∧ ab_lo mdJ3_checkIndex_8e157 = 0 ∧ ab_na mdJ3_checkIndex_8e157 = 3 := ⟨rfl, rfl, rfl, rfl, rfl, rfl, rfl⟩
theorem dJ3_checkIndex_8e157_0 : decode cJ3_checkIndex_8e157 0 = .ok (.iload_n 0, 1) := by decide +kernel
theorem dJ3_checkIndex_8e157_1 : decode cJ3_checkIndex_8e157 1 = .ok (.ifCond .lt 8, 3) := by decide +kernel
theorem dJ3_checkIndex_8e157_4 : decode cJ3_checkIndex_8e157 4 = .ok (.iload_n 0, 1) := by decide +kernel
theorem dJ3_checkIndex_8e157_5 : decode cJ3_checkIndex_8e157 5 = .ok (.iload_n 1, 1) := by decide +kernel
theorem dJ3_checkIndex_8e157_6 : decode cJ3_checkIndex_8e157 6 = .ok (.if_icmp .lt 10, 3) := by decide +kernel
theorem dJ3_checkIndex_8e157_9 : decode cJ3_checkIndex_8e157 9 = .ok (.aload_n 2, 1) := by decide +kernel
theorem dJ3_checkIndex_8e157_10 : decode cJ3_checkIndex_8e157 10 = .ok (.iload_n 0, 1) := by decide +kernel
theorem dJ3_checkIndex_8e157_11 : decode cJ3_checkIndex_8e157 11 = .ok (.iload_n 1, 1) := by decide +kernel
theorem dJ3_checkIndex_8e157_12 : decode cJ3_checkIndex_8e157 12 = .ok (.invokestatic 95, 3) := by decide +kernel
theorem dJ3_checkIndex_8e157_15 : decode cJ3_checkIndex_8e157 15 = .ok (.athrow, 1) := by decide +kernel
theorem dJ3_checkIndex_8e157_16 : decode cJ3_checkIndex_8e157 16 = .ok (.iload_n 0, 1) := by decide +kernel
theorem dJ3_checkIndex_8e157_17 : decode cJ3_checkIndex_8e157 17 = .ok (.ireturn, 1) := by decide +kernel
theorem mwJ0_checkIndex_df160 : Cond.code (ab_y mdJ0_checkIndex_df160) (ab_cc mdJ0_checkIndex_df160) (ab_ml mdJ0_checkIndex_df160) (ab_rt mdJ0_checkIndex_df160) ∈ ab_TG := ab_ag_ok (i := 848) (by decide +kernel)
theorem moJ0_checkIndex_df160 : ab_own mdJ0_checkIndex_df160 = 20 ∧ ab_cc mdJ0_checkIndex_df160 = cJ0_checkIndex_df160 ∧ ab_ml mdJ0_checkIndex_df160 = 2 ∧ ab_rt mdJ0_checkIndex_df160 = none ∧ ab_fr mdJ0_checkIndex_df160 = 1 ∧ ab_lo mdJ0_checkIndex_df160 = 22 ∧ ab_na mdJ0_checkIndex_df160 = 2 := ⟨rfl, rfl, rfl, rfl, rfl, rfl, rfl⟩
theorem dJ0_checkIndex_df160_0 : decode cJ0_checkIndex_df160 0 = .ok (.iload_n 0, 1) := by decide +kernel
theorem dJ0_checkIndex_df160_1 : decode cJ0_checkIndex_df160 1 = .ok (.iload_n 1, 1) := by decide +kernel
theorem dJ0_checkIndex_df160_2 : decode cJ0_checkIndex_df160 2 = .ok (.getstatic 1053, 3) := by decide +kernel
theorem dJ0_checkIndex_df160_5 : decode cJ0_checkIndex_df160 5 = .ok (.invokestatic 1059, 3) := by decide +kernel
theorem dJ0_checkIndex_df160_8 : decode cJ0_checkIndex_df160 8 = .ok (.pop, 1) := by decide +kernel
theorem dJ0_checkIndex_df160_9 : decode cJ0_checkIndex_df160 9 = .ok (.return_, 1) := by decide +kernel
theorem mwJ1_charAt_3b067 : Cond.code (ab_y mdJ1_charAt_3b067) (ab_cc mdJ1_charAt_3b067) (ab_ml mdJ1_charAt_3b067) (ab_rt mdJ1_charAt_3b067) ∈ ab_TG := ab_ag_ok (i := 845) (by decide +kernel)
theorem moJ1_charAt_3b067 : ab_own mdJ1_charAt_3b067 = 21 ∧ ab_cc mdJ1_charAt_3b067 = cJ1_charAt_3b067 ∧ ab_ml mdJ1_charAt_3b067 = 2 ∧ ab_rt mdJ1_charAt_3b067 = (some .char) ∧ ab_fr mdJ1_charAt_3b067 = 2 ∧ ab_lo mdJ1_charAt_3b067 = 43 ∧ ab_na mdJ1_charAt_3b067 = 2 := ⟨rfl, rfl, rfl, rfl, rfl, rfl, rfl⟩
theorem dJ1_charAt_3b067_0 : decode cJ1_charAt_3b067 0 = .ok (.iload_n 1, 1) := by decide +kernel
theorem dJ1_charAt_3b067_1 : decode cJ1_charAt_3b067 1 = .ok (.aload_n 0, 1) := by decide +kernel
theorem dJ1_charAt_3b067_2 : decode cJ1_charAt_3b067 2 = .ok (.arraylength, 1) := by decide +kernel
theorem dJ1_charAt_3b067_3 : decode cJ1_charAt_3b067 3 = .ok (.invokestatic 9, 3) := by decide +kernel
theorem dJ1_charAt_3b067_6 : decode cJ1_charAt_3b067 6 = .ok (.aload_n 0, 1) := by decide +kernel
theorem dJ1_charAt_3b067_7 : decode cJ1_charAt_3b067 7 = .ok (.iload_n 1, 1) := by decide +kernel
theorem dJ1_charAt_3b067_8 : decode cJ1_charAt_3b067 8 = .ok (.baload, 1) := by decide +kernel
theorem dJ1_charAt_3b067_9 : decode cJ1_charAt_3b067 9 = .ok (.sipush 255, 3) := by decide +kernel
theorem dJ1_charAt_3b067_12 : decode cJ1_charAt_3b067 12 = .ok (.iand, 1) := by decide +kernel
theorem dJ1_charAt_3b067_13 : decode cJ1_charAt_3b067 13 = .ok (.i2c, 1) := by decide +kernel
theorem dJ1_charAt_3b067_14 : decode cJ1_charAt_3b067 14 = .ok (.ireturn, 1) := by decide +kernel
theorem mwJ0_isLatin1_aae02 : Cond.code (ab_y mdJ0_isLatin1_aae02) (ab_cc mdJ0_isLatin1_aae02) (ab_ml mdJ0_isLatin1_aae02) (ab_rt mdJ0_isLatin1_aae02) ∈ ab_TG := ab_ag_ok (i := 842) (by decide +kernel)
theorem moJ0_isLatin1_aae02 : ab_own mdJ0_isLatin1_aae02 = 20 ∧ ab_cc mdJ0_isLatin1_aae02 = cJ0_isLatin1_aae02 ∧ ab_ml mdJ0_isLatin1_aae02 = 1 ∧ ab_rt mdJ0_isLatin1_aae02 = (some .boolean) ∧ ab_fr mdJ0_isLatin1_aae02 = 0 ∧ ab_lo mdJ0_isLatin1_aae02 = 0 ∧ ab_na mdJ0_isLatin1_aae02 = 1 := ⟨rfl, rfl, rfl, rfl, rfl, rfl, rfl⟩
theorem dJ0_isLatin1_aae02_0 : decode cJ0_isLatin1_aae02 0 = .ok (.getstatic 38, 3) := by decide +kernel
theorem dJ0_isLatin1_aae02_3 : decode cJ0_isLatin1_aae02 3 = .ok (.ifCond .eq 14, 3) := by decide +kernel
theorem dJ0_isLatin1_aae02_6 : decode cJ0_isLatin1_aae02 6 = .ok (.aload_n 0, 1) := by decide +kernel
theorem dJ0_isLatin1_aae02_7 : decode cJ0_isLatin1_aae02 7 = .ok (.getfield 15, 3) := by decide +kernel
theorem dJ0_isLatin1_aae02_10 : decode cJ0_isLatin1_aae02 10 = .ok (.ifCond .ne 7, 3) := by decide +kernel
theorem dJ0_isLatin1_aae02_13 : decode cJ0_isLatin1_aae02 13 = .ok (.iconst 1, 1) := by decide +kernel
theorem dJ0_isLatin1_aae02_14 : decode cJ0_isLatin1_aae02 14 = .ok (.goto 4, 3) := by decide +kernel
theorem dJ0_isLatin1_aae02_17 : decode cJ0_isLatin1_aae02 17 = .ok (.iconst 0, 1) := by decide +kernel
theorem dJ0_isLatin1_aae02_18 : decode cJ0_isLatin1_aae02 18 = .ok (.ireturn, 1) := by decide +kernel
theorem mwJ0_coder_7d493 : Cond.code (ab_y mdJ0_coder_7d493) (ab_cc mdJ0_coder_7d493) (ab_ml mdJ0_coder_7d493) (ab_rt mdJ0_coder_7d493) ∈ ab_TG := ab_ag_ok (i := 832) (by decide +kernel)
theorem moJ0_coder_7d493 : ab_own mdJ0_coder_7d493 = 20 ∧ ab_cc mdJ0_coder_7d493 = cJ0_coder_7d493 ∧ ab_ml mdJ0_coder_7d493 = 1 ∧ ab_rt mdJ0_coder_7d493 = (some .byte) ∧ ab_fr mdJ0_coder_7d493 = 0 ∧ ab_lo mdJ0_coder_7d493 = 0 ∧ ab_na mdJ0_coder_7d493 = 1 := ⟨rfl, rfl, rfl, rfl, rfl, rfl, rfl⟩
theorem dJ0_coder_7d493_0 : decode cJ0_coder_7d493 0 = .ok (.getstatic 38, 3) := by decide +kernel
theorem dJ0_coder_7d493_3 : decode cJ0_coder_7d493 3 = .ok (.ifCond .eq 10, 3) := by decide +kernel
theorem dJ0_coder_7d493_6 : decode cJ0_coder_7d493 6 = .ok (.aload_n 0, 1) := by decide +kernel
theorem dJ0_coder_7d493_7 : decode cJ0_coder_7d493 7 = .ok (.getfield 15, 3) := by decide +kernel
theorem dJ0_coder_7d493_10 : decode cJ0_coder_7d493 10 = .ok (.goto 4, 3) := by decide +kernel
theorem dJ0_coder_7d493_13 : decode cJ0_coder_7d493 13 = .ok (.iconst 1, 1) := by decide +kernel
theorem dJ0_coder_7d493_14 : decode cJ0_coder_7d493 14 = .ok (.ireturn, 1) := by decide +kernel
theorem mwJ0_charAt_5068e : Cond.code (ab_y mdJ0_charAt_5068e) (ab_cc mdJ0_charAt_5068e) (ab_ml mdJ0_charAt_5068e) (ab_rt mdJ0_charAt_5068e) ∈ ab_TG := ab_ag_ok (i := 838) (by decide +kernel)
theorem moJ0_charAt_5068e : ab_own mdJ0_charAt_5068e = 20 ∧ ab_cc mdJ0_charAt_5068e = cJ0_charAt_5068e ∧ ab_ml mdJ0_charAt_5068e = 2 ∧ ab_rt mdJ0_charAt_5068e = (some .char) ∧ ab_fr mdJ0_charAt_5068e = 3 ∧ ab_lo mdJ0_charAt_5068e = 64 ∧ ab_na mdJ0_charAt_5068e = 2 := ⟨rfl, rfl, rfl, rfl, rfl, rfl, rfl⟩
theorem dJ0_charAt_5068e_0 : decode cJ0_charAt_5068e 0 = .ok (.aload_n 0, 1) := by decide +kernel
theorem dJ0_charAt_5068e_1 : decode cJ0_charAt_5068e 1 = .ok (.invokevirtual 492, 3) := by decide +kernel
theorem dJ0_charAt_5068e_4 : decode cJ0_charAt_5068e 4 = .ok (.ifCond .eq 12, 3) := by decide +kernel
theorem dJ0_charAt_5068e_7 : decode cJ0_charAt_5068e 7 = .ok (.aload_n 0, 1) := by decide +kernel
theorem dJ0_charAt_5068e_8 : decode cJ0_charAt_5068e 8 = .ok (.getfield 9, 3) := by decide +kernel
theorem dJ0_charAt_5068e_11 : decode cJ0_charAt_5068e 11 = .ok (.iload_n 1, 1) := by decide +kernel
theorem dJ0_charAt_5068e_12 : decode cJ0_charAt_5068e 12 = .ok (.invokestatic 495, 3) := by decide +kernel
theorem dJ0_charAt_5068e_15 : decode cJ0_charAt_5068e 15 = .ok (.ireturn, 1) := by decide +kernel
theorem mwJ0_length_8abf5 : Cond.code (ab_y mdJ0_length_8abf5) (ab_cc mdJ0_length_8abf5) (ab_ml mdJ0_length_8abf5) (ab_rt mdJ0_length_8abf5) ∈ ab_TG := ab_ag_ok (i := 828) (by decide +kernel)
theorem moJ0_length_8abf5 : ab_own mdJ0_length_8abf5 = 20 ∧ ab_cc mdJ0_length_8abf5 = cJ0_length_8abf5 ∧ ab_ml mdJ0_length_8abf5 = 1 ∧ ab_rt mdJ0_length_8abf5 = (some .int) ∧ ab_fr mdJ0_length_8abf5 = 1 ∧ ab_lo mdJ0_length_8abf5 = 20 ∧ ab_na mdJ0_length_8abf5 = 1 := ⟨rfl, rfl, rfl, rfl, rfl, rfl, rfl⟩
theorem dJ0_length_8abf5_0 : decode cJ0_length_8abf5 0 = .ok (.aload_n 0, 1) := by decide +kernel
theorem dJ0_length_8abf5_1 : decode cJ0_length_8abf5 1 = .ok (.getfield 9, 3) := by decide +kernel
theorem dJ0_length_8abf5_4 : decode cJ0_length_8abf5 4 = .ok (.arraylength, 1) := by decide +kernel
theorem dJ0_length_8abf5_5 : decode cJ0_length_8abf5 5 = .ok (.aload_n 0, 1) := by decide +kernel
theorem dJ0_length_8abf5_6 : decode cJ0_length_8abf5 6 = .ok (.invokevirtual 335, 3) := by decide +kernel
theorem dJ0_length_8abf5_9 : decode cJ0_length_8abf5 9 = .ok (.ishr, 1) := by decide +kernel
theorem dJ0_length_8abf5_10 : decode cJ0_length_8abf5 10 = .ok (.ireturn, 1) := by decide +kernel
