-- arrays, calls and returns over the machine
theorem ab_toN {i : Int} (h : 0 ≤ i) : ((i.toNat : Nat) : Int) = i := by omega
theorem ab_updI {σ : ab_S} {o : Nat} {i x : Int} (h : 0 ≤ i) : (fun j : Nat => Int32.ofInt (ab_up σ o i x o (j : Int))) = upd (fun j : Nat => Int32.ofInt (σ o (j : Int))) i.toNat (Int32.ofInt x) := by
  funext j
  unfold upd ab_up
  rw [if_pos rfl]
  by_cases hj : j = i.toNat
  · rw [if_pos (by omega), if_pos hj]
  · rw [if_neg (by omega), if_neg hj]
theorem ab_updL {σ : ab_S} {o : Nat} {i x : Int} (h : 0 ≤ i) : (fun j : Nat => Int64.ofInt (ab_up σ o i x o (j : Int))) = vp_updL (fun j : Nat => Int64.ofInt (σ o (j : Int))) i.toNat (Int64.ofInt x) := by
  funext j
  unfold vp_updL ab_up
  rw [if_pos rfl]
  by_cases hj : j = i.toNat
  · rw [if_pos (by omega), if_pos hj]
  · rw [if_neg (by omega), if_neg hj]
theorem ab_cpy_o {σ : ab_S} {o0 o1 : Nat} {sp dp n : Int} : ∀ q, q ≠ o1 → ab_cpy σ o0 sp o1 dp n q = σ q := fun q hq => by
  funext j
  simp [ab_cpy, hq]
theorem ab_cpyI {σ : ab_S} {o0 o1 : Nat} {sp dp n : Int} (h1 : 0 ≤ sp) (h2 : 0 ≤ dp) (h3 : 0 ≤ n) : (fun j : Nat => Int32.ofInt (ab_cpy σ o0 sp o1 dp n o1 (j : Int))) = va_cpy (fun j : Nat => Int32.ofInt (σ o0 (j : Int))) (fun j : Nat => Int32.ofInt (σ o1 (j : Int))) sp.toNat dp.toNat n.toNat := by
  funext j
  unfold va_cpy ab_cpy
  rw [if_pos rfl]
  by_cases hj : dp ≤ (j : Int) ∧ (j : Int) < dp + n
  · rw [if_pos hj, if_pos (by omega)]
    have : sp + ((j : Int) - dp) = ((sp.toNat + (j - dp.toNat) : Nat) : Int) := by omega
    rw [this]
  · rw [if_neg hj, if_neg (by omega)]
section
variable {Γ : List ab_O} {M : ab_M} {l : Launch} {D : va_G} {cs : Nat → ClassId} {ad kd : Nat → Nat} {A : Nat → Prop} {p : Program} {e : Env} {s : State} {m : MethodId} {args : Array Value} {below : List Frame} {meth : Method} {c : Code} {Q : State → Prop} {pc : Nat} {L : ab_L} {st : List ab_V} {σ : ab_S}
theorem ab_c20 {o n : Nat} {r : List (Option Nat)} (h : Γ[o]? = some (20, n, r)) : (ab_w Γ cs ad σ)[o]? = some (ad o, .inl (cs 0, n, .inl (fun j : Nat => Int32.ofInt (σ o j)))) := ab_w_get h
theorem ab_c21 {o n : Nat} {r : List (Option Nat)} (h : Γ[o]? = some (21, n, r)) : (ab_w Γ cs ad σ)[o]? = some (ad o, .inl (cs 1, n, .inr (.inl (fun j : Nat => Int64.ofInt (σ o j))))) := ab_w_get h
theorem ab_c22 {o n : Nat} {r : List (Option Nat)} (h : Γ[o]? = some (22, n, r)) : (ab_w Γ cs ad σ)[o]? = some (ad o, .inl (cs 2, n, .inl (fun j : Nat => Int32.ofInt (σ o j)))) := ab_w_get h
theorem ab_c23 {o n : Nat} {r : List (Option Nat)} (h : Γ[o]? = some (23, n, r)) : (ab_w Γ cs ad σ)[o]? = some (ad o, .inl (cs 3, n, .inl (fun j : Nat => Int32.ofInt (σ o j)))) := ab_w_get h
theorem ab_c24 {o n : Nat} {r : List (Option Nat)} (h : Γ[o]? = some (24, n, r)) : (ab_w Γ cs ad σ)[o]? = some (ad o, .inl (cs 4, n, .inr (.inr (.inr (.inr (fun j : Nat => (r.getD j none).map ad)))))) := ab_w_get h
theorem ab_s_iald (C : ab_Cx Γ M D cs ad kd A p s m args meth c) {o n : Nat} {r : List (Option Nat)} {i : Int} (hd : decode (ab_cc M) pc = .ok (.iaload, 1)) (hΓ : Γ[o]? = some (20, n, r)) (hi : 0 ≤ i ∧ i < n ∧ n < 100000)
    (k : ab_GG Γ M l D cs ad kd A p e s m args below meth c Q (pc + 1) L (.inl (σ o i) :: st) σ) : ab_GG Γ M l D cs ad kd A p e s m args below meth c Q pc L (.inl i :: .inr (.inr (.inl o)) :: st) σ := by
  intro H locs ls hP hS hL
  have kk := k H locs ls hP hS hL
  obtain ⟨hx, hb, hml, hown, hts, hK, hD, hA, hE⟩ := C
  obtain ⟨h1, h2⟩ := ab_in_i hi
  refine va_iald hx hb hK hP o 0 (ab_c20 hΓ) rfl h1 hd ?_
  rw [h2, ab_toN hi.1]
  exact kk
theorem ab_s_lald (C : ab_Cx Γ M D cs ad kd A p s m args meth c) {o n : Nat} {r : List (Option Nat)} {i : Int} (hd : decode (ab_cc M) pc = .ok (.laload, 1)) (hΓ : Γ[o]? = some (21, n, r)) (hi : 0 ≤ i ∧ i < n ∧ n < 100000)
    (k : ab_GG Γ M l D cs ad kd A p e s m args below meth c Q (pc + 1) L (.inr (.inl (σ o i)) :: st) σ) : ab_GG Γ M l D cs ad kd A p e s m args below meth c Q pc L (.inl i :: .inr (.inr (.inl o)) :: st) σ := by
  intro H locs ls hP hS hL
  have kk := k H locs ls hP hS hL
  obtain ⟨hx, hb, hml, hown, hts, hK, hD, hA, hE⟩ := C
  obtain ⟨h1, h2⟩ := ab_in_i hi
  refine va_lald hx hb hK hP o 1 (ab_c21 hΓ) rfl h1 hd ?_
  rw [h2, ab_toN hi.1]
  exact kk
theorem ab_s_bald (C : ab_Cx Γ M D cs ad kd A p s m args meth c) {o n t : Nat} {r : List (Option Nat)} {i : Int} (hd : decode (ab_cc M) pc = .ok (.baload, 1)) (ht : t = 22 ∨ t = 23) (hΓ : Γ[o]? = some (t, n, r)) (hi : 0 ≤ i ∧ i < n ∧ n < 100000)
    (k : ab_GG Γ M l D cs ad kd A p e s m args below meth c Q (pc + 1) L (.inl (σ o i) :: st) σ) : ab_GG Γ M l D cs ad kd A p e s m args below meth c Q pc L (.inl i :: .inr (.inr (.inl o)) :: st) σ := by
  intro H locs ls hP hS hL
  have kk := k H locs ls hP hS hL
  obtain ⟨hx, hb, hml, hown, hts, hK, hD, hA, hE⟩ := C
  obtain ⟨h1, h2⟩ := ab_in_i hi
  rcases ht with rfl | rfl
  · refine va_zald hx hb hK hP o 2 (ab_c22 hΓ) rfl h1 hd ?_
    rw [h2, ab_toN hi.1]
    exact kk
  · refine va_bald hx hb hK hP o 3 (ab_c23 hΓ) rfl h1 hd ?_
    rw [h2, ab_toN hi.1]
    exact kk
theorem ab_s_iast (C : ab_Cx Γ M D cs ad kd A p s m args meth c) {o n : Nat} {r : List (Option Nat)} {i x : Int} (hd : decode (ab_cc M) pc = .ok (.iastore, 1)) (hΓ : Γ[o]? = some (20, n, r)) (hi : 0 ≤ i ∧ i < n ∧ n < 100000)
    (k : ab_GG Γ M l D cs ad kd A p e s m args below meth c Q (pc + 1) L st (ab_up σ o i x)) : ab_GG Γ M l D cs ad kd A p e s m args below meth c Q pc L (.inl x :: .inl i :: .inr (.inr (.inl o)) :: st) σ := by
  intro H locs ls hP hS hL
  obtain ⟨hx, hb, hml, hown, hts, hK, hD, hA, hE⟩ := C
  obtain ⟨h1, h2⟩ := ab_in_i hi
  refine va_iast hx hb hK hP (hD σ) hS o 0 (ab_c20 hΓ) rfl h1 hd ?_
  intro H1 locs1 hP1 hD1 hS1
  rw [h2, ← ab_updI hi.1] at hP1
  exact k H1 locs1 ls (by rw [ab_w_set (σ := σ) hΓ ab_up_o]; exact hP1) hS1 hL
theorem ab_s_last (C : ab_Cx Γ M D cs ad kd A p s m args meth c) {o n : Nat} {r : List (Option Nat)} {i x : Int} (hd : decode (ab_cc M) pc = .ok (.lastore, 1)) (hΓ : Γ[o]? = some (21, n, r)) (hi : 0 ≤ i ∧ i < n ∧ n < 100000)
    (k : ab_GG Γ M l D cs ad kd A p e s m args below meth c Q (pc + 1) L st (ab_up σ o i x)) : ab_GG Γ M l D cs ad kd A p e s m args below meth c Q pc L (.inr (.inl x) :: .inl i :: .inr (.inr (.inl o)) :: st) σ := by
  intro H locs ls hP hS hL
  obtain ⟨hx, hb, hml, hown, hts, hK, hD, hA, hE⟩ := C
  obtain ⟨h1, h2⟩ := ab_in_i hi
  refine va_last hx hb hK hP (hD σ) hS o 1 (ab_c21 hΓ) rfl h1 hd ?_
  intro H1 locs1 hP1 hD1 hS1
  rw [h2, ← ab_updL hi.1] at hP1
  exact k H1 locs1 ls (by rw [ab_w_set (σ := σ) hΓ ab_up_o]; exact hP1) hS1 hL
theorem ab_s_bast (C : ab_Cx Γ M D cs ad kd A p s m args meth c) {o n t : Nat} {r : List (Option Nat)} {i x : Int} (hd : decode (ab_cc M) pc = .ok (.bastore, 1)) (ht : (t = 22 ∧ (x = 0 ∨ x = 1)) ∨ (t = 23 ∧ -128 ≤ x ∧ x ≤ 127)) (hΓ : Γ[o]? = some (t, n, r)) (hi : 0 ≤ i ∧ i < n ∧ n < 100000)
    (k : ab_GG Γ M l D cs ad kd A p e s m args below meth c Q (pc + 1) L st (ab_up σ o i x)) : ab_GG Γ M l D cs ad kd A p e s m args below meth c Q pc L (.inl x :: .inl i :: .inr (.inr (.inl o)) :: st) σ := by
  intro H locs ls hP hS hL
  obtain ⟨hx, hb, hml, hown, hts, hK, hD, hA, hE⟩ := C
  obtain ⟨h1, h2⟩ := ab_in_i hi
  rcases ht with ⟨rfl, hz⟩ | ⟨rfl, hz⟩
  · refine va_zast hx hb hK hP (hD σ) hS o 2 (ab_c22 hΓ) rfl h1 hd ?_
    intro H1 locs1 hP1 hD1 hS1
    have hv : vp_nar .boolean (Int32.ofInt x) = Int32.ofInt x := by
      rcases hz with rfl | rfl
      · exact ab_vz0
      · exact ab_vz1
    rw [h2, hv, ← ab_updI hi.1] at hP1
    exact k H1 locs1 ls (by rw [ab_w_set (σ := σ) hΓ ab_up_o]; exact hP1) hS1 hL
  · refine va_bast hx hb hK hP (hD σ) hS o 3 (ab_c23 hΓ) rfl h1 hd ?_
    intro H1 locs1 hP1 hD1 hS1
    rw [h2, ab_vb hz, ← ab_updI hi.1] at hP1
    exact k H1 locs1 ls (by rw [ab_w_set (σ := σ) hΓ ab_up_o]; exact hP1) hS1 hL
theorem ab_s_aald (C : ab_Cx Γ M D cs ad kd A p s m args meth c) {o n q : Nat} {r : List (Option Nat)} {i : Int} (hd : decode (ab_cc M) pc = .ok (.aaload, 1)) (hΓ : Γ[o]? = some (24, n, r)) (hi : 0 ≤ i ∧ i < n ∧ n < 100000) (hq : r.getD i.toNat none = some q)
    (k : ab_GG Γ M l D cs ad kd A p e s m args below meth c Q (pc + 1) L (.inr (.inr (.inl q)) :: st) σ) : ab_GG Γ M l D cs ad kd A p e s m args below meth c Q pc L (.inl i :: .inr (.inr (.inl o)) :: st) σ := by
  intro H locs ls hP hS hL
  have kk := k H locs ls hP hS hL
  obtain ⟨hx, hb, hml, hown, hts, hK, hD, hA, hE⟩ := C
  obtain ⟨h1, h2⟩ := ab_in_i hi
  refine va_aldq hx hb hK hP o 4 (ab_c24 hΓ) rfl h1 hd ?_
  rw [h2, hq]
  exact kk
theorem ab_s_alen (C : ab_Cx Γ M D cs ad kd A p s m args meth c) {o n t : Nat} {r : List (Option Nat)} (hd : decode (ab_cc M) pc = .ok (.arraylength, 1)) (ht : 20 ≤ t ∧ t ≤ 24 ∧ n < 100000) (hΓ : Γ[o]? = some (t, n, r))
    (k : ab_GG Γ M l D cs ad kd A p e s m args below meth c Q (pc + 1) L (.inl (n : Int) :: st) σ) : ab_GG Γ M l D cs ad kd A p e s m args below meth c Q pc L (.inr (.inr (.inl o)) :: st) σ := by
  intro H locs ls hP hS hL
  have kk := k H locs ls hP hS hL
  obtain ⟨hx, hb, hml, hown, hts, hK, hD, hA, hE⟩ := C
  have hv : Int32.ofNat n = Int32.ofInt (n : Int) := rfl
  rcases (show t = 20 ∨ t = 21 ∨ t = 22 ∨ t = 23 ∨ t = 24 by omega) with rfl | rfl | rfl | rfl | rfl
  · exact va_alen hx hb hK hP o 0 (ab_c20 hΓ) rfl hv hd kk
  · exact va_alen hx hb hK hP o 1 (ab_c21 hΓ) rfl hv hd kk
  · exact va_alen hx hb hK hP o 2 (ab_c22 hΓ) rfl hv hd kk
  · exact va_alen hx hb hK hP o 3 (ab_c23 hΓ) rfl hv hd kk
  · exact va_alen hx hb hK hP o 4 (ab_c24 hΓ) rfl hv hd kk
-- RETURNS
theorem ab_s_iret (C : ab_Cx Γ M D cs ad kd A p s m args meth c) {Rt : ab_V → ab_S → Prop} {x : Int} (hr : meth.sig.returnType = ab_rt M) (hlk : meth.locks = false) (hd : decode (ab_cc M) pc = .ok (.ireturn, 1)) (h : ab_ret M Rt x σ) :
    ab_GG Γ M l D cs ad kd A p e s m args below meth c (MQ below (ab_Q M Rt (ab_B Γ D cs ad) A) args s 0 0 A) pc L [.inl x] σ := by
  intro H locs ls hP hS hL
  obtain ⟨hx, hb, hml, hown, hts, hK, hD, hA, hE⟩ := C
  unfold ab_ret at h
  cases hm : ab_rt M with
  | none => rw [hm] at h; exact h.elim
  | some ty =>
    rw [hm] at h hr
    cases ty <;> first | exact h.elim | skip
    · refine W.iret hx hb hr (fun t ht hW => ?_) (fun q hq => hS.2.2 q hq) hd hlk
      unfold ab_Q
      rw [hm]
      exact ⟨⟨_, σ, rfl, ⟨x, rfl, h⟩, ⟨by rw [ht]; exact hP, va_K.moved hW.alike hK⟩⟩, hS.F ht⟩
    · refine W.zret (ty := .boolean) hx hb hr ?_ (fun t ht hW => ?_) (fun q hq => hS.2.2 q hq) hd hlk
      · rcases h.1 with rfl | rfl
        · exact ab_nz0
        · exact ab_nz1
      · unfold ab_Q
        rw [hm]
        exact ⟨⟨_, σ, rfl, ⟨x, rfl, h.2⟩, ⟨by rw [ht]; exact hP, va_K.moved hW.alike hK⟩⟩, hS.F ht⟩
theorem ab_s_lret (C : ab_Cx Γ M D cs ad kd A p s m args meth c) {Rt : ab_V → ab_S → Prop} {x : Int} (hr : meth.sig.returnType = ab_rt M) (hlk : meth.locks = false) (hd : decode (ab_cc M) pc = .ok (.lreturn, 1)) (hm : ab_rt M = some .long) (h : Rt (.inr (.inl x)) σ) :
    ab_GG Γ M l D cs ad kd A p e s m args below meth c (MQ below (ab_Q M Rt (ab_B Γ D cs ad) A) args s 0 0 A) pc L [.inr (.inl x)] σ := by
  intro H locs ls hP hS hL
  obtain ⟨hx, hb, hml, hown, hts, hK, hD, hA, hE⟩ := C
  rw [hm] at hr
  refine W.lret hx hb hr (fun t ht hW => ?_) (fun q hq => hS.2.2 q hq) hd hlk
  unfold ab_Q
  rw [hm]
  exact ⟨⟨_, σ, rfl, ⟨x, rfl, h⟩, ⟨by rw [ht]; exact hP, va_K.moved hW.alike hK⟩⟩, hS.F ht⟩
theorem ab_s_vret (C : ab_Cx Γ M D cs ad kd A p s m args meth c) {Rt : ab_V → ab_S → Prop} (hr : meth.sig.returnType = ab_rt M) (hlk : meth.locks = false) (hd : decode (ab_cc M) pc = .ok (.return_, 1)) (hm : ab_rt M = none) (h : Rt (.inl 0) σ) :
    ab_GG Γ M l D cs ad kd A p e s m args below meth c (MQ below (ab_Q M Rt (ab_B Γ D cs ad) A) args s 0 0 A) pc L [] σ := by
  intro H locs ls hP hS hL
  obtain ⟨hx, hb, hml, hown, hts, hK, hD, hA, hE⟩ := C
  rw [hm] at hr
  refine W.vret hx hb hr (fun t ht hW => ?_) (fun q hq => hS.2.2 q hq) hd hlk
  unfold ab_Q
  rw [hm]
  exact ⟨⟨σ, rfl, h, ⟨by rw [ht]; exact hP, va_K.moved hW.alike hK⟩⟩, hS.F ht⟩
-- CALLS
theorem ab_A_in (C : ab_Cx Γ M D cs ad kd A p s m args meth c) {H : Heap} {locs : List Loc} (hS : va_S A s.heap H locs) : ∀ q, va_A (ab_w Γ cs ad σ) H.size q → A q := by
  intro q h
  obtain ⟨hx, hb, hml, hown, hts, hK, hD, hA, hE⟩ := C
  rcases h with ⟨k, en, hk⟩ | h
  · exact (hD σ).2 k _ hk
  · exact hA q (Nat.le_trans hS.1 h)
theorem ab_pre (C : ab_Cx Γ M D cs ad kd A p s m args meth c) {H : Heap} {locs : List Loc} (hP : va_P D vwCl (ab_w Γ cs ad σ) H) (hS : va_S A s.heap H locs) : ∀ U : State, U.heap = H → s.WarmedH U.vm → ab_Pc Γ D cs ad kd σ H.size U := by
  intro U hU hW
  have hin := ab_A_in (σ := σ) C hS
  obtain ⟨hx, hb, hml, hown, hts, hK, hD, hA, hE⟩ := C
  refine ⟨by rw [hU], by rw [hU]; exact hP, va_K.moved hW.alike hK, (hD σ).weaken (fun _ _ _ _ => trivial), ?_⟩
  rw [hU]
  exact ((hE.kept (fun a h1 h2 => hS.2.1 a h1 h2)).narrow hin).warm hW
theorem ab_blind {vs : List Value} {sz : Nat} : FrameBlind (va_Pc vs (ab_Pc Γ D cs ad kd σ sz)) := by
  intro a U g mk h
  obtain ⟨h0, h1, h2, h3, h4, h5⟩ := h
  exact ⟨h0, h1, h2, va_K.moved (u := U) (U := U.calling g mk a) (Vm.Alike.refl U.vm) h3, h4, ab_E.same (s := U) (U := U.calling g mk a) rfl h5⟩
theorem ab_s_run (C : ab_Cx Γ M D cs ad kd A p s m args meth c) {N : ab_M} {K : ab_V → ab_S → Prop} {a : Array Value} {H : Heap} {locs : List Loc} {ls : Array Slot} {st0 : List Value} {r : List ab_V} (hS : va_S A s.heap H locs) (hL : ab_lv ad kd ls (ab_ml M) L)
    (hrun : va_Run p l e (ab_rm M) s m args below meth c H locs 0 0 0 0 (F0 m pc ls st0) (r.map (ab_d ad kd)) (ab_Q N K (ab_B Γ D cs ad) (va_A (ab_w Γ cs ad σ) H.size) a) (va_A (ab_w Γ cs ad σ) H.size))
    (k : ∀ (v : ab_V) (τ : ab_S), K v τ → ab_GG Γ M l D cs ad kd A p e s m args below meth c Q (pc + 3) L (ab_psh N v r) τ) : W p l e (ab_rm M) s m args below meth c H locs 0 0 Q (F0 m pc ls st0) := by
  have hin := ab_A_in (σ := σ) C hS
  unfold ab_Q at hrun
  cases hm : ab_rt N with
  | none =>
    rw [hm] at hrun
    refine va_callv hrun hS (fun q _ h => hin q h) hin (fun u t H1 locs1 ht hvm hw hB hz1 hk1 hS1 => ?_)
    have kk := k _ u hw H1 locs1 ls (by rw [← ht]; exact hB.1) hS1 hL
    unfold ab_psh at kk
    rw [hm] at kk
    exact kk
  | some ty =>
    rw [hm] at hrun
    have hI : (va_Run p l e (ab_rm M) s m args below meth c H locs 0 0 0 0 (F0 m pc ls st0) (r.map (ab_d ad kd)) (va_Qi (fun r u => ∃ x, r = Int32.ofInt x ∧ K (.inl x) u) (ab_B Γ D cs ad) (va_A (ab_w Γ cs ad σ) H.size) a) (va_A (ab_w Γ cs ad σ) H.size)) → W p l e (ab_rm M) s m args below meth c H locs 0 0 Q (F0 m pc ls st0) := by
      intro hrun
      refine va_calli hrun hS (fun q _ h => hin q h) hin (fun rr u t H1 locs1 ht hvm hw hB hz1 hk1 hS1 => ?_)
      obtain ⟨x, rfl, hw⟩ := hw
      have kk := k _ u hw H1 locs1 ls (by rw [← ht]; exact hB.1) hS1 hL
      unfold ab_psh at kk
      rw [hm] at kk
      exact kk
    cases ty <;> first | exact hI hrun | skip
    refine va_calll hrun hS (fun q _ h => hin q h) hin (fun rr u t H1 locs1 ht hvm hw hB hz1 hk1 hS1 => ?_)
    obtain ⟨x, rfl, hw⟩ := hw
    have kk := k _ u hw H1 locs1 ls (by rw [← ht]; exact hB.1) hS1 hL
    unfold ab_psh at kk
    rw [hm] at kk
    exact kk
end
theorem ab_good1 {w : Cond} (h : w ∈ ab_TG) : w ∈ ab_TG ∧ ((w.onTables && w.keeps) = true ∨ ∃ ty, w = .arrayClass ty) := ⟨h, ab_TG_good h⟩
theorem ab_goodws {N : ab_M} (h : Cond.code (ab_y N) (ab_cc N) (ab_ml N) (ab_rt N) ∈ ab_TG) : GoodIn ab_TG (ab_ws N) := by
  intro w hw
  rcases List.mem_cons.mp hw with rfl | hw
  · exact ab_good1 h
  · exact ab_good1 hw
theorem ab_goodapp {l ws : List Cond} (hl : ∀ w ∈ l, w ∈ ab_TG) (h : GoodIn ab_TG ws) : GoodIn ab_TG (l ++ ws) := by
  intro w hw
  rcases List.mem_append.mp hw with hw | hw
  · exact ab_good1 (hl w hw)
  · exact h w hw
