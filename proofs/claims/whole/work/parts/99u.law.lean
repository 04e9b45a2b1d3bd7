-- THE LAW'S WALK: what its rows rest on (only the ghost machine is used here)
theorem zl_selp {C : String} {y x0 z : MethodName} {s : State} {args : Array Value} {n : Nat} (hy : y.cls ≠ "java/lang/invoke/MethodHandle" ∧ y.cls ≠ "java/lang/invoke/VarHandle")
    (hins : (Cond.instantiable C n).before args s = true) (hpriv : (Cond.privateMethod y).before args s = true) (hinst : (Cond.instanceMethod y).before args s = true) (hsel : (Cond.selects C x0 z).before args s = true) (hz : z.cls = y.cls) :
    (Cond.selects C y y).before args s = true := by
  obtain ⟨c, k, hc, hk, -, -, -, -⟩ := Cond.instantiable_spec hins
  obtain ⟨mk, methM, hnamed, hmethM, -, -⟩ := Cond.instanceMethod_spec hinst
  have hfound : s.methodFound? y.cls y.name y.desc = some mk := State.methodFound?_of_named hnamed hy
  have hsm : selectMethod {} s.vm c mk = .method mk := selectMethod_private hmethM (Cond.privateMethod_at hpriv mk methM hnamed hmethM)
  obtain ⟨c2, r2, m2, -, -, q3, -, kP, hkP, hkPi⟩ := Cond.selects_spec hsel
  have e1 : s.vm.findClass z.cls = some m2.cls := findClass_of_methodNamed q3
  have e2 : s.vm.findClass y.cls = some mk.cls := findClass_of_methodNamed hnamed
  rw [hz, e2] at e1
  have e3 : mk.cls = m2.cls := Option.some.inj e1
  rw [← e3] at hkP
  simp only [Cond.before, Cond.holds, Cond.value, hc, hfound, hnamed, hsm, hkP]
  simp
  exact hkPi
/-- what stays fixed on the way through the law -/
def zl_Cx (p : Program) (s : State) (m : MethodId) (c : Code) (D : va_G) (cs : Nat → ClassId) (kd : Nat → Nat) (b L : Nat) (xs : Nat → Int32) : Prop :=
  p.tables.exec = Jvm.exec ∧ c.code = cL_law ∧ c.maxLocals = 4 ∧ s.vm.findClass RL = some m.cls ∧ (∀ w ∈ ab_TG, w.before #[Value.ref b] s = true) ∧ va_K D vwCl (ab_tys cs) s ∧ ab_E kd (fun q => s.heap.size ≤ q) s s.heap ∧ va_X b L xs s s.heap ∧ b < s.heap.size
theorem zl_wk {Γ : List ab_O} {cs : Nat → ClassId} {ad : Nat → Nat} {σ : ab_S} {k : Nat} {q : Nat × va_E} (h : (ab_w Γ cs ad σ)[k]? = some q) : k < Γ.length ∧ q.1 = ad k := by
  have hlt : k < Γ.length := by
    have := (List.getElem?_eq_some_iff.mp h).1
    simpa [ab_w] using this
  have hg : Γ[k]? = some Γ[k] := List.getElem?_eq_getElem hlt
  rw [ab_w_get hg] at h
  cases h
  exact ⟨hlt, rfl⟩
theorem zl_kept {Γ Γ' : List ab_O} {D : va_G} {cs : Nat → ClassId} {ad ad' : Nat → Nat} {σ σ' : ab_S} {H H1 : Heap} (hP : va_P D vwCl (ab_w Γ' cs ad' σ') H) (hap : ∀ i j, i < Γ.length → j < Γ'.length → ad i ≠ ad' j) (hk : ∀ q : Nat, q < H.size → ¬ va_A (ab_w Γ cs ad σ) H.size q → H1[q]? = H[q]?) : va_P D vwCl (ab_w Γ' cs ad' σ') H1 := by
  refine hP.kept (fun k q hq => ?_)
  obtain ⟨h1, h2⟩ := zl_wk hq
  have hlt : q.1 < H.size := (hP k q hq).lt
  refine hk q.1 hlt (fun z => ?_)
  rcases z with ⟨j, e, z⟩ | z
  · obtain ⟨h3, h4⟩ := zl_wk z
    exact hap j k h3 h1 (h4.symm.trans h2)
  · omega
section
variable {Γ : List ab_O} {l : Launch} {D : va_G} {cs : Nat → ClassId} {ad kd : Nat → Nat} {p : Program} {e : Env} {s : State} {m : MethodId} {below : List Frame} {meth : Method} {c : Code} {Q : State → Prop} {pc b L : Nat} {xs : Nat → Int32} {σ : ab_S} {H : Heap} {locs : List Loc} {ls : Array Slot} {cells slots : Nat}
theorem zl_in {A : Nat → Prop} {H0 : Heap} (hD : ∀ σ, va_D A (ab_w Γ cs ad σ)) (hS : va_S A H0 H locs) (hA : ∀ q, H0.size ≤ q → A q) : ∀ q, va_A (ab_w Γ cs ad σ) H.size q → A q := by
  rintro q (⟨k, e, h⟩ | h)
  · exact (hD σ).2 k _ h
  · exact hA q (Nat.le_trans hS.1 h)
theorem zl_run (C : zl_Cx p s m c D cs kd b L xs) (hP : va_P D vwCl (ab_w Γ cs ad σ) H) (hD : ∀ σ, va_D (fun q => s.heap.size ≤ q) (ab_w Γ cs ad σ)) (hS : va_S (fun q => s.heap.size ≤ q) s.heap H locs) (hls : ls.size = 4) {j ci n : Nat} {rf : List (Option Nat)} {N : ab_M} {as : List ab_V} {rest st0 : List Value} {K : ab_V → ab_S → Prop} (hd : decode cL_law pc = .ok (.invokevirtual j, 3)) (hΓ : Γ[0]? = some (ci, n, rf)) (hcv : ab_cv 13 j ci N) (hna : as.length = ab_na N - 1) (hst : st0 = (as.map (ab_d ad kd)).reverse ++ .ref (ad 0) :: rest) (hR : (ab_rm N).frames + 1 ≤ room_1.frames ∧ 8 + (ab_ml N + 11) + (ab_rm N).locals ≤ room_1.locals) (hrest : (rest.map fun v => v.category).sum ≤ 8) (hcs : cells + 0 ≤ room_1.cells ∧ slots + 0 ≤ room_1.slots)
    (hrun : ab_Runs Γ N (.inr (.inr (.inl 0)) :: as) σ K) :
    va_Run p l e room_1 s m #[Value.ref b] below meth c H locs cells slots 0 0 (F0 m pc ls st0) rest (ab_Q N K (ab_B Γ D cs ad) (va_A (ab_w Γ cs ad σ) H.size) (Value.ref (ad 0) :: as.map (ab_d ad kd)).toArray) (va_A (ab_w Γ cs ad σ) H.size) := by
  obtain ⟨hcode, hM⟩ := hrun
  have hM := hM l D cs ad kd H.size
  obtain ⟨hins, hini, hnp, hmh, Cn, T, N', hc, hkind⟩ := hcv
  have h12 : ci < 20 := by
    have := (List.getElem?_eq_some_iff.mp hc).1
    simp at this
    omega
  have hin := zl_in (σ := σ) hD hS (fun q h => h)
  obtain ⟨hx, hb, hml, hown, hts, hK, hE, hX, hbl⟩ := C
  have hpre : ∀ U : State, U.heap = H → s.WarmedH U.vm → ab_Pc Γ D cs ad kd σ H.size U := by
    intro U hU hW
    refine ⟨by rw [hU], by rw [hU]; exact hP, va_K.moved hW.alike hK, (hD σ).weaken (fun _ _ _ _ => trivial), ?_⟩
    rw [hU]
    exact ((hE.kept (fun a h1 h2 => hS.2.1 a h1 h2)).narrow hin).warm hW
  have he : (ab_w Γ cs ad σ)[0]? = some (ad 0, .inr (ci, (List.range n).map (fun k => ab_fv ad σ 0 (ab_ty ci k) (rf.getD k none) k))) := by
    rw [ab_w_get hΓ, ab_cl_o h12]
  have hrecv := va_recv hK hP hc he
  have hlen : (as.map (ab_d ad kd)).length = ab_na N - 1 := by
    simp
    omega
  have hpv : PreV s H Cn (ad 0) (va_Pc ((.inr (.inr (.inl 0)) :: as : List ab_V).map (ab_d ad kd)) (ab_Pc Γ D cs ad kd σ H.size)) (as.map (ab_d ad kd)) :=
    ⟨ab_blind, hrecv, fun U hU hW => ⟨rfl, hpre U hU hW⟩⟩
  have hfix : CallFix p m c cL_law 4 s #[Value.ref b] ab_TG (ab_cn 13) := ⟨hx, hb, hml, hown, hts⟩
  have hW8 : 2 * (F0 m pc ls st0).monitorRoom + (rest.map fun v => v.category).sum ≤ 8 := lv_room hrest
  rcases hkind with ⟨hcl, hlk, hse⟩ | ⟨x, ow, ⟨ho1, ho2, hds⟩, hlk, hsm, hse, hor⟩
  · have cw : CallW room_1 s #[Value.ref b] (ab_cn 13) Cn j (ab_y N) (ab_cc N) (ab_ml N) (ab_rt N) (ab_ws N) (ab_rm N) 0 0 (ab_na N - 1) :=
      cwV (ab_na N - 1) hts (ab_goodapp (fun w hw => by
        simp only [List.mem_cons, List.not_mem_nil, or_false] at hw
        rcases hw with rfl | rfl | rfl | rfl
        · exact hlk
        · exact hins
        · exact hse
        · rw [← hcl]; exact hini) (ab_goodws hcode)) rfl rfl rfl ⟨hcl, hmh.1, hmh.2, hnp.1⟩ hR
    exact va_runV hfix hM cw hpv rfl hlen hls hst hW8 hd hcs
  · have hU : ∀ w ∈ ([.methodLink (ab_cn 13) j x, .sameMethod x.cls ow x.name x.desc, .selects Cn x (ab_y N), .instanceMethod (ab_y N), .initialized (ab_y N).cls] : List Cond), w ∈ ab_TG := fun w hw => by
      simp only [List.mem_cons, List.not_mem_nil, or_false] at hw
      rcases hw with rfl | rfl | rfl | rfl | rfl
      · exact hlk
      · exact hsm
      · exact hse
      · exact hins
      · exact hini
    have cw : va_CU room_1 s #[Value.ref b] (ab_cn 13) Cn ow j x (ab_y N) (ab_cc N) (ab_ml N) (ab_rt N) (ab_ws N) (ab_rm N) 0 0 (ab_na N - 1) := by
      rcases hor with hy | hdc
      · exact va_cwU (ab_na N - 1) hts (ab_goodapp hU (ab_goodws hcode)) rfl rfl rfl hy ⟨ho1, ho2, by rw [hds]; exact hnp.1⟩ hR
      · refine va_cwA (ab_na N - 1) hts (ab_goodapp hU (ab_goodws hcode)) rfl rfl rfl (hE.1 _ ?_) ⟨ho1, ho2, by rw [hds]; exact hnp.1⟩ hR
        exact List.mem_filter.mpr ⟨hdc, rfl⟩
    exact va_runU hfix hM cw hpv rfl hlen hls hst hW8 hd hcs
/-- a call of the law that answers an int -/
theorem zl_calli (C : zl_Cx p s m c D cs kd b L xs) (hP : va_P D vwCl (ab_w Γ cs ad σ) H) (hD : ∀ σ, va_D (fun q => s.heap.size ≤ q) (ab_w Γ cs ad σ)) (hS : va_S (fun q => s.heap.size ≤ q) s.heap H locs) (hls : ls.size = 4) {j ci n : Nat} {rf : List (Option Nat)} {N : ab_M} {as : List ab_V} {rest st0 : List Value} {K : ab_V → ab_S → Prop} (hrt : ab_rt N = some .int ∨ ab_rt N = some .boolean) (hd : decode cL_law pc = .ok (.invokevirtual j, 3)) (hΓ : Γ[0]? = some (ci, n, rf)) (hcv : ab_cv 13 j ci N) (hna : as.length = ab_na N - 1) (hst : st0 = (as.map (ab_d ad kd)).reverse ++ .ref (ad 0) :: rest) (hR : (ab_rm N).frames + 1 ≤ room_1.frames ∧ 8 + (ab_ml N + 11) + (ab_rm N).locals ≤ room_1.locals) (hrest : (rest.map fun v => v.category).sum ≤ 8) (hcs : cells + 0 ≤ room_1.cells ∧ slots + 0 ≤ room_1.slots)
    (hrun : ab_Runs Γ N (.inr (.inr (.inl 0)) :: as) σ K)
    (kk : ∀ (x : Int) (u : ab_S) (H1 : Heap) (locs1 : List Loc), K (.inl x) u → va_P D vwCl (ab_w Γ cs ad u) H1 → (∀ q : Nat, q < H.size → ¬ va_A (ab_w Γ cs ad σ) H.size q → H1[q]? = H[q]?) → va_S (fun q => s.heap.size ≤ q) s.heap H1 locs1 → W p l e room_1 s m #[Value.ref b] below meth c H1 locs1 cells slots Q (F0 m (pc + 3) ls (.int (Int32.ofInt x) :: rest))) : W p l e room_1 s m #[Value.ref b] below meth c H locs cells slots Q (F0 m pc ls st0) := by
  have hr := zl_run (l := l) (e := e) (below := below) (meth := meth) C hP hD hS hls hd hΓ hcv hna hst hR hrest hcs hrun
  have hin := zl_in (σ := σ) hD hS (fun q h => h)
  have hI : (va_Run p l e room_1 s m #[Value.ref b] below meth c H locs cells slots 0 0 (F0 m pc ls st0) rest (va_Qi (fun r u => ∃ x, r = Int32.ofInt x ∧ K (.inl x) u) (ab_B Γ D cs ad) (va_A (ab_w Γ cs ad σ) H.size) (Value.ref (ad 0) :: as.map (ab_d ad kd)).toArray) (va_A (ab_w Γ cs ad σ) H.size)) → W p l e room_1 s m #[Value.ref b] below meth c H locs cells slots Q (F0 m pc ls st0) := by
    intro hr
    refine va_calli hr hS (fun q _ h => hin q h) hin (fun rr u t H1 locs1 ht hvm hw hB hz1 hk1 hS1 => ?_)
    obtain ⟨x, rfl, hw⟩ := hw
    exact kk x u H1 locs1 hw (by rw [← ht]; exact hB.1) hk1 hS1
  unfold ab_Q at hr
  rcases hrt with h | h
  · rw [h] at hr
    exact hI hr
  · rw [h] at hr
    exact hI hr
/-- a call of the law that answers a long -/
theorem zl_calll (C : zl_Cx p s m c D cs kd b L xs) (hP : va_P D vwCl (ab_w Γ cs ad σ) H) (hD : ∀ σ, va_D (fun q => s.heap.size ≤ q) (ab_w Γ cs ad σ)) (hS : va_S (fun q => s.heap.size ≤ q) s.heap H locs) (hls : ls.size = 4) {j ci n : Nat} {rf : List (Option Nat)} {N : ab_M} {as : List ab_V} {rest st0 : List Value} {K : ab_V → ab_S → Prop} (hrt : ab_rt N = some .long) (hd : decode cL_law pc = .ok (.invokevirtual j, 3)) (hΓ : Γ[0]? = some (ci, n, rf)) (hcv : ab_cv 13 j ci N) (hna : as.length = ab_na N - 1) (hst : st0 = (as.map (ab_d ad kd)).reverse ++ .ref (ad 0) :: rest) (hR : (ab_rm N).frames + 1 ≤ room_1.frames ∧ 8 + (ab_ml N + 11) + (ab_rm N).locals ≤ room_1.locals) (hrest : (rest.map fun v => v.category).sum ≤ 8) (hcs : cells + 0 ≤ room_1.cells ∧ slots + 0 ≤ room_1.slots)
    (hrun : ab_Runs Γ N (.inr (.inr (.inl 0)) :: as) σ K)
    (kk : ∀ (x : Int) (u : ab_S) (H1 : Heap) (locs1 : List Loc), K (.inr (.inl x)) u → va_P D vwCl (ab_w Γ cs ad u) H1 → (∀ q : Nat, q < H.size → ¬ va_A (ab_w Γ cs ad σ) H.size q → H1[q]? = H[q]?) → va_S (fun q => s.heap.size ≤ q) s.heap H1 locs1 → W p l e room_1 s m #[Value.ref b] below meth c H1 locs1 cells slots Q (F0 m (pc + 3) ls (.long (Int64.ofInt x) :: rest))) : W p l e room_1 s m #[Value.ref b] below meth c H locs cells slots Q (F0 m pc ls st0) := by
  have hr := zl_run (l := l) (e := e) (below := below) (meth := meth) C hP hD hS hls hd hΓ hcv hna hst hR hrest hcs hrun
  have hin := zl_in (σ := σ) hD hS (fun q h => h)
  unfold ab_Q at hr
  rw [hrt] at hr
  refine va_calll hr hS (fun q _ h => hin q h) hin (fun rr u t H1 locs1 ht hvm hw hB hz1 hk1 hS1 => ?_)
  obtain ⟨x, rfl, hw⟩ := hw
  exact kk x u H1 locs1 hw (by rw [← ht]; exact hB.1) hk1 hS1
theorem zl_i32 (x : Int32) : ab_r32 x.toInt := by
  have h1 := Int32.le_toInt x
  have h2 := Int32.toInt_lt x
  unfold ab_r32
  omega
/-- one int of the script, as an argument -/
theorem zl_arg (C : zl_Cx p s m c D cs kd b L xs) (hS : va_S (fun q => s.heap.size ≤ q) s.heap H locs) {i kN : Nat} {k : Int} {a1 a2 : Nat} {rest : List Value} (hl : lv_has ls 4 [(0, .ref b), (1, .ref a1), (2, .ref a2), (3, .int (nI i))]) (hi : i + kN < L) (hL : L ≤ 3072) (hv : Int32.ofInt k = nI kN)
    (d1 : decode cL_law pc = .ok (.aload_n 0, 1)) (d2 : decode cL_law (pc + 1) = .ok (.iload_n 3, 1)) (d3 : decode cL_law (pc + 1 + 1) = .ok (.iconst k, 1)) (d4 : decode cL_law (pc + 1 + 1 + 1) = .ok (.iadd, 1)) (d5 : decode cL_law (pc + 1 + 1 + 1 + 1) = .ok (.iaload, 1))
    (kk : W p l e room_1 s m #[Value.ref b] below meth c H locs cells slots Q (F0 m (pc + 1 + 1 + 1 + 1 + 1) ls (.int (Int32.ofInt (xs (i + kN)).toInt) :: rest))) : W p l e room_1 s m #[Value.ref b] below meth c H locs cells slots Q (F0 m pc ls rest) := by
  obtain ⟨hx, hb, hml, hown, hts, hK, hE, hX, hbl⟩ := C
  refine lv_aload_n hx hb d1 rfl (lv_at hl 0 rfl) ?_
  refine lv_iload_n hx hb d2 rfl (lv_at hl 3 rfl) ?_
  refine lv_iconst (v := nI kN) hx hb d3 hv ?_
  refine lv_iadd hx hb d4 ?_
  rw [nI_add]
  refine va_sld hx hb hX hbl (Nat.not_le.mpr hbl) hS (vp_in_nI hi (by omega)) d5 ?_
  rw [nI_clamp (by omega)]
  rw [ab_of32] at kk
  exact kk
end
theorem zl_and (a : Int32) : ∃ k : Nat, k < 32 ∧ a &&& 31 = nI k := by
  refine ⟨(a.toBitVec &&& 31#32).toNat, ?_, ?_⟩
  · rw [BitVec.toNat_and]
    exact Nat.lt_of_le_of_lt Nat.and_le_right (by decide)
  · apply Int32.toBitVec_inj.mp
    show a.toBitVec &&& 31#32 = BitVec.ofNat 32 _
    simp
