-- THE LAW: both objects are made, printed by program (wip/gen/mkwhole.py)
theorem zc_X11 : vwCl[10]? = some (RX11, TX11, 16) := rfl
set_option maxRecDepth 100000 in
theorem zn_X11 : ∀ j, j < 16 → defaultValue (ab_ty 10 j) = vp_V [.null, .null, .null, .null, .null, .null, .null, .null, .null, .null, .null, .null, .int 0, .int 0, .int 0, .int 0] j := by decide +kernel
theorem zc_X12 : vwCl[11]? = some (RX12, TX12, 98) := rfl
set_option maxRecDepth 100000 in
theorem zn_X12 : ∀ j, j < 98 → defaultValue (ab_ty 11 j) = vp_V [.int 0, .int 0, .int 0, .int 0, .int 0, .int 0, .int 0, .int 0, .null, .null, .null, .null, .null, .null, .null, .null, .null, .null, .null, .null, .null, .null, .int 0, .int 0, .int 0, .int 0, .int 0, .int 0, .null, .int 0, .int 0, .int 0, .int 0, .int 0, .int 0, .int 0, .long 0, .int 0, .int 0, .int 0, .null, .null, .null, .null, .null, .int 0, .int 0, .int 0, .null, .null, .null, .null, .null, .int 0, .null, .null, .null, .null, .null, .null, .long 0, .int 0, .null, .long 0, .int 0, .int 0, .null, .null, .null, .null, .null, .null, .int 0, .int 0, .int 0, .int 0, .int 0, .null, .null, .int 0, .int 0, .null, .null, .null, .null, .null, .int 0, .int 0, .int 0, .int 0, .int 0, .null, .null, .null, .null, .null, .null, .null] j := by decide +kernel
theorem zl_Dall {Γ : List ab_O} {cs : Nat → ClassId} {ad : Nat → Nat} {A : Nat → Prop} {σ : ab_S} (h : va_D A (ab_w Γ cs ad σ)) (σ' : ab_S) : va_D A (ab_w Γ cs ad σ') := by
  refine ⟨fun i j p q hi hj e => ?_, fun k q hk => ?_⟩
  · obtain ⟨a1, a2⟩ := zl_wk hi
    obtain ⟨b1, b2⟩ := zl_wk hj
    have gi : Γ[i]? = some Γ[i] := List.getElem?_eq_getElem a1
    have gj : Γ[j]? = some Γ[j] := List.getElem?_eq_getElem b1
    exact h.1 i j _ _ (ab_w_get gi) (ab_w_get gj) ((a2.symm.trans e).trans b2)
  · obtain ⟨a1, a2⟩ := zl_wk hk
    have gi : Γ[k]? = some Γ[k] := List.getElem?_eq_getElem a1
    rw [a2]
    exact h.2 k _ (ab_w_get gi)
set_option maxHeartbeats 8000000 in
set_option maxRecDepth 100000 in
theorem zl_begin {RR : ab_S → ab_S → Nat → Prop} {l : Launch} {D : va_G} {cs : Nat → ClassId} {kd : Nat → Nat} {p : Program} {e : Env} {s : State} {m : MethodId} {below : List Frame} {meth : Method} {c : Code} {Q : State → Prop} {b L : Nat} {xs : Nat → Int32} {ls : Array Slot} (hq : zl_all RR) (h0 : ∀ u : ab_S, zLy zw0 (-1) u → RR u zm0 0) (C : zl_Cx p s m c D cs kd b L xs) (hAO : va_AO RX0 s) (hL : L ≤ 3072) (hl : lv_has ls 4 [(0, .ref b)])
    (fin : ∀ (H1 : Heap) (locs1 : List Loc) (ls1 : Array Slot), va_S (fun q => s.heap.size ≤ q) s.heap H1 locs1 → W p l e room_1 s m #[Value.ref b] below meth c H1 locs1 156 21322 Q (F0 m 1228 ls1 [])) : W p l e room_1 s m #[Value.ref b] below meth c s.heap [] 0 0 Q (F0 m 0 ls []) := by
  obtain ⟨hx, hb, hml, hown, hts, hK, hE, hX, hbl⟩ := id C
  have hS : va_S (fun q => s.heap.size ≤ q) s.heap s.heap [] := va_S.rf
  have hP : va_P D vwCl [] s.heap := fun k q h => by simp at h
  have hD : va_D (fun q : Nat => s.heap.size ≤ q) [] := ⟨fun i j p q h => by simp at h, fun k q h => by simp at h⟩
  refine va_new (ci := 10) (fs := [.null, .null, .null, .null, .null, .null, .null, .null, .null, .null, .null, .null, .int 0, .int 0, .int 0, .int 0]) (C := RX11) (T := TX11) (N := 16) hx hb hts (ab_cls zc_X11).1 (ab_ty 10) (ab_cls zc_X11).2.1 hown (hts (.classLink RL 7 RX11) (ab_ag_ok (i := 129) (by decide +kernel))) (hts (.instantiable RX11 16) (ab_ag_ok (i := 130) (by decide +kernel))) (hts (.initialized RX11) (ab_ag_ok (i := 108) (by decide +kernel))) hK hP hD hS (fun _ h => h) zc_X11 zn_X11 (Nat.le_of_ble_eq_true rfl) (Nat.le_of_ble_eq_true rfl) dL_law_0 (fun q0 H hP hD hS => ?_)
  have hP : va_P D vwCl [(q0, .inr (10, [.null, .null, .null, .null, .null, .null, .null, .null, .null, .null, .null, .null, .int 0, .int 0, .int 0, .int 0]))] H := hP
  have hD : va_D (fun q : Nat => s.heap.size ≤ q) [(q0, .inr (10, [.null, .null, .null, .null, .null, .null, .null, .null, .null, .null, .null, .null, .int 0, .int 0, .int 0, .int 0]))] := hD
  refine lv_dup hx hb dL_law_3 rfl ?_
  have hFc := va_free (wc := [(q0, .inr (10, [.null, .null, .null, .null, .null, .null, .null, .null, .null, .null, .null, .null, .int 0, .int 0, .int 0, .int 0]))]) hD hS (fun _ h => h) [0] rfl
  refine va_callv (va_runI (As := []) (rest := [.ref q0]) ⟨hx, hb, hml, hown, hts⟩ (c_X11_init l D cs kd q0 H.size zw_T) (cwI 0 hts (zc_gw (ab_ag_ok (i := 133) (by decide +kernel))) rfl rfl rfl (hts (.initialized RX11) (ab_ag_ok (i := 108) (by decide +kernel))) (hts (.methodLink RL 9 yX11_init) (ab_ag_ok (i := 131) (by decide +kernel))) (hts (.instanceMethod yX11_init) (ab_ag_ok (i := 132) (by decide +kernel))) rfl (by decide +kernel) ⟨Nat.le_of_ble_eq_true rfl, Nat.le_of_ble_eq_true rfl⟩) ⟨fun a U g mk q => by obtain ⟨q0, q1, qP, qK, qD, qE, qA⟩ := q; exact ⟨q0, q1, qP, va_K.moved (u := U) (U := U.calling g mk a) (Vm.Alike.refl U.vm) qK, qD, ab_E.same (s := U) (U := U.calling g mk a) rfl qE, va_AO.moved (u := U) (U := U.calling g mk a) (Vm.Alike.refl U.vm) qA⟩, fun U hU hW => ⟨rfl, by rw [hU], by rw [hU]; exact hP, va_K.moved hW.alike hK, hD.weaken (fun _ _ _ _ => trivial), by rw [hU]; exact ((hE.kept (fun a h1 h2 => hS.2.1 a h1 h2)).narrow hFc).warm hW, va_AO.moved hW.alike hAO⟩⟩ rfl rfl hl.1 rfl (lv_room (Nat.le_of_ble_eq_true rfl)) dL_law_4 ⟨Nat.le_of_ble_eq_true rfl, Nat.le_of_ble_eq_true rfl⟩) hS (fun q _ h => hFc q h) hFc (fun u t H1 locs1 ht hvm hw hB hz1 hk1 hS => ?_)
  obtain ⟨ad1, ω⟩ := u
  obtain ⟨hP1, hK1, hD1⟩ := hB
  obtain ⟨hu, ha0⟩ := hw
  dsimp only at hu ha0 hP1 hD1
  rw [ht] at hP1
  have hD1a : ∀ σ, va_D (fun q => s.heap.size ≤ q) (ab_w ab_G1 cs ad1 σ) := zl_Dall (hD1.weaken (fun k q _ h => hFc q.1 h))
  generalize H1 = H at hP1 hS ⊢
  subst ha0
  have hP : va_P D vwCl (ab_w ab_G1 cs ad1 ω) H := hP1
  have hD : va_D (fun q : Nat => s.heap.size ≤ q) (ab_w ab_G1 cs ad1 ω) := hD1a ω
  refine W.widen (k := 103) (n := 10853) (Nat.le_of_ble_eq_true rfl) (Nat.le_of_ble_eq_true rfl) ?_
  refine lv_astore_n (lv' := [(1, .ref (ad1 0)), (0, .ref b)]) hx hb dL_law_7 rfl hl (by decide) rfl (fun ls hl => ?_)
  refine va_new (ci := 11) (fs := [.int 0, .int 0, .int 0, .int 0, .int 0, .int 0, .int 0, .int 0, .null, .null, .null, .null, .null, .null, .null, .null, .null, .null, .null, .null, .null, .null, .int 0, .int 0, .int 0, .int 0, .int 0, .int 0, .null, .int 0, .int 0, .int 0, .int 0, .int 0, .int 0, .int 0, .long 0, .int 0, .int 0, .int 0, .null, .null, .null, .null, .null, .int 0, .int 0, .int 0, .null, .null, .null, .null, .null, .int 0, .null, .null, .null, .null, .null, .null, .long 0, .int 0, .null, .long 0, .int 0, .int 0, .null, .null, .null, .null, .null, .null, .int 0, .int 0, .int 0, .int 0, .int 0, .null, .null, .int 0, .int 0, .null, .null, .null, .null, .null, .int 0, .int 0, .int 0, .int 0, .int 0, .null, .null, .null, .null, .null, .null, .null]) (C := RX12) (T := TX12) (N := 98) hx hb hts (ab_cls zc_X12).1 (ab_ty 11) (ab_cls zc_X12).2.1 hown (hts (.classLink RL 10 RX12) (ab_ag_ok (i := 1487) (by decide +kernel))) (hts (.instantiable RX12 98) (ab_ag_ok (i := 1488) (by decide +kernel))) (hts (.initialized RX12) (ab_ag_ok (i := 121) (by decide +kernel))) hK hP hD hS (fun _ h => h) zc_X12 zn_X12 (Nat.le_of_ble_eq_true rfl) (Nat.le_of_ble_eq_true rfl) dL_law_8 (fun q8 H hP hD hS => ?_)
  have hlen : (ab_w ab_G1 cs ad1 ω).length = 103 := by simp [ab_w, ab_G1]
  have hq8 : ((ab_w ab_G1 cs ad1 ω) ++ [(q8, .inr (11, [.int 0, .int 0, .int 0, .int 0, .int 0, .int 0, .int 0, .int 0, .null, .null, .null, .null, .null, .null, .null, .null, .null, .null, .null, .null, .null, .null, .int 0, .int 0, .int 0, .int 0, .int 0, .int 0, .null, .int 0, .int 0, .int 0, .int 0, .int 0, .int 0, .int 0, .long 0, .int 0, .int 0, .int 0, .null, .null, .null, .null, .null, .int 0, .int 0, .int 0, .null, .null, .null, .null, .null, .int 0, .null, .null, .null, .null, .null, .null, .long 0, .int 0, .null, .long 0, .int 0, .int 0, .null, .null, .null, .null, .null, .null, .int 0, .int 0, .int 0, .int 0, .int 0, .null, .null, .int 0, .int 0, .null, .null, .null, .null, .null, .int 0, .int 0, .int 0, .int 0, .int 0, .null, .null, .null, .null, .null, .null, .null]))])[103]? = some (q8, .inr (11, [.int 0, .int 0, .int 0, .int 0, .int 0, .int 0, .int 0, .int 0, .null, .null, .null, .null, .null, .null, .null, .null, .null, .null, .null, .null, .null, .null, .int 0, .int 0, .int 0, .int 0, .int 0, .int 0, .null, .int 0, .int 0, .int 0, .int 0, .int 0, .int 0, .int 0, .long 0, .int 0, .int 0, .int 0, .null, .null, .null, .null, .null, .int 0, .int 0, .int 0, .null, .null, .null, .null, .null, .int 0, .null, .null, .null, .null, .null, .null, .long 0, .int 0, .null, .long 0, .int 0, .int 0, .null, .null, .null, .null, .null, .null, .int 0, .int 0, .int 0, .int 0, .int 0, .null, .null, .int 0, .int 0, .null, .null, .null, .null, .null, .int 0, .int 0, .int 0, .int 0, .int 0, .null, .null, .null, .null, .null, .null, .null])) := by
    rw [List.getElem?_append_right (by omega), hlen]
    rfl
  have hPc : va_P D vwCl [(q8, .inr (11, [.int 0, .int 0, .int 0, .int 0, .int 0, .int 0, .int 0, .int 0, .null, .null, .null, .null, .null, .null, .null, .null, .null, .null, .null, .null, .null, .null, .int 0, .int 0, .int 0, .int 0, .int 0, .int 0, .null, .int 0, .int 0, .int 0, .int 0, .int 0, .int 0, .int 0, .long 0, .int 0, .int 0, .int 0, .null, .null, .null, .null, .null, .int 0, .int 0, .int 0, .null, .null, .null, .null, .null, .int 0, .null, .null, .null, .null, .null, .null, .long 0, .int 0, .null, .long 0, .int 0, .int 0, .null, .null, .null, .null, .null, .null, .int 0, .int 0, .int 0, .int 0, .int 0, .null, .null, .int 0, .int 0, .null, .null, .null, .null, .null, .int 0, .int 0, .int 0, .int 0, .int 0, .null, .null, .null, .null, .null, .null, .null]))] H := fun k q hk => by
    match k, hk with
    | 0, hk => cases hk; exact hP 103 _ hq8
    | k + 1, hk => simp at hk
  have hDc : va_D (fun q : Nat => s.heap.size ≤ q) [(q8, .inr (11, [.int 0, .int 0, .int 0, .int 0, .int 0, .int 0, .int 0, .int 0, .null, .null, .null, .null, .null, .null, .null, .null, .null, .null, .null, .null, .null, .null, .int 0, .int 0, .int 0, .int 0, .int 0, .int 0, .null, .int 0, .int 0, .int 0, .int 0, .int 0, .int 0, .int 0, .long 0, .int 0, .int 0, .int 0, .null, .null, .null, .null, .null, .int 0, .int 0, .int 0, .null, .null, .null, .null, .null, .int 0, .null, .null, .null, .null, .null, .null, .long 0, .int 0, .null, .long 0, .int 0, .int 0, .null, .null, .null, .null, .null, .null, .int 0, .int 0, .int 0, .int 0, .int 0, .null, .null, .int 0, .int 0, .null, .null, .null, .null, .null, .int 0, .int 0, .int 0, .int 0, .int 0, .null, .null, .null, .null, .null, .null, .null]))] := ⟨fun i j p q hi hj _ => by
    have a1 := (List.getElem?_eq_some_iff.mp hi).1
    have a2 := (List.getElem?_eq_some_iff.mp hj).1
    simp only [List.length_cons, List.length_nil] at a1 a2
    omega, fun k q hk => by
    match k, hk with
    | 0, hk => cases hk; exact hD.2 103 _ hq8
    | k + 1, hk => simp at hk⟩
  have hP1 : va_P D vwCl (ab_w ab_G1 cs ad1 ω) H := fun k q hk => hP k q (by rw [List.getElem?_append_left ((List.getElem?_eq_some_iff.mp hk).1)]; exact hk)
  have hne : ∀ k : Nat, k < ab_G1.length → ad1 k ≠ q8 := fun k hk e => by
    have hg : ab_G1[k]? = some ab_G1[k] := List.getElem?_eq_getElem hk
    have hw := ab_w_get (cs := cs) (ad := ad1) (σ := ω) hg
    have hkl := (List.getElem?_eq_some_iff.mp hw).1
    have := hD.1 k 103 _ _ (by rw [List.getElem?_append_left hkl]; exact hw) hq8 e
    omega
  have hlt : ∀ k : Nat, k < ab_G1.length → ad1 k < H.size := fun k hk => by
    have hg : ab_G1[k]? = some ab_G1[k] := List.getElem?_eq_getElem hk
    exact (hP1 k _ (ab_w_get (cs := cs) (ad := ad1) (σ := ω) hg)).lt
  refine lv_dup hx hb dL_law_11 rfl ?_
  have hFc := va_free (wc := [(q8, .inr (11, [.int 0, .int 0, .int 0, .int 0, .int 0, .int 0, .int 0, .int 0, .null, .null, .null, .null, .null, .null, .null, .null, .null, .null, .null, .null, .null, .null, .int 0, .int 0, .int 0, .int 0, .int 0, .int 0, .null, .int 0, .int 0, .int 0, .int 0, .int 0, .int 0, .int 0, .long 0, .int 0, .int 0, .int 0, .null, .null, .null, .null, .null, .int 0, .int 0, .int 0, .null, .null, .null, .null, .null, .int 0, .null, .null, .null, .null, .null, .null, .long 0, .int 0, .null, .long 0, .int 0, .int 0, .null, .null, .null, .null, .null, .null, .int 0, .int 0, .int 0, .int 0, .int 0, .null, .null, .int 0, .int 0, .null, .null, .null, .null, .null, .int 0, .int 0, .int 0, .int 0, .int 0, .null, .null, .null, .null, .null, .null, .null]))]) hDc hS (fun _ h => h) [0] rfl
  refine va_callv (va_runI (As := []) (rest := [.ref q8]) ⟨hx, hb, hml, hown, hts⟩ (c_X12_init l D cs q8 H.size) (cwI 0 hts (zc_gw (ab_ag_ok (i := 1491) (by decide +kernel))) rfl rfl rfl (hts (.initialized RX12) (ab_ag_ok (i := 121) (by decide +kernel))) (hts (.methodLink RL 12 yX12_init) (ab_ag_ok (i := 1489) (by decide +kernel))) (hts (.instanceMethod yX12_init) (ab_ag_ok (i := 1490) (by decide +kernel))) rfl (by decide +kernel) ⟨Nat.le_of_ble_eq_true rfl, Nat.le_of_ble_eq_true rfl⟩) ⟨fun a U g mk q => by obtain ⟨q0, q1, qP, qK, qD⟩ := q; exact ⟨q0, q1, qP, va_K.moved (u := U) (U := U.calling g mk a) (Vm.Alike.refl U.vm) qK, qD⟩, fun U hU hW => ⟨rfl, by rw [hU], by rw [hU]; exact hPc, va_K.moved hW.alike hK, hDc.weaken (fun _ _ _ _ => trivial)⟩⟩ rfl rfl hl.1 rfl (lv_room (Nat.le_of_ble_eq_true rfl)) dL_law_12 ⟨Nat.le_of_ble_eq_true rfl, Nat.le_of_ble_eq_true rfl⟩) hS (fun q _ h => hFc q h) hFc (fun u t H1 locs1 ht hvm hw hB hz1 hk1 hS => ?_)
  obtain ⟨hP2, hK2, hD2⟩ := hB
  rw [ht] at hP2
  have hP2 : va_P D vwCl (ab_w ab_G2 cs (zma q8 u) zm0) H1 := by
    rw [← zm_w]
    exact hP2
  have hD2 : va_D (va_A [(q8, .inr (11, [.int 0, .int 0, .int 0, .int 0, .int 0, .int 0, .int 0, .int 0, .null, .null, .null, .null, .null, .null, .null, .null, .null, .null, .null, .null, .null, .null, .int 0, .int 0, .int 0, .int 0, .int 0, .int 0, .null, .int 0, .int 0, .int 0, .int 0, .int 0, .int 0, .int 0, .long 0, .int 0, .int 0, .int 0, .null, .null, .null, .null, .null, .int 0, .int 0, .int 0, .null, .null, .null, .null, .null, .int 0, .null, .null, .null, .null, .null, .null, .long 0, .int 0, .null, .long 0, .int 0, .int 0, .null, .null, .null, .null, .null, .null, .int 0, .int 0, .int 0, .int 0, .int 0, .null, .null, .int 0, .int 0, .null, .null, .null, .null, .null, .int 0, .int 0, .int 0, .int 0, .int 0, .null, .null, .null, .null, .null, .null, .null]))] H.size) (ab_w ab_G2 cs (zma q8 u) zm0) := by
    rw [← zm_w]
    exact hD2
  have hD2a : ∀ σ, va_D (fun q => s.heap.size ≤ q) (ab_w ab_G2 cs (zma q8 u) σ) := zl_Dall (hD2.weaken (fun k q _ h => hFc q.1 h))
  have hap : ∀ i j, i < ab_G1.length → j < ab_G2.length → ad1 i ≠ zma q8 u j := by
    intro i j hi hj he
    have hg : ab_G2[j]? = some ab_G2[j] := List.getElem?_eq_getElem hj
    have h2 := hD2.2 j _ (ab_w_get (cs := cs) (ad := zma q8 u) (σ := zm0) hg)
    rcases h2 with ⟨k, e, h2⟩ | h2
    · match k, h2 with
      | 0, h2 =>
        have e9 : q8 = zma q8 u j := congrArg Prod.fst (Option.some.inj h2)
        exact hne i hi (he.trans e9.symm)
      | k + 1, h2 => simp at h2
    · have := hlt i hi
      have h3 : H.size ≤ zma q8 u j := h2
      omega
  have hP1 : va_P D vwCl (ab_w ab_G1 cs ad1 ω) H1 := by
    refine hP1.kept (fun k q hk => ?_)
    obtain ⟨a1, a2⟩ := zl_wk hk
    refine hk1 q.1 (by rw [a2]; exact hlt k a1) (fun z => ?_)
    rcases z with ⟨j, e, z⟩ | z
    · match j, z with
      | 0, z =>
        have e9 : q8 = q.1 := congrArg Prod.fst (Option.some.inj z)
        exact hne k a1 (a2.symm.trans e9.symm)
      | j + 1, z => simp at z
    · have := hlt k a1
      omega
  refine W.widen (k := 156) (n := 21322) (Nat.le_of_ble_eq_true rfl) (Nat.le_of_ble_eq_true rfl) ?_
  refine lv_astore_n (lv' := [(2, .ref q8), (1, .ref (ad1 0)), (0, .ref b)]) hx hb dL_law_15 rfl hl (by decide) rfl (fun ls hl => ?_)
  refine lv_iconst (v := 0) hx hb dL_law_16 (by decide) ?_
  refine lv_istore_n (lv' := [(3, .int 0), (2, .ref q8), (1, .ref (ad1 0)), (0, .ref b)]) hx hb dL_law_17 rfl hl (by decide) rfl (fun ls hl => ?_)
  exact zl_loop (ad1 := ad1) (ad2 := zma q8 u) hq C ⟨hD1a, hD2a, hap⟩ hL ⟨Nat.le_of_ble_eq_true rfl, Nat.le_of_ble_eq_true rfl⟩ fin (L + 1) 0 0 (by omega) (Nat.zero_le L) (Nat.le_refl 0) H1 locs1 ls ω zm0 (lv_sub hl [3, 2, 1, 0] rfl) ⟨hP1, hP2, hS, h0 ω hu⟩
