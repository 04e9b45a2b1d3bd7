-- CONSTRUCTORS, printed by program (wip/gen/mkinit.py)
theorem zc_sameA {s : State} {cA cB : ClassId} {ty : FieldType} (hty : ty = .int ∨ ty = .long ∨ ty = .boolean) (h1 : va_RA s cA ty) (h2 : va_RA s cB ty) : cA = cB := by
  rcases hty with rfl | rfl | rfl
  · have a : s.vm.findClass _ = some cA := h1
    have b : s.vm.findClass _ = some cB := h2
    exact Option.some.inj (a.symm.trans b)
  · have a : s.vm.findClass _ = some cA := h1
    have b : s.vm.findClass _ = some cB := h2
    exact Option.some.inj (a.symm.trans b)
  · have a : s.vm.findClass _ = some cA := h1
    have b : s.vm.findClass _ = some cB := h2
    exact Option.some.inj (a.symm.trans b)
theorem zc_newa {p : Program} {l : Launch} {e : Env} {R : Room} {s : State} {m : MethodId} {args : Array Value} {below : List Frame} {meth : Method} {c : Code} {H H0 : Heap} {locs : List Loc} {cells slots : Nat} {Q : State → Prop} {cc : ByteArray} {pc : Nat} {ls : Array Slot} {rest : List Value} {D : va_G} {cs : Nat → ClassId} {A : Nat → Prop} {ws : va_W} {i : Nat} {a0 : vp_A} (hexec : p.tables.exec = Jvm.exec) (hb : c.code = cc) {atype : ArrayType} (harr : (Cond.arrayClass (newarray.typeOf atype)).before args s = true) {ty : FieldType} (hty : newarray.typeOf atype = ty) (hK : va_K D vwCl (ab_tys cs) s) (hP : va_P D vwCl ws H) (hD : va_D A ws) (hS : va_S A H0 H locs) (hA : ∀ q, H0.size ≤ q → A q) (hi : (ab_tys cs)[i]? = some (cs i, ty)) (h3 : ty = .int ∨ ty = .long ∨ ty = .boolean)
    {n : Int32} {N' : Nat} (ha : ∀ cA : ClassId, vp_cell cA a0 = arrV cA N' (fun _ => defaultValue ty)) (hn : ¬ n < 0) (hN : n.toNatClampNeg = N') (hbytes : N' * componentBytes ty ≤ 536870912) (hcells : cells + 1 ≤ R.cells) (hslots : slots + N' ≤ R.slots) (hdg : decode cc pc = .ok (.newarray atype, 2))
    (kk : ∀ (q : Nat) (H1 : Heap), va_P D vwCl (ws ++ [(q, .inl (cs i, a0))]) H1 → va_D A (ws ++ [(q, .inl (cs i, a0))]) → va_S A H0 H1 locs → W p l e R s m args below meth c H1 locs (cells + 1) (slots + N') Q (F0 m (pc + 2) ls (.ref q :: rest))) : W p l e R s m args below meth c H locs cells slots Q (F0 m pc ls (.int n :: rest)) := by
  refine va_newa hexec hb harr hty hK hP hD hS hA ha hn hN hbytes hcells hslots hdg (fun q cA H1 hK' hP' hD' hS' => ?_)
  have e : cA = cs i := zc_sameA h3 (hK'.2 (ab_tys cs).length (cA, ty) (by simp)).2 (hK.2 i _ hi).2
  subst e
  exact kk q H1 hP' hD' hS'
set_option maxHeartbeats 4000000 in
set_option maxRecDepth 100000 in
theorem c_X0_init (l : Launch) (D : va_G) (cs : Nat → ClassId) (h0 sz : Nat) : Met l yX0_init (.code yX0_init cX0_init 1 none :: ab_TG) { frames := 1, cells := 5, slots := 20, locals := 12 } (va_Pc [.ref h0] (fun U => U.heap.size = sz ∧ va_P D vwCl [(h0, .inr (0, [.null, .null, .null, .null, .null, .int 0, .int 0]))] U.heap ∧ va_K D vwCl (ab_tys cs) U ∧ va_D (fun _ => True) [(h0, .inr (0, [.null, .null, .null, .null, .null, .int 0, .int 0]))])) (va_Qv (fun _ : Nat → Nat => True) (fun u t => va_P D vwCl [(h0, .inr (0, [.ref (u 0), .ref (u 1), .ref (u 2), .ref (u 3), .ref (u 4), .int (0), .int (-1)])), ((u 0), .inl (cs 0, (4, .inl (fun _ => 0)))), ((u 1), .inl (cs 0, (4, .inl (fun _ => 0)))), ((u 2), .inl (cs 0, (4, .inl (fun _ => 0)))), ((u 3), .inl (cs 0, (4, .inl (fun _ => 0)))), ((u 4), .inl (cs 0, (4, .inl (fun _ => 0))))] t.heap ∧ va_K D vwCl (ab_tys cs) t ∧ va_D (va_A [(h0, .inr (0, [.null, .null, .null, .null, .null, .int 0, .int 0]))] sz) [(h0, .inr (0, [.ref (u 0), .ref (u 1), .ref (u 2), .ref (u 3), .ref (u 4), .int (0), .int (-1)])), ((u 0), .inl (cs 0, (4, .inl (fun _ => 0)))), ((u 1), .inl (cs 0, (4, .inl (fun _ => 0)))), ((u 2), .inl (cs 0, (4, .inl (fun _ => 0)))), ((u 3), .inl (cs 0, (4, .inl (fun _ => 0)))), ((u 4), .inl (cs 0, (4, .inl (fun _ => 0))))]) (va_A [(h0, .inr (0, [.null, .null, .null, .null, .null, .int 0, .int 0]))] sz)) 5 20 (va_A [(h0, .inr (0, [.null, .null, .null, .null, .null, .int 0, .int 0]))] sz) := by
  refine Met.ofW (cc := cX0_init) (maxL := 1) (ret := none) (by decide) rfl ?_
  intro p e s m args below meth c s₁ B hml hv
  obtain ⟨rfl, hsz, hP, hK, hD0⟩ := hv
  have hx := B.exec
  have hb := B.bytes
  have hr := B.returns
  have hts0 := atoms_spec (ws := .code yX0_init cX0_init 1 none :: ab_TG) B.pre
  have hts := fun w (hw : w ∈ ab_TG) => hts0 w (List.mem_cons_of_mem _ hw)
  have hown : s.vm.findClass RX0 = some m.cls := findClass_of_methodNamed B.named
  have hin : meth.name = "<init>" := (name_of_methodNamed B.named B.method).1
  subst hsz
  have hD := hD0.self (sz := s.heap.size)
  generalize hAe : va_A [(h0, .inr (0, [.null, .null, .null, .null, .null, .int 0, .int 0]))] s.heap.size = A at hD ⊢
  have hA : ∀ q : Nat, s.heap.size ≤ q → A q := fun q h => by rw [← hAe]; exact Or.inr h
  have hS : va_S A s.heap s.heap [] := va_S.rf
  have hl := lv_entry ([.ref h0]) (n := 1) (Nat.le_of_ble_eq_true rfl)
  rw [lg_entry_eq]
  generalize (lg_sl ([.ref h0]) ++ List.replicate (1 - (lg_sl ([.ref h0])).length) Slot.unset).toArray = ls at hl ⊢
  have hl : lv_has ls 1 [(0, .ref h0)] := hl
  have hc : vwCl[0]? = some (RX0, TX0, 7) := rfl
  refine lv_aload_n hx hb dX0_init_0 rfl (lv_at hl 0 rfl) ?_
  refine W.objInit hx hb hown (hts (.methodLink RX0 3 objectInit) (ab_ag_ok (i := 359) (by decide +kernel))) (hts (.instanceMethod objectInit) (ab_ag_ok (i := 135) (by decide +kernel))) (hts (.code objectInit ⟨#[0xb1]⟩ 1 none) (ab_ag_ok (i := 136) (by decide +kernel))) rfl (by rw [hml]; exact hl.1) rfl dX0_init_1 (Nat.le_of_ble_eq_true rfl) (Nat.le_of_ble_eq_true rfl) ?_
  refine W.eq (g2 := F0 m 4 ls []) rfl ?_
  refine lv_aload_n hx hb dX0_init_4 rfl (lv_at hl 0 rfl) ?_
  refine lv_iconst (v := 4) hx hb dX0_init_5 (by decide) ?_
  refine zc_newa (i := 0) (a0 := (4, .inl (fun _ => 0))) (N' := 4) (n := 4) (ty := .int) (atype := .int) hx hb (hts (.arrayClass .int) (ab_ag_ok (i := 167) (by decide +kernel))) rfl hK hP hD hS hA rfl (Or.inl rfl) (fun _ => rfl) (by decide +kernel) (by decide +kernel) (Nat.le_of_ble_eq_true rfl) (Nat.le_of_ble_eq_true rfl) (Nat.le_of_ble_eq_true rfl) dX0_init_6 (fun q6 H hP hD hS => ?_)
  have hP : va_P D vwCl [(h0, .inr (0, [.null, .null, .null, .null, .null, .int 0, .int 0])), (q6, .inl (cs 0, (4, .inl (fun _ => 0))))] H := hP
  have hD : va_D A [(h0, .inr (0, [.null, .null, .null, .null, .null, .int 0, .int 0])), (q6, .inl (cs 0, (4, .inl (fun _ => 0))))] := hD
  refine va_putF (D := D) (cl := vwCl) (ci := 0) (v := .ref q6) (C := RX0) (T := TX0) (N := 7) (ty := ab_ty 0 0) hx hb hts (ab_cls hc).1 (ab_ty 0) (ab_cls hc).2.1 (ab_cls hc).2.2 hown hK hP hD hS 0 rfl hc 0 (by decide) (hts (.fieldLink RX0 9 "TwoBakers$Bakers" "spot" "[I") (ab_ag_ok (i := 360) (by decide +kernel))) (fun _ h9 => h9) rfl hin rfl ((ab_cls hc).2.1 0 (by decide)) rfl rfl (Nat.le_of_ble_eq_true rfl) dX0_init_8 (fun H locs hP hD hS => ?_)
  have hP : va_P D vwCl [(h0, .inr (0, [.ref q6, .null, .null, .null, .null, .int 0, .int 0])), (q6, .inl (cs 0, (4, .inl (fun _ => 0))))] H := hP
  have hD : va_D A [(h0, .inr (0, [.ref q6, .null, .null, .null, .null, .int 0, .int 0])), (q6, .inl (cs 0, (4, .inl (fun _ => 0))))] := hD
  refine lv_aload_n hx hb dX0_init_11 rfl (lv_at hl 0 rfl) ?_
  refine lv_iconst (v := 4) hx hb dX0_init_12 (by decide) ?_
  refine zc_newa (i := 0) (a0 := (4, .inl (fun _ => 0))) (N' := 4) (n := 4) (ty := .int) (atype := .int) hx hb (hts (.arrayClass .int) (ab_ag_ok (i := 167) (by decide +kernel))) rfl hK hP hD hS hA rfl (Or.inl rfl) (fun _ => rfl) (by decide +kernel) (by decide +kernel) (Nat.le_of_ble_eq_true rfl) (Nat.le_of_ble_eq_true rfl) (Nat.le_of_ble_eq_true rfl) dX0_init_13 (fun q13 H hP hD hS => ?_)
  have hP : va_P D vwCl [(h0, .inr (0, [.ref q6, .null, .null, .null, .null, .int 0, .int 0])), (q6, .inl (cs 0, (4, .inl (fun _ => 0)))), (q13, .inl (cs 0, (4, .inl (fun _ => 0))))] H := hP
  have hD : va_D A [(h0, .inr (0, [.ref q6, .null, .null, .null, .null, .int 0, .int 0])), (q6, .inl (cs 0, (4, .inl (fun _ => 0)))), (q13, .inl (cs 0, (4, .inl (fun _ => 0))))] := hD
  refine va_putF (D := D) (cl := vwCl) (ci := 0) (v := .ref q13) (C := RX0) (T := TX0) (N := 7) (ty := ab_ty 0 1) hx hb hts (ab_cls hc).1 (ab_ty 0) (ab_cls hc).2.1 (ab_cls hc).2.2 hown hK hP hD hS 0 rfl hc 1 (by decide) (hts (.fieldLink RX0 15 "TwoBakers$Bakers" "price" "[I") (ab_ag_ok (i := 364) (by decide +kernel))) (fun _ h9 => h9) rfl hin rfl ((ab_cls hc).2.1 1 (by decide)) rfl rfl (Nat.le_of_ble_eq_true rfl) dX0_init_15 (fun H locs hP hD hS => ?_)
  have hP : va_P D vwCl [(h0, .inr (0, [.ref q6, .ref q13, .null, .null, .null, .int 0, .int 0])), (q6, .inl (cs 0, (4, .inl (fun _ => 0)))), (q13, .inl (cs 0, (4, .inl (fun _ => 0))))] H := hP
  have hD : va_D A [(h0, .inr (0, [.ref q6, .ref q13, .null, .null, .null, .int 0, .int 0])), (q6, .inl (cs 0, (4, .inl (fun _ => 0)))), (q13, .inl (cs 0, (4, .inl (fun _ => 0))))] := hD
  refine lv_aload_n hx hb dX0_init_18 rfl (lv_at hl 0 rfl) ?_
  refine lv_iconst (v := 4) hx hb dX0_init_19 (by decide) ?_
  refine zc_newa (i := 0) (a0 := (4, .inl (fun _ => 0))) (N' := 4) (n := 4) (ty := .int) (atype := .int) hx hb (hts (.arrayClass .int) (ab_ag_ok (i := 167) (by decide +kernel))) rfl hK hP hD hS hA rfl (Or.inl rfl) (fun _ => rfl) (by decide +kernel) (by decide +kernel) (Nat.le_of_ble_eq_true rfl) (Nat.le_of_ble_eq_true rfl) (Nat.le_of_ble_eq_true rfl) dX0_init_20 (fun q20 H hP hD hS => ?_)
  have hP : va_P D vwCl [(h0, .inr (0, [.ref q6, .ref q13, .null, .null, .null, .int 0, .int 0])), (q6, .inl (cs 0, (4, .inl (fun _ => 0)))), (q13, .inl (cs 0, (4, .inl (fun _ => 0)))), (q20, .inl (cs 0, (4, .inl (fun _ => 0))))] H := hP
  have hD : va_D A [(h0, .inr (0, [.ref q6, .ref q13, .null, .null, .null, .int 0, .int 0])), (q6, .inl (cs 0, (4, .inl (fun _ => 0)))), (q13, .inl (cs 0, (4, .inl (fun _ => 0)))), (q20, .inl (cs 0, (4, .inl (fun _ => 0))))] := hD
  refine va_putF (D := D) (cl := vwCl) (ci := 0) (v := .ref q20) (C := RX0) (T := TX0) (N := 7) (ty := ab_ty 0 2) hx hb hts (ab_cls hc).1 (ab_ty 0) (ab_cls hc).2.1 (ab_cls hc).2.2 hown hK hP hD hS 0 rfl hc 2 (by decide) (hts (.fieldLink RX0 18 "TwoBakers$Bakers" "bread" "[I") (ab_ag_ok (i := 367) (by decide +kernel))) (fun _ h9 => h9) rfl hin rfl ((ab_cls hc).2.1 2 (by decide)) rfl rfl (Nat.le_of_ble_eq_true rfl) dX0_init_22 (fun H locs hP hD hS => ?_)
  have hP : va_P D vwCl [(h0, .inr (0, [.ref q6, .ref q13, .ref q20, .null, .null, .int 0, .int 0])), (q6, .inl (cs 0, (4, .inl (fun _ => 0)))), (q13, .inl (cs 0, (4, .inl (fun _ => 0)))), (q20, .inl (cs 0, (4, .inl (fun _ => 0))))] H := hP
  have hD : va_D A [(h0, .inr (0, [.ref q6, .ref q13, .ref q20, .null, .null, .int 0, .int 0])), (q6, .inl (cs 0, (4, .inl (fun _ => 0)))), (q13, .inl (cs 0, (4, .inl (fun _ => 0)))), (q20, .inl (cs 0, (4, .inl (fun _ => 0))))] := hD
  refine lv_aload_n hx hb dX0_init_25 rfl (lv_at hl 0 rfl) ?_
  refine lv_iconst (v := 4) hx hb dX0_init_26 (by decide) ?_
  refine zc_newa (i := 0) (a0 := (4, .inl (fun _ => 0))) (N' := 4) (n := 4) (ty := .int) (atype := .int) hx hb (hts (.arrayClass .int) (ab_ag_ok (i := 167) (by decide +kernel))) rfl hK hP hD hS hA rfl (Or.inl rfl) (fun _ => rfl) (by decide +kernel) (by decide +kernel) (Nat.le_of_ble_eq_true rfl) (Nat.le_of_ble_eq_true rfl) (Nat.le_of_ble_eq_true rfl) dX0_init_27 (fun q27 H hP hD hS => ?_)
  have hP : va_P D vwCl [(h0, .inr (0, [.ref q6, .ref q13, .ref q20, .null, .null, .int 0, .int 0])), (q6, .inl (cs 0, (4, .inl (fun _ => 0)))), (q13, .inl (cs 0, (4, .inl (fun _ => 0)))), (q20, .inl (cs 0, (4, .inl (fun _ => 0)))), (q27, .inl (cs 0, (4, .inl (fun _ => 0))))] H := hP
  have hD : va_D A [(h0, .inr (0, [.ref q6, .ref q13, .ref q20, .null, .null, .int 0, .int 0])), (q6, .inl (cs 0, (4, .inl (fun _ => 0)))), (q13, .inl (cs 0, (4, .inl (fun _ => 0)))), (q20, .inl (cs 0, (4, .inl (fun _ => 0)))), (q27, .inl (cs 0, (4, .inl (fun _ => 0))))] := hD
  refine va_putF (D := D) (cl := vwCl) (ci := 0) (v := .ref q27) (C := RX0) (T := TX0) (N := 7) (ty := ab_ty 0 3) hx hb hts (ab_cls hc).1 (ab_ty 0) (ab_cls hc).2.1 (ab_cls hc).2.2 hown hK hP hD hS 0 rfl hc 3 (by decide) (hts (.fieldLink RX0 21 "TwoBakers$Bakers" "chain" "[I") (ab_ag_ok (i := 370) (by decide +kernel))) (fun _ h9 => h9) rfl hin rfl ((ab_cls hc).2.1 3 (by decide)) rfl rfl (Nat.le_of_ble_eq_true rfl) dX0_init_29 (fun H locs hP hD hS => ?_)
  have hP : va_P D vwCl [(h0, .inr (0, [.ref q6, .ref q13, .ref q20, .ref q27, .null, .int 0, .int 0])), (q6, .inl (cs 0, (4, .inl (fun _ => 0)))), (q13, .inl (cs 0, (4, .inl (fun _ => 0)))), (q20, .inl (cs 0, (4, .inl (fun _ => 0)))), (q27, .inl (cs 0, (4, .inl (fun _ => 0))))] H := hP
  have hD : va_D A [(h0, .inr (0, [.ref q6, .ref q13, .ref q20, .ref q27, .null, .int 0, .int 0])), (q6, .inl (cs 0, (4, .inl (fun _ => 0)))), (q13, .inl (cs 0, (4, .inl (fun _ => 0)))), (q20, .inl (cs 0, (4, .inl (fun _ => 0)))), (q27, .inl (cs 0, (4, .inl (fun _ => 0))))] := hD
  refine lv_aload_n hx hb dX0_init_32 rfl (lv_at hl 0 rfl) ?_
  refine lv_iconst (v := 4) hx hb dX0_init_33 (by decide) ?_
  refine zc_newa (i := 0) (a0 := (4, .inl (fun _ => 0))) (N' := 4) (n := 4) (ty := .int) (atype := .int) hx hb (hts (.arrayClass .int) (ab_ag_ok (i := 167) (by decide +kernel))) rfl hK hP hD hS hA rfl (Or.inl rfl) (fun _ => rfl) (by decide +kernel) (by decide +kernel) (Nat.le_of_ble_eq_true rfl) (Nat.le_of_ble_eq_true rfl) (Nat.le_of_ble_eq_true rfl) dX0_init_34 (fun q34 H hP hD hS => ?_)
  have hP : va_P D vwCl [(h0, .inr (0, [.ref q6, .ref q13, .ref q20, .ref q27, .null, .int 0, .int 0])), (q6, .inl (cs 0, (4, .inl (fun _ => 0)))), (q13, .inl (cs 0, (4, .inl (fun _ => 0)))), (q20, .inl (cs 0, (4, .inl (fun _ => 0)))), (q27, .inl (cs 0, (4, .inl (fun _ => 0)))), (q34, .inl (cs 0, (4, .inl (fun _ => 0))))] H := hP
  have hD : va_D A [(h0, .inr (0, [.ref q6, .ref q13, .ref q20, .ref q27, .null, .int 0, .int 0])), (q6, .inl (cs 0, (4, .inl (fun _ => 0)))), (q13, .inl (cs 0, (4, .inl (fun _ => 0)))), (q20, .inl (cs 0, (4, .inl (fun _ => 0)))), (q27, .inl (cs 0, (4, .inl (fun _ => 0)))), (q34, .inl (cs 0, (4, .inl (fun _ => 0))))] := hD
  refine va_putF (D := D) (cl := vwCl) (ci := 0) (v := .ref q34) (C := RX0) (T := TX0) (N := 7) (ty := ab_ty 0 4) hx hb hts (ab_cls hc).1 (ab_ty 0) (ab_cls hc).2.1 (ab_cls hc).2.2 hown hK hP hD hS 0 rfl hc 4 (by decide) (hts (.fieldLink RX0 24 "TwoBakers$Bakers" "kind" "[I") (ab_ag_ok (i := 373) (by decide +kernel))) (fun _ h9 => h9) rfl hin rfl ((ab_cls hc).2.1 4 (by decide)) rfl rfl (Nat.le_of_ble_eq_true rfl) dX0_init_36 (fun H locs hP hD hS => ?_)
  have hP : va_P D vwCl [(h0, .inr (0, [.ref q6, .ref q13, .ref q20, .ref q27, .ref q34, .int 0, .int 0])), (q6, .inl (cs 0, (4, .inl (fun _ => 0)))), (q13, .inl (cs 0, (4, .inl (fun _ => 0)))), (q20, .inl (cs 0, (4, .inl (fun _ => 0)))), (q27, .inl (cs 0, (4, .inl (fun _ => 0)))), (q34, .inl (cs 0, (4, .inl (fun _ => 0))))] H := hP
  have hD : va_D A [(h0, .inr (0, [.ref q6, .ref q13, .ref q20, .ref q27, .ref q34, .int 0, .int 0])), (q6, .inl (cs 0, (4, .inl (fun _ => 0)))), (q13, .inl (cs 0, (4, .inl (fun _ => 0)))), (q20, .inl (cs 0, (4, .inl (fun _ => 0)))), (q27, .inl (cs 0, (4, .inl (fun _ => 0)))), (q34, .inl (cs 0, (4, .inl (fun _ => 0))))] := hD
  refine lv_aload_n hx hb dX0_init_39 rfl (lv_at hl 0 rfl) ?_
  refine lv_iconst (v := 0) hx hb dX0_init_40 (by decide) ?_
  refine va_put (D := D) (cl := vwCl) (ci := 0) (v := .int (0)) (C := RX0) (T := TX0) (N := 7) (ty := ab_ty 0 5) hx hb hts (ab_cls hc).1 (ab_ty 0) (ab_cls hc).2.1 (ab_cls hc).2.2 hown hK hP hD hS 0 rfl hc 5 (by decide) (hts (.fieldLink RX0 27 "TwoBakers$Bakers" "count" "I") (ab_ag_ok (i := 376) (by decide +kernel))) (fun _ h9 => h9) rfl ((ab_cls hc).2.1 5 (by decide)) rfl rfl (Nat.le_of_ble_eq_true rfl) dX0_init_41 (fun H locs hP hD hS => ?_)
  have hP : va_P D vwCl [(h0, .inr (0, [.ref q6, .ref q13, .ref q20, .ref q27, .ref q34, .int (0), .int 0])), (q6, .inl (cs 0, (4, .inl (fun _ => 0)))), (q13, .inl (cs 0, (4, .inl (fun _ => 0)))), (q20, .inl (cs 0, (4, .inl (fun _ => 0)))), (q27, .inl (cs 0, (4, .inl (fun _ => 0)))), (q34, .inl (cs 0, (4, .inl (fun _ => 0))))] H := hP
  have hD : va_D A [(h0, .inr (0, [.ref q6, .ref q13, .ref q20, .ref q27, .ref q34, .int (0), .int 0])), (q6, .inl (cs 0, (4, .inl (fun _ => 0)))), (q13, .inl (cs 0, (4, .inl (fun _ => 0)))), (q20, .inl (cs 0, (4, .inl (fun _ => 0)))), (q27, .inl (cs 0, (4, .inl (fun _ => 0)))), (q34, .inl (cs 0, (4, .inl (fun _ => 0))))] := hD
  refine lv_aload_n hx hb dX0_init_44 rfl (lv_at hl 0 rfl) ?_
  refine lv_iconst (v := -1) hx hb dX0_init_45 (by decide) ?_
  refine va_put (D := D) (cl := vwCl) (ci := 0) (v := .int (-1)) (C := RX0) (T := TX0) (N := 7) (ty := ab_ty 0 6) hx hb hts (ab_cls hc).1 (ab_ty 0) (ab_cls hc).2.1 (ab_cls hc).2.2 hown hK hP hD hS 0 rfl hc 6 (by decide) (hts (.fieldLink RX0 31 "TwoBakers$Bakers" "law" "I") (ab_ag_ok (i := 380) (by decide +kernel))) (fun _ h9 => h9) rfl ((ab_cls hc).2.1 6 (by decide)) rfl rfl (Nat.le_of_ble_eq_true rfl) dX0_init_46 (fun H locs hP hD hS => ?_)
  have hP : va_P D vwCl [(h0, .inr (0, [.ref q6, .ref q13, .ref q20, .ref q27, .ref q34, .int (0), .int (-1)])), (q6, .inl (cs 0, (4, .inl (fun _ => 0)))), (q13, .inl (cs 0, (4, .inl (fun _ => 0)))), (q20, .inl (cs 0, (4, .inl (fun _ => 0)))), (q27, .inl (cs 0, (4, .inl (fun _ => 0)))), (q34, .inl (cs 0, (4, .inl (fun _ => 0))))] H := hP
  have hD : va_D A [(h0, .inr (0, [.ref q6, .ref q13, .ref q20, .ref q27, .ref q34, .int (0), .int (-1)])), (q6, .inl (cs 0, (4, .inl (fun _ => 0)))), (q13, .inl (cs 0, (4, .inl (fun _ => 0)))), (q20, .inl (cs 0, (4, .inl (fun _ => 0)))), (q27, .inl (cs 0, (4, .inl (fun _ => 0)))), (q34, .inl (cs 0, (4, .inl (fun _ => 0))))] := hD
  refine W.widen (k := 5) (n := 20) (Nat.le_of_ble_eq_true rfl) (Nat.le_of_ble_eq_true rfl) ?_
  exact W.vret hx hb hr (fun t ht hW => ⟨⟨fun j => [q6, q13, q20, q27, q34].getD j 0, rfl, trivial, by rw [ht]; exact hP, va_K.moved hW.alike hK, hD⟩, hS.F ht⟩) hS.2.2 dX0_init_49
