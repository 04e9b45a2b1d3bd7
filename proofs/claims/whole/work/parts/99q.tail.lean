-- THE END OF THE CLASS'S CONSTRUCTOR: the roads are laid
set_option maxRecDepth 100000 in
theorem zc_tail {p : Program} {l : Launch} {e : Env} {R : Room} {s : State} {m : MethodId} {args : Array Value} {below : List Frame} {meth : Method} {c : Code} {H : Heap} {locs : List Loc} {cells slots : Nat} {Q : State → Prop} {ls : Array Slot} {D : va_G} {cs : Nat → ClassId} {ad kd : Nat → Nat} {A : Nat → Prop} (hx : p.tables.exec = Jvm.exec) (hb : c.code = cX11_init) (hml : c.maxLocals = 2) (hown : s.vm.findClass RX11 = some m.cls) (hts : ∀ w ∈ ab_TG, w.before args s = true) (hK : va_K D vwCl (ab_tys cs) s) (hP : va_P D vwCl (ab_w ab_G1 cs ad zw0) H) (hD : va_D A (ab_w ab_G1 cs ad zw0)) (hS : va_S A s.heap H locs) (hA : ∀ q, s.heap.size ≤ q → A q) (hE : ab_E kd A s s.heap) (hl : lv_has ls 2 [(1, .int 4), (0, .ref (ad 0))]) (hR : (ab_rm mdX7_lay).frames + 1 ≤ R.frames ∧ 8 + (ab_ml mdX7_lay + 11) + (ab_rm mdX7_lay).locals ≤ R.locals) (hcs : cells ≤ R.cells ∧ slots ≤ R.slots) (hT : zTn zw0)
    (kk : ∀ (u : ab_S) (H1 : Heap) (locs1 : List Loc), zLy zw0 (-1) u → va_P D vwCl (ab_w ab_G1 cs ad u) H1 → va_S A s.heap H1 locs1 → W p l e R s m args below meth c H1 locs1 cells slots Q (F0 m 251 ls [])) : W p l e R s m args below meth c H locs cells slots Q (F0 m 239 ls []) := by
  have hc : vwCl[10]? = some (RX11, TX11, 16) := rfl
  have hin : ∀ q, va_A (ab_w ab_G1 cs ad zw0) H.size q → A q := fun q h => by
    rcases h with ⟨k, e, h⟩ | h
    · exact hD.2 k _ h
    · exact hA q (Nat.le_trans hS.1 h)
  refine lv_aload_n hx hb dX11_init_239 rfl (lv_at hl 1 rfl) ?_
  refine va_get (D := D) (cl := vwCl) (ci := 10) (v := .ref (ad 28)) (C := RX11) (T := TX11) (N := 16) hx hb hts (ab_cls hc).1 hown hK hP 0 rfl hc 4 (by decide) (hts (.fieldLink RX11 38 "TwoBakers" "roads" "LTwoBakers$Roads;") (ab_ag_ok (i := 729) (by decide +kernel))) (fun _ h9 => h9) rfl dX11_init_240 ?_
  refine lv_aload_n hx hb dX11_init_243 rfl (lv_at hl 1 rfl) ?_
  refine va_get (D := D) (cl := vwCl) (ci := 10) (v := .ref (ad 21)) (C := RX11) (T := TX11) (N := 16) hx hb hts (ab_cls hc).1 hown hK hP 0 rfl hc 3 (by decide) (hts (.fieldLink RX11 29 "TwoBakers" "book" "LTwoBakers$LawBook;") (ab_ag_ok (i := 728) (by decide +kernel))) (fun _ h9 => h9) rfl dX11_init_244 ?_
  refine lv_iconst (v := -1) hx hb dX11_init_247 (by decide) ?_
  have hrun : ab_Runs ab_G1 mdX7_lay [vR 28, vR 21, vI (-1)] zw0 (fun _ u => zLy zw0 (-1) u) := r_lay hT (by decide) (Or.inl rfl) (fun _ h => h)
  obtain ⟨hcode, hM⟩ := hrun
  have hM := hM l D cs ad kd H.size
  have hpv : PreV s H RX7 (ad 28) (va_Pc (([vR 28, vR 21, vI (-1)] : List ab_V).map (ab_d ad kd)) (ab_Pc ab_G1 D cs ad kd zw0 H.size)) [.ref (ad 21), .int (-1)] :=
    ⟨ab_blind, va_recv (ci := 7) (q0 := 28) hK hP rfl rfl, fun U hU hW => ⟨rfl, by rw [hU], by rw [hU]; exact hP, va_K.moved hW.alike hK, hD.weaken (fun _ _ _ _ => trivial), by rw [hU]; exact ((hE.kept (fun a h1 h2 => hS.2.1 a h1 h2)).narrow hin).warm hW⟩⟩
  have hfix : CallFix p m c cX11_init 2 s args ab_TG RX11 := ⟨hx, hb, hml, hown, hts⟩
  have cw : CallW R s args RX11 RX7 107 (ab_y mdX7_lay) (ab_cc mdX7_lay) (ab_ml mdX7_lay) (ab_rt mdX7_lay) (ab_ws mdX7_lay) (ab_rm mdX7_lay) 0 0 2 :=
    cwV 2 hts (ab_goodapp (fun w hw => by
      simp only [List.mem_cons, List.not_mem_nil, or_false] at hw
      rcases hw with rfl | rfl | rfl | rfl
      · exact ab_ag_ok (i := 689) (by decide +kernel)
      · exact ab_ag_ok (i := 690) (by decide +kernel)
      · exact ab_ag_ok (i := 691) (by decide +kernel)
      · exact ab_ag_ok (i := 112) (by decide +kernel)) (ab_goodws hcode)) rfl rfl rfl (by decide +kernel) hR
  refine va_callv (va_runV hfix hM cw hpv rfl rfl hl.1 rfl (lv_room (Nat.le_of_ble_eq_true rfl)) dX11_init_248 hcs) hS (fun q _ h => hin q h) hin (fun u t H1 locs1 ht hvm hw hB hz1 hk1 hS1 => ?_)
  exact kk u H1 locs1 hw (by rw [← ht]; exact hB.1) hS1
