-- THE LAW'S START, printed by program (wip/gen/mkwhole.py)
theorem zl_tb {s : State} {b : Nat} (hts : ∀ w ∈ lw_tbl, w.before #[Value.ref b] s = true) : ∀ w ∈ ab_TB, w.before #[Value.ref b] s = true := by
  intro w hw
  rcases List.mem_append.mp hw with hw | hw
  · simp only [ab_xs, List.mem_cons, List.not_mem_nil, or_false] at hw
    rcases hw with rfl | rfl | rfl | rfl | rfl | rfl | rfl | rfl
    · exact zl_selp (n := 14) (x0 := ⟨"TwoBakers$Market", "goRound", "()V"⟩) (z := ⟨"TwoBakers$Survey", "goRound", "()V"⟩) (by decide +kernel) (hts (.instantiable RX3 14) (List.mem_of_getElem? (i := 392) (by decide +kernel))) (hts (.privateMethod yX8_markStreets) (List.mem_of_getElem? (i := 1087) (by decide +kernel))) (hts (.instanceMethod yX8_markStreets) (List.mem_of_getElem? (i := 1088) (by decide +kernel))) (hts (.selects RX3 ⟨"TwoBakers$Market", "goRound", "()V"⟩ ⟨"TwoBakers$Survey", "goRound", "()V"⟩) (List.mem_of_getElem? (i := 1073) (by decide +kernel))) rfl
    · exact zl_selp (n := 14) (x0 := ⟨"TwoBakers$Walks", "goRound", "()V"⟩) (z := ⟨"TwoBakers$Survey", "goRound", "()V"⟩) (by decide +kernel) (hts (.instantiable RX10 14) (List.mem_of_getElem? (i := 476) (by decide +kernel))) (hts (.privateMethod yX8_markStreets) (List.mem_of_getElem? (i := 1087) (by decide +kernel))) (hts (.instanceMethod yX8_markStreets) (List.mem_of_getElem? (i := 1088) (by decide +kernel))) (hts (.selects RX10 ⟨"TwoBakers$Walks", "goRound", "()V"⟩ ⟨"TwoBakers$Survey", "goRound", "()V"⟩) (List.mem_of_getElem? (i := 1394) (by decide +kernel))) rfl
    · exact zl_selp (n := 14) (x0 := ⟨"TwoBakers$Market", "goRound", "()V"⟩) (z := ⟨"TwoBakers$Survey", "goRound", "()V"⟩) (by decide +kernel) (hts (.instantiable RX3 14) (List.mem_of_getElem? (i := 392) (by decide +kernel))) (hts (.privateMethod yX8_cheapest) (List.mem_of_getElem? (i := 1094) (by decide +kernel))) (hts (.instanceMethod yX8_cheapest) (List.mem_of_getElem? (i := 1095) (by decide +kernel))) (hts (.selects RX3 ⟨"TwoBakers$Market", "goRound", "()V"⟩ ⟨"TwoBakers$Survey", "goRound", "()V"⟩) (List.mem_of_getElem? (i := 1073) (by decide +kernel))) rfl
    · exact zl_selp (n := 14) (x0 := ⟨"TwoBakers$Walks", "goRound", "()V"⟩) (z := ⟨"TwoBakers$Survey", "goRound", "()V"⟩) (by decide +kernel) (hts (.instantiable RX10 14) (List.mem_of_getElem? (i := 476) (by decide +kernel))) (hts (.privateMethod yX8_cheapest) (List.mem_of_getElem? (i := 1094) (by decide +kernel))) (hts (.instanceMethod yX8_cheapest) (List.mem_of_getElem? (i := 1095) (by decide +kernel))) (hts (.selects RX10 ⟨"TwoBakers$Walks", "goRound", "()V"⟩ ⟨"TwoBakers$Survey", "goRound", "()V"⟩) (List.mem_of_getElem? (i := 1394) (by decide +kernel))) rfl
    · exact zl_selp (n := 14) (x0 := ⟨"TwoBakers$Market", "goRound", "()V"⟩) (z := ⟨"TwoBakers$Survey", "goRound", "()V"⟩) (by decide +kernel) (hts (.instantiable RX3 14) (List.mem_of_getElem? (i := 392) (by decide +kernel))) (hts (.privateMethod yX8_meetStreet) (List.mem_of_getElem? (i := 1113) (by decide +kernel))) (hts (.instanceMethod yX8_meetStreet) (List.mem_of_getElem? (i := 1114) (by decide +kernel))) (hts (.selects RX3 ⟨"TwoBakers$Market", "goRound", "()V"⟩ ⟨"TwoBakers$Survey", "goRound", "()V"⟩) (List.mem_of_getElem? (i := 1073) (by decide +kernel))) rfl
    · exact zl_selp (n := 14) (x0 := ⟨"TwoBakers$Walks", "goRound", "()V"⟩) (z := ⟨"TwoBakers$Survey", "goRound", "()V"⟩) (by decide +kernel) (hts (.instantiable RX10 14) (List.mem_of_getElem? (i := 476) (by decide +kernel))) (hts (.privateMethod yX8_meetStreet) (List.mem_of_getElem? (i := 1113) (by decide +kernel))) (hts (.instanceMethod yX8_meetStreet) (List.mem_of_getElem? (i := 1114) (by decide +kernel))) (hts (.selects RX10 ⟨"TwoBakers$Walks", "goRound", "()V"⟩ ⟨"TwoBakers$Survey", "goRound", "()V"⟩) (List.mem_of_getElem? (i := 1394) (by decide +kernel))) rfl
    · exact zl_selp (n := 14) (x0 := ⟨"TwoBakers$Market", "goRound", "()V"⟩) (z := ⟨"TwoBakers$Survey", "goRound", "()V"⟩) (by decide +kernel) (hts (.instantiable RX3 14) (List.mem_of_getElem? (i := 392) (by decide +kernel))) (hts (.privateMethod yX8_cheapestOn) (List.mem_of_getElem? (i := 1117) (by decide +kernel))) (hts (.instanceMethod yX8_cheapestOn) (List.mem_of_getElem? (i := 1118) (by decide +kernel))) (hts (.selects RX3 ⟨"TwoBakers$Market", "goRound", "()V"⟩ ⟨"TwoBakers$Survey", "goRound", "()V"⟩) (List.mem_of_getElem? (i := 1073) (by decide +kernel))) rfl
    · exact zl_selp (n := 14) (x0 := ⟨"TwoBakers$Walks", "goRound", "()V"⟩) (z := ⟨"TwoBakers$Survey", "goRound", "()V"⟩) (by decide +kernel) (hts (.instantiable RX10 14) (List.mem_of_getElem? (i := 476) (by decide +kernel))) (hts (.privateMethod yX8_cheapestOn) (List.mem_of_getElem? (i := 1117) (by decide +kernel))) (hts (.instanceMethod yX8_cheapestOn) (List.mem_of_getElem? (i := 1118) (by decide +kernel))) (hts (.selects RX10 ⟨"TwoBakers$Walks", "goRound", "()V"⟩ ⟨"TwoBakers$Survey", "goRound", "()V"⟩) (List.mem_of_getElem? (i := 1394) (by decide +kernel))) rfl
  · exact hts w hw
theorem zl_ins : ∀ (c : Nat) (q : vw_C), vwCl[c]? = some q → Cond.instantiable q.1 q.2.2 ∈ ab_TG := by
  intro c q hq
  match c, hq with
  | 0, hq => cases hq; exact ab_ag_ok (i := 355) (by decide +kernel)
  | 1, hq => cases hq; exact ab_ag_ok (i := 575) (by decide +kernel)
  | 2, hq => cases hq; exact ab_ag_ok (i := 273) (by decide +kernel)
  | 3, hq => cases hq; exact ab_ag_ok (i := 400) (by decide +kernel)
  | 4, hq => cases hq; exact ab_ag_ok (i := 519) (by decide +kernel)
  | 5, hq => cases hq; exact ab_ag_ok (i := 636) (by decide +kernel)
  | 6, hq => cases hq; exact ab_ag_ok (i := 138) (by decide +kernel)
  | 7, hq => cases hq; exact ab_ag_ok (i := 313) (by decide +kernel)
  | 8, hq => cases hq; exact ab_ag_ok (i := 169) (by decide +kernel)
  | 9, hq => cases hq; exact ab_ag_ok (i := 484) (by decide +kernel)
  | 10, hq => cases hq; exact ab_ag_ok (i := 130) (by decide +kernel)
  | 11, hq => cases hq; exact ab_ag_ok (i := 1488) (by decide +kernel)
  | c + 12, hq => simp [vwCl] at hq
theorem zl_arr {args : Array Value} {s : State} {ty : FieldType} (h : (Cond.arrayClass ty).before args s = true) (hty : ty = .int ∨ ty = .long ∨ ty = .boolean ∨ ty = .byte) : ∃ cA, ArrOfT s cA ty ∧ va_RA s cA ty := by
  obtain ⟨cA, kA, comp, h1, h2, h3⟩ := Cond.arrayClass_spec h
  refine ⟨cA, fun n z => ⟨fun k h => (by cases h), kA, h2, comp, h3⟩, ?_⟩
  rcases hty with rfl | rfl | rfl | rfl <;> exact h1
theorem zl_arq {args : Array Value} {s : State} {C : String} (h : (Cond.arrayOver (.object C)).before args s = true) : ∃ cA, ArrOfT s cA (.object C) ∧ va_RA s cA (.object C) := by
  obtain ⟨comp, c, k, h1, h2, h3, h4, h5⟩ := Cond.arrayOver_spec h
  exact ⟨c, fun n z => ⟨fun k h => (by cases h), k, h3, comp, h4⟩, k, comp, h3, h4, h1, h5⟩
theorem zl_K {s : State} {b : Nat} (hts : ∀ w ∈ ab_TB, w.before #[Value.ref b] s = true) : ∃ (D : va_G) (cs : Nat → ClassId), va_K D vwCl (ab_tys cs) s := by
  have htg : ∀ w ∈ ab_TG, w.before #[Value.ref b] s = true := fun w hw => hts w (List.mem_filter.mp hw).1
  have h0 : ∀ c : Nat, ∃ d : ClassId × (Nat → Nat), ∀ q : vw_C, vwCl[c]? = some q → u_Kn s q.1 q.2.1 q.2.2 d.1 d.2 := by
    intro c
    cases hq : vwCl[c]? with
    | none => exact ⟨(0, fun _ => 0), fun q h => by cases h⟩
    | some q =>
      obtain ⟨C, T, N⟩ := q
      obtain ⟨cC, iS, hK⟩ := u_known (C := C) (T := T) (N := N) (n := N) htg (ab_cls hq).1 (htg _ (zl_ins c _ hq))
      exact ⟨(cC, iS), fun q h => by cases h; exact hK⟩
  obtain ⟨f, hf⟩ := Classical.axiomOfChoice h0
  obtain ⟨c0, a0, r0⟩ := zl_arr (hts (.arrayClass .int) (ab_at_ok (i := 167) (by decide +kernel))) (Or.inl rfl)
  obtain ⟨c1, a1, r1⟩ := zl_arr (hts (.arrayClass .long) (ab_at_ok (i := 573) (by decide +kernel))) (Or.inr (Or.inl rfl))
  obtain ⟨c2, a2, r2⟩ := zl_arr (hts (.arrayClass .boolean) (ab_at_ok (i := 353) (by decide +kernel))) (Or.inr (Or.inr (Or.inl rfl)))
  obtain ⟨c3, a3, r3⟩ := zl_arr (hts (.arrayClass .byte) (ab_at_ok (i := 947) (by decide +kernel))) (Or.inr (Or.inr (Or.inr rfl)))
  obtain ⟨c4, a4, r4⟩ := zl_arq (C := "TwoBakers$Bakers") (hts (.arrayOver (.object "TwoBakers$Bakers")) (ab_at_ok (i := 398) (by decide +kernel)))
  refine ⟨(fun c => (f c).1, fun c => (f c).2), fun k => if k = 0 then c0 else if k = 1 then c1 else if k = 2 then c2 else if k = 3 then c3 else c4, fun c q hq => hf c q hq, fun k q hk => ?_⟩
  match k, hk with
  | 0, hk => cases hk; exact ⟨a0, r0⟩
  | 1, hk => cases hk; exact ⟨a1, r1⟩
  | 2, hk => cases hk; exact ⟨a2, r2⟩
  | 3, hk => cases hk; exact ⟨a3, r3⟩
  | 4, hk => cases hk; exact ⟨a4, r4⟩
  | k + 5, hk => simp [ab_tys] at hk
-- the texts
def zl_tm (i : Nat) : Term := .string "TwoBakers$Reader" (ab_sx.getD i 0)
def zl_fl : List Cond := flatC (Cond.and given_1 narrow_1)
theorem zl_f1 : ∀ i, i < 14 → Cond.exactly (zl_tm i) "java/lang/String" ∈ zl_fl := by decide +kernel
theorem zl_f2 : ∀ i, i < 14 → Cond.eq (.field (zl_tm i) "java/lang/String" "coder" "B") (.int 0) ∈ zl_fl := by decide +kernel
theorem zl_f3 : ∀ i, i < 14 → Cond.arrayOf (.field (zl_tm i) "java/lang/String" "value" "[B") .byte ∈ zl_fl := by decide +kernel
theorem zl_f4 : ∀ i, i < 14 → Cond.eq (.length (.field (zl_tm i) "java/lang/String" "value" "[B")) (.int (Int32.ofNat (ab_sl.getD i 0))) ∈ zl_fl := by decide +kernel
theorem zl_f5 : ∀ i, i < 14 → ∀ j, j < ab_sl.getD i 0 → Cond.eq (.elem (.field (zl_tm i) "java/lang/String" "value" "[B") (.int (Int32.ofNat j))) (.int ((ab_sb.getD i []).getD j 0)) ∈ zl_fl := by decide +kernel
theorem zl_f6 : ∀ j, j < 14 → ∀ i, i < j → Cond.not (Cond.eq (zl_tm i) (zl_tm j)) ∈ zl_fl := by decide +kernel
theorem zl_f7 : Cond.eq (.static "java/lang/String" "COMPACT_STRINGS" "Z") (.int 1) ∈ zl_fl := by decide +kernel
theorem zl_f8 : Cond.isRef (.static "jdk/internal/util/Preconditions" "SIOOBE_FORMATTER" "Ljava/util/function/BiFunction;") ∈ zl_fl := by decide +kernel
theorem zl_sr : ∀ i, i < 14 → Cond.stringRef RX6 (ab_sx.getD i 0) (ab_tx.getD i "") ∈ ab_TB := by
  intro i hi
  match i, hi with
  | 0, _ => exact ab_at_ok (i := 816) (by decide +kernel)
  | 1, _ => exact ab_at_ok (i := 885) (by decide +kernel)
  | 2, _ => exact ab_at_ok (i := 886) (by decide +kernel)
  | 3, _ => exact ab_at_ok (i := 887) (by decide +kernel)
  | 4, _ => exact ab_at_ok (i := 888) (by decide +kernel)
  | 5, _ => exact ab_at_ok (i := 889) (by decide +kernel)
  | 6, _ => exact ab_at_ok (i := 890) (by decide +kernel)
  | 7, _ => exact ab_at_ok (i := 891) (by decide +kernel)
  | 8, _ => exact ab_at_ok (i := 892) (by decide +kernel)
  | 9, _ => exact ab_at_ok (i := 893) (by decide +kernel)
  | 10, _ => exact ab_at_ok (i := 894) (by decide +kernel)
  | 11, _ => exact ab_at_ok (i := 895) (by decide +kernel)
  | 12, _ => exact ab_at_ok (i := 896) (by decide +kernel)
  | 13, _ => exact ab_at_ok (i := 897) (by decide +kernel)
theorem zl_E {s : State} {b : Nat} (hts : ∀ w ∈ ab_TB, w.before #[Value.ref b] s = true) (hgv : (Cond.and given_1 narrow_1).before #[Value.ref b] s = true) : ∃ kd : Nat → Nat, ab_E kd (fun q => s.heap.size ≤ q) s s.heap := by
  have hs : ∀ c ∈ zl_fl, c.before #[Value.ref b] s = true := flat_of_before _ hgv
  have hA : ∀ a : Nat, a < s.heap.size → ¬ (fun q => s.heap.size ≤ q) a := fun a h => Nat.not_le.mpr h
  obtain ⟨adK, adV, hS, hT⟩ := vk_Sof (args := #[Value.ref b]) (s := s) (N := 14) (tm := zl_tm) (len := ab_sl) (byt := ab_sb) (A := fun q => s.heap.size ≤ q) (by decide) (fun i hi => hs _ (zl_f1 i hi)) (fun i hi => hs _ (zl_f2 i hi)) (fun i hi => hs _ (zl_f3 i hi)) (fun i hi => hs _ (zl_f4 i hi)) (fun i hi j hj => hs _ (zl_f5 i hi j hj)) (fun i j hi hj hn => by
    rcases Nat.lt_or_gt_of_ne hn with h | h
    · exact Or.inl (hs _ (zl_f6 j hj i h))
    · exact Or.inr (hs _ (zl_f6 i hi j h))) hA
  obtain ⟨fm, hf1, hf2⟩ := Cond.isRef_spec (hs _ zl_f8)
  obtain ⟨fa, hfa⟩ : ∃ fa : Nat, fm = ab_kn fa := by
    cases fm <;> first | exact ⟨0, rfl⟩ | exact ⟨_ + 1, rfl⟩ | (simp [Value.isRef] at hf2)
  subst hfa
  obtain ⟨kd, k1, k2, k3⟩ : ∃ kd : Nat → Nat, (∀ i : Nat, i < 14 → kd (2 * i) = adK i) ∧ (∀ i : Nat, i < 14 → kd (2 * i + 1) = adV i) ∧ kd 28 = fa := by
    refine ⟨fun k => if k = 28 then fa else if k % 2 = 0 then adK (k / 2) else adV (k / 2), fun i hi => ?_, fun i hi => ?_, rfl⟩
    · show (if 2 * i = 28 then fa else if 2 * i % 2 = 0 then adK (2 * i / 2) else adV (2 * i / 2)) = adK i
      rw [if_neg (by omega), if_pos (by omega), show 2 * i / 2 = i by omega]
    · show (if 2 * i + 1 = 28 then fa else if (2 * i + 1) % 2 = 0 then adK ((2 * i + 1) / 2) else adV ((2 * i + 1) / 2)) = adV i
      rw [if_neg (by omega), if_neg (by omega), show (2 * i + 1) / 2 = i by omega]
  refine ⟨kd, fun w hw => va_Nw.of (ab_NW_on hw) (hts w (List.mem_filter.mp hw).1), fun i hi => ?_, ⟨fun i hi => ?_, fun i j hi hj h => ?_⟩, ?_, ?_⟩
  · rw [k1 i hi]
    exact vk_R.of (hts _ (zl_sr i hi)) (hT i hi)
  · have h := hS.1 i hi
    rw [← k1 i hi, ← k2 i hi] at h
    exact h
  · refine hS.2 i j hi hj ?_
    rw [← k1 i hi, ← k1 j hj]
    exact h
  · exact va_Zof (hts (.laysStatic "java/lang/String" "COMPACT_STRINGS" "Z") (ab_at_ok (i := 834) (by decide +kernel))) (hts (.initialized "java/lang/String") (ab_at_ok (i := 123) (by decide +kernel))) (va_eqt (hs _ zl_f7)) hA
  · rw [k3]
    exact va_Zof (hts (.laysStatic "jdk/internal/util/Preconditions" "SIOOBE_FORMATTER" "Ljava/util/function/BiFunction;") (ab_at_ok (i := 850) (by decide +kernel))) (hts (.initialized "jdk/internal/util/Preconditions") (ab_at_ok (i := 125) (by decide +kernel))) hf1 hA
