-- SOUNDNESS of the ghost machine over the kit's machine
def ab_Cx (Γ : List ab_O) (M : ab_M) (D : va_G) (cs : Nat → ClassId) (ad kd : Nat → Nat) (A : Nat → Prop) (p : Program) (s : State) (m : MethodId) (args : Array Value) (meth : Method) (c : Code) : Prop :=
  p.tables.exec = Jvm.exec ∧ c.code = ab_cc M ∧ c.maxLocals = ab_ml M ∧ s.vm.findClass (ab_cn (ab_own M)) = some m.cls ∧ (∀ w ∈ ab_TG, w.before args s = true) ∧ va_K D vwCl (ab_tys cs) s ∧ (∀ σ : ab_S, va_D A (ab_w Γ cs ad σ)) ∧ (∀ q, s.heap.size ≤ q → A q) ∧ ab_E kd A s s.heap
def ab_GG (Γ : List ab_O) (M : ab_M) (l : Launch) (D : va_G) (cs : Nat → ClassId) (ad kd : Nat → Nat) (A : Nat → Prop) (p : Program) (e : Env) (s : State) (m : MethodId) (args : Array Value) (below : List Frame) (meth : Method) (c : Code) (Q : State → Prop) (pc : Nat) (L : ab_L) (st : List ab_V) (σ : ab_S) : Prop :=
  ∀ (H : Heap) (locs : List Loc) (ls : Array Slot), va_P D vwCl (ab_w Γ cs ad σ) H → va_S A s.heap H locs → ab_lv ad kd ls (ab_ml M) L → W p l e (ab_rm M) s m args below meth c H locs 0 0 Q (F0 m pc ls (st.map (ab_d ad kd)))
theorem ab_cl_o {cs : Nat → ClassId} {ad : Nat → Nat} {σ : ab_S} {o : Nat} {d : ab_O} (h : d.1 < 20) : ab_cel cs ad σ o d = .inr (d.1, (List.range d.2.1).map (fun k => ab_fv ad σ o (ab_ty d.1 k) (d.2.2.getD k none) k)) := by
  unfold ab_cel
  rw [if_neg (by omega), if_neg (by omega), if_neg (by omega), if_neg (by omega), if_neg (by omega)]
theorem ab_ar_ok {Γ : List ab_O} {o : Nat} {a : Nat × Nat} (h : ab_ar Γ o = some a) : ∃ r, Γ[o]? = some (a.1, a.2, r) := by
  unfold ab_ar at h
  obtain ⟨d, hd, rfl⟩ := Option.map_eq_some_iff.mp h
  exact ⟨d.2.2, hd⟩
theorem ab_op_ok {α : Type} {v : Option α} {f : α → Prop} (h : ab_op v f) : ∃ x, v = some x ∧ f x := by
  cases v with
  | none => exact h.elim
  | some x => exact ⟨x, rfl, h⟩
theorem ab_gI_ok {v : Option ab_V} {f : Int → Prop} (h : ab_gI v f) : ∃ x, v = some (.inl x) ∧ f x := by
  rcases v with _ | x | x | x | x <;> first | exact ⟨_, rfl, h⟩ | exact h.elim
theorem ab_gL_ok {v : Option ab_V} {f : Int → Prop} (h : ab_gL v f) : ∃ x, v = some (.inr (.inl x)) ∧ f x := by
  rcases v with _ | x | x | x | x <;> first | exact ⟨_, rfl, h⟩ | exact h.elim
theorem ab_gR_ok {v : Option ab_V} {f : Nat ⊕ Nat → Prop} (h : ab_gR v f) : ∃ x, v = some (.inr (.inr x)) ∧ f x := by
  rcases v with _ | x | x | x | x <;> first | exact ⟨_, rfl, h⟩ | exact h.elim
theorem ab_b1_ok {st : List ab_V} {f : Int → List ab_V → Prop} (h : ab_b1 st f) : ∃ x r, st = .inl x :: r ∧ f x r := by
  rcases st with _ | ⟨x | x | x | x, r⟩ <;> first | exact ⟨_, _, rfl, h⟩ | exact h.elim
theorem ab_l1_ok {st : List ab_V} {f : Int → List ab_V → Prop} (h : ab_l1 st f) : ∃ x r, st = .inr (.inl x) :: r ∧ f x r := by
  rcases st with _ | ⟨x | x | x | x, r⟩ <;> first | exact ⟨_, _, rfl, h⟩ | exact h.elim
theorem ab_o1_ok {st : List ab_V} {f : Nat → List ab_V → Prop} (h : ab_o1 st f) : ∃ o r, st = .inr (.inr (.inl o)) :: r ∧ f o r := by
  rcases st with _ | ⟨x | x | x | x, r⟩ <;> first | exact ⟨_, _, rfl, h⟩ | exact h.elim
theorem ab_b2_ok {st : List ab_V} {f : Int → Int → List ab_V → Prop} (h : ab_b2 st f) : ∃ x y r, st = .inl y :: .inl x :: r ∧ f x y r := by
  rcases st with _ | ⟨x | x | x | x, _ | ⟨y | y | y | y, r⟩⟩ <;> first | exact ⟨_, _, _, rfl, h⟩ | exact h.elim
theorem ab_l2_ok {st : List ab_V} {f : Int → Int → List ab_V → Prop} (h : ab_l2 st f) : ∃ x y r, st = .inr (.inl y) :: .inr (.inl x) :: r ∧ f x y r := by
  rcases st with _ | ⟨x | x | x | x, _ | ⟨y | y | y | y, r⟩⟩ <;> first | exact ⟨_, _, _, rfl, h⟩ | exact h.elim
theorem ab_li_ok {st : List ab_V} {f : Int → Int → List ab_V → Prop} (h : ab_li st f) : ∃ x y r, st = .inl y :: .inr (.inl x) :: r ∧ f x y r := by
  rcases st with _ | ⟨x | x | x | x, _ | ⟨y | y | y | y, r⟩⟩ <;> first | exact ⟨_, _, _, rfl, h⟩ | exact h.elim
theorem ab_io_ok {st : List ab_V} {f : Nat → Int → List ab_V → Prop} (h : ab_io st f) : ∃ o i r, st = .inl i :: .inr (.inr (.inl o)) :: r ∧ f o i r := by
  rcases st with _ | ⟨x | x | x | x, _ | ⟨y | y | y | y, r⟩⟩ <;> first | exact ⟨_, _, _, rfl, h⟩ | exact h.elim
theorem ab_iio_ok {st : List ab_V} {f : Nat → Int → Int → List ab_V → Prop} (h : ab_iio st f) : ∃ o i x r, st = .inl x :: .inl i :: .inr (.inr (.inl o)) :: r ∧ f o i x r := by
  rcases st with _ | ⟨x | x | x | x, _ | ⟨y | y | y | y, _ | ⟨z | z | z | z, r⟩⟩⟩ <;> first | exact ⟨_, _, _, _, rfl, h⟩ | exact h.elim
theorem ab_lio_ok {st : List ab_V} {f : Nat → Int → Int → List ab_V → Prop} (h : ab_lio st f) : ∃ o i x r, st = .inr (.inl x) :: .inl i :: .inr (.inr (.inl o)) :: r ∧ f o i x r := by
  rcases st with _ | ⟨x | x | x | x, _ | ⟨y | y | y | y, _ | ⟨z | z | z | z, r⟩⟩⟩ <;> first | exact ⟨_, _, _, _, rfl, h⟩ | exact h.elim
theorem ab_cp5_ok {st : List ab_V} {f : Nat → Int → Nat → Int → Int → List ab_V → Prop} (h : ab_cp5 st f) : ∃ o0 sp o1 dp n r, st = .inl n :: .inl dp :: .inr (.inr (.inl o1)) :: .inl sp :: .inr (.inr (.inl o0)) :: r ∧ f o0 sp o1 dp n r := by
  unfold ab_cp5 at h
  split at h
  · exact ⟨_, _, _, _, _, _, rfl, h⟩
  · exact h.elim
theorem ab_wsum_c {ad kd : Nat → Nat} (r : List ab_V) : ((r.map (ab_d ad kd)).map fun v => v.category).sum = ab_wsum r := by
  unfold ab_wsum
  rw [List.map_map]
  congr 1
  exact List.map_congr_left (fun v _ => ab_cat_d ad kd v)
theorem ab_in_i {i : Int} {n : Nat} (h : 0 ≤ i ∧ i < n ∧ n < 100000) : vp_in (Int32.ofInt i) n ∧ (Int32.ofInt i).toNatClampNeg = i.toNat := by
  have h1 : (Int32.ofInt i).toInt = i := ab_i32 (by unfold ab_r32; omega)
  refine ⟨vp_in_iff.mpr (by rw [h1]; exact ⟨h.1, h.2.1⟩), ?_⟩
  unfold Int32.toNatClampNeg
  rw [h1]
theorem ab_nz0 : narrow .boolean (.int (Int32.ofInt 0)) = .int (Int32.ofInt 0) := by decide +kernel
theorem ab_nz1 : narrow .boolean (.int (Int32.ofInt 1)) = .int (Int32.ofInt 1) := by decide +kernel
theorem ab_fz0 : fits .boolean (.int (Int32.ofInt 0)) = true := by decide +kernel
theorem ab_fz1 : fits .boolean (.int (Int32.ofInt 1)) = true := by decide +kernel
theorem ab_vz0 : vp_nar .boolean (Int32.ofInt 0) = Int32.ofInt 0 := by decide +kernel
theorem ab_vz1 : vp_nar .boolean (Int32.ofInt 1) = Int32.ofInt 1 := by decide +kernel
theorem ab_vb {x : Int} (h : -128 ≤ x ∧ x ≤ 127) : vp_nar .byte (Int32.ofInt x) = Int32.ofInt x := by
  rw [vp_nar_byte]
  apply ab_inj32
  rw [Int8.toInt_toInt32, Int32.toInt_toInt8, ab_i32 (by unfold ab_r32; omega)]
  simp [Int.bmod_def]
  omega
section
variable {Γ : List ab_O} {M : ab_M} {l : Launch} {D : va_G} {cs : Nat → ClassId} {ad kd : Nat → Nat} {A : Nat → Prop} {p : Program} {e : Env} {s : State} {m : MethodId} {args : Array Value} {below : List Frame} {meth : Method} {c : Code} {Q : State → Prop} {pc : Nat} {L : ab_L} {st : List ab_V} {σ : ab_S}
theorem ab_s_if (C : ab_Cx Γ M D cs ad kd A p s m args meth c) {x : Int} {cd : ClassFile.Cond} {off : Int} (hd : decode (ab_cc M) pc = .ok (.ifCond cd off, 3)) (hr : ab_r32 x) (h0 : 0 ≤ (pc : Int) + off)
    (k1 : ab_cd cd x 0 → ab_GG Γ M l D cs ad kd A p e s m args below meth c Q (ab_tg pc off) L st σ) (k2 : ¬ ab_cd cd x 0 → ab_GG Γ M l D cs ad kd A p e s m args below meth c Q (pc + 3) L st σ) : ab_GG Γ M l D cs ad kd A p e s m args below meth c Q pc L (.inl x :: st) σ := by
  intro H locs ls hP hS hL
  have ht : (pc : Int) + off = ((ab_tg pc off : Nat) : Int) := by unfold ab_tg; omega
  have e1 : Int32.ofInt x = 0 ↔ x = 0 := by rw [← ab_zero32, ab_eq32 hr ab_r0]
  have e2 : Int32.ofInt x < 0 ↔ x < 0 := by rw [← ab_zero32, ab_lt32 hr ab_r0]
  have e3 : 0 < Int32.ofInt x ↔ 0 < x := by rw [← ab_zero32, ab_lt32 ab_r0 hr]
  have e4 : Int32.ofInt x ≤ 0 ↔ x ≤ 0 := by rw [← ab_zero32, ab_le32 hr ab_r0]
  have e5 : 0 ≤ Int32.ofInt x ↔ 0 ≤ x := by rw [← ab_zero32, ab_le32 ab_r0 hr]
  cases cd with
  | eq => exact lv_if_eq C.1 C.2.1 hd ht (fun h => k1 (e1.mp h) H locs ls hP hS hL) (fun h => k2 (fun q => h (e1.mpr q)) H locs ls hP hS hL)
  | ne => exact lv_if_ne C.1 C.2.1 hd ht (fun h => k1 (fun q => h (e1.mpr q)) H locs ls hP hS hL) (fun h => k2 (fun q => q (e1.mp h)) H locs ls hP hS hL)
  | lt => exact lv_if_lt C.1 C.2.1 hd ht (fun h => k1 (e2.mp h) H locs ls hP hS hL) (fun h => k2 (fun q => h (e2.mpr q)) H locs ls hP hS hL)
  | ge => exact lv_if_ge C.1 C.2.1 hd ht (fun h => k1 (e5.mp h) H locs ls hP hS hL) (fun h => k2 (fun q => h (e5.mpr q)) H locs ls hP hS hL)
  | gt => exact lv_if_gt C.1 C.2.1 hd ht (fun h => k1 (e3.mp h) H locs ls hP hS hL) (fun h => k2 (fun q => h (e3.mpr q)) H locs ls hP hS hL)
  | le => exact lv_if_le C.1 C.2.1 hd ht (fun h => k1 (e4.mp h) H locs ls hP hS hL) (fun h => k2 (fun q => h (e4.mpr q)) H locs ls hP hS hL)
theorem ab_s_icmp (C : ab_Cx Γ M D cs ad kd A p s m args meth c) {x y : Int} {cd : ClassFile.Cond} {off : Int} (hd : decode (ab_cc M) pc = .ok (.if_icmp cd off, 3)) (hx : ab_r32 x) (hy : ab_r32 y) (h0 : 0 ≤ (pc : Int) + off)
    (k1 : ab_cd cd x y → ab_GG Γ M l D cs ad kd A p e s m args below meth c Q (ab_tg pc off) L st σ) (k2 : ¬ ab_cd cd x y → ab_GG Γ M l D cs ad kd A p e s m args below meth c Q (pc + 3) L st σ) : ab_GG Γ M l D cs ad kd A p e s m args below meth c Q pc L (.inl y :: .inl x :: st) σ := by
  intro H locs ls hP hS hL
  have ht : (pc : Int) + off = ((ab_tg pc off : Nat) : Int) := by unfold ab_tg; omega
  have e1 := ab_eq32 hx hy
  have e2 := ab_lt32 hx hy
  have e3 := ab_lt32 hy hx
  have e4 := ab_le32 hx hy
  have e5 := ab_le32 hy hx
  cases cd with
  | eq => exact lv_icmp_eq C.1 C.2.1 hd ht (fun h => k1 (e1.mp h) H locs ls hP hS hL) (fun h => k2 (fun q => h (e1.mpr q)) H locs ls hP hS hL)
  | ne => exact lv_icmp_ne C.1 C.2.1 hd ht (fun h => k1 (fun q => h (e1.mpr q)) H locs ls hP hS hL) (fun h => k2 (fun q => q (e1.mp h)) H locs ls hP hS hL)
  | lt => exact lv_icmp_lt C.1 C.2.1 hd ht (fun h => k1 (e2.mp h) H locs ls hP hS hL) (fun h => k2 (fun q => h (e2.mpr q)) H locs ls hP hS hL)
  | ge => exact lv_icmp_ge C.1 C.2.1 hd ht (fun h => k1 (e5.mp h) H locs ls hP hS hL) (fun h => k2 (fun q => h (e5.mpr q)) H locs ls hP hS hL)
  | gt => exact lv_icmp_gt C.1 C.2.1 hd ht (fun h => k1 (e3.mp h) H locs ls hP hS hL) (fun h => k2 (fun q => h (e3.mpr q)) H locs ls hP hS hL)
  | le => exact lv_icmp_le C.1 C.2.1 hd ht (fun h => k1 (e4.mp h) H locs ls hP hS hL) (fun h => k2 (fun q => h (e4.mpr q)) H locs ls hP hS hL)
theorem ab_sw_get {K : Nat → Prop} {x : Int} : ∀ {i : Int} {l : List Int} (j : Nat) {off : Int}, ab_sw K pc x i l → l[j]? = some off → x = i + j → 0 ≤ (pc : Int) + off ∧ K (ab_tg pc off)
  | i, [], j, off, h, hj, hx => by simp at hj
  | i, a :: t, 0, off, h, hj, hx => by
    simp at hj
    subst hj
    exact h.1 (by simpa using hx)
  | i, a :: t, j + 1, off, h, hj, hx => ab_sw_get j h.2 (by simpa using hj) (by omega)
theorem ab_s_table (C : ab_Cx Γ M D cs ad kd A p s m args meth c) {x dflt lo hi : Int} {offs : Array Int} {n : Nat} (hd : decode (ab_cc M) pc = .ok (.tableswitch dflt lo hi offs, n)) (hr : ab_r32 x) (hh : hi = lo + offs.toList.length - 1)
    (k1 : x < lo ∨ hi < x → 0 ≤ (pc : Int) + dflt ∧ ab_GG Γ M l D cs ad kd A p e s m args below meth c Q (ab_tg pc dflt) L st σ) (k2 : ab_sw (fun t => ab_GG Γ M l D cs ad kd A p e s m args below meth c Q t L st σ) pc x lo offs.toList) : ab_GG Γ M l D cs ad kd A p e s m args below meth c Q pc L (.inl x :: st) σ := by
  intro H locs ls hP hS hL
  by_cases h : x < lo ∨ hi < x
  · obtain ⟨h0, k⟩ := k1 h
    exact lv_tableOut (tgt := ab_tg pc dflt) C.1 C.2.1 hd (by rw [ab_i32 hr]; exact h) (by unfold ab_tg; omega) (k H locs ls hP hS hL)
  · have hl : (x - lo).toNat < offs.toList.length := by omega
    have hg : offs.toList[(x - lo).toNat]? = some offs.toList[(x - lo).toNat] := List.getElem?_eq_getElem hl
    obtain ⟨h0, k⟩ := ab_sw_get (x - lo).toNat k2 hg (by omega)
    refine lv_tableIn (off := offs.toList[(x - lo).toNat]) (tgt := ab_tg pc (offs.toList[(x - lo).toNat])) C.1 C.2.1 hd (by rw [ab_i32 hr]; omega) (by rw [ab_i32 hr]; omega) ?_ (by unfold ab_tg; omega) (k H locs ls hP hS hL)
    rw [ab_i32 hr, ← Array.getElem?_toList]
    exact hg
theorem ab_s_st1 (C : ab_Cx Γ M D cs ad kd A p s m args meth c) {v : ab_V} {i n : Nat} (k : ab_GG Γ M l D cs ad kd A p e s m args below meth c Q (pc + n) (ab_st1 L i v) st σ) {H : Heap} {locs : List Loc} (hP : va_P D vwCl (ab_w Γ cs ad σ) H) (hS : va_S A s.heap H locs) :
    ∀ ls' : Array Slot, lv_has ls' (ab_ml M) ((i, ab_d ad kd v) :: (ab_as ad kd L).filter (fun q => !(q.1 == i) && !(q.1 + 1 == i && q.2.category == 2))) → W p l e (ab_rm M) s m args below meth c H locs 0 0 Q (F0 m (pc + n) ls' (st.map (ab_d ad kd))) :=
  fun ls' h => k H locs ls' hP hS (ab_st1_lv h)
theorem ab_s_st2 (C : ab_Cx Γ M D cs ad kd A p s m args meth c) {v : ab_V} {i n : Nat} (k : ab_GG Γ M l D cs ad kd A p e s m args below meth c Q (pc + n) (ab_st2 L i v) st σ) {H : Heap} {locs : List Loc} (hP : va_P D vwCl (ab_w Γ cs ad σ) H) (hS : va_S A s.heap H locs) :
    ∀ ls' : Array Slot, lv_has ls' (ab_ml M) ((i, ab_d ad kd v) :: (ab_as ad kd L).filter (fun q => !(q.1 == i) && (!(q.1 == i + 1) && !(q.1 + 1 == i && q.2.category == 2)))) → W p l e (ab_rm M) s m args below meth c H locs 0 0 Q (F0 m (pc + n) ls' (st.map (ab_d ad kd))) :=
  fun ls' h => k H locs ls' hP hS (ab_st2_lv h)
theorem ab_s_get (C : ab_Cx Γ M D cs ad kd A p s m args meth c) {j o : Nat} {q : Nat ⊕ Int ⊕ Int} (hd : decode (ab_cc M) pc = .ok (.getfield j, 3)) (hg : ab_gt Γ (ab_own M) j o = some q)
    (k : ab_GG Γ M l D cs ad kd A p e s m args below meth c Q (pc + 3) L (ab_gv σ o q :: st) σ) : ab_GG Γ M l D cs ad kd A p e s m args below meth c Q pc L (.inr (.inr (.inl o)) :: st) σ := by
  intro H locs ls hP hS hL
  have kk := k H locs ls hP hS hL
  obtain ⟨hx, hb, hml, hown, hts, hK, hD, hA, hE⟩ := C
  unfold ab_gt at hg
  cases hΓ : Γ[o]? with
  | none => rw [hΓ] at hg; cases hg
  | some d =>
    rw [hΓ] at hg
    dsimp only at hg
    cases hf : ab_fx (ab_own M) j d.1 with
    | none => rw [hf] at hg; cases hg
    | some f =>
      rw [hf] at hg
      dsimp only at hg
      by_cases hlt : f < d.2.1
      · rw [if_pos hlt] at hg
        obtain ⟨Cn, T, N, ref, hc, hN, hlk, hsm⟩ := ab_fx_ok hf
        have h12 : d.1 < 20 := by
          have := (List.getElem?_eq_some_iff.mp hc).1
          simp at this
          omega
        obtain ⟨hin, -, -⟩ := ab_cls hc
        have he : (ab_w Γ cs ad σ)[o]? = some (ad o, .inr (d.1, (List.range d.2.1).map (fun k => ab_fv ad σ o (ab_ty d.1 k) (d.2.2.getD k none) k))) := by
          rw [ab_w_get hΓ, ab_cl_o h12]
        have hv : ((List.range d.2.1).map (fun k => ab_fv ad σ o (ab_ty d.1 k) (d.2.2.getD k none) k))[f]? = some (ab_d ad kd (ab_gv σ o q)) := by
          rw [List.getElem?_map, List.getElem?_range hlt]
          simp only [Option.map_some, Option.some.injEq] at hg ⊢
          unfold ab_fv
          cases hr : d.2.2.getD f none with
          | some z =>
            rw [hr] at hg
            subst hg
            rfl
          | none =>
            rw [hr] at hg
            dsimp only at hg ⊢
            split at hg
            · rename_i h3
              rw [if_pos h3]
              subst hg
              rfl
            · rename_i h3
              rw [if_neg h3]
              subst hg
              rfl
        refine va_get (ref := ref) hx hb hts hin hown hK hP o he hc f hN (hts _ hlk) ?_ hv hd kk
        rcases hsm with h | h
        · rw [h]; exact fun x hx => hx
        · exact fun x hx => u_same (hts _ h) x hx
      · rw [if_neg hlt] at hg
        cases hg
theorem ab_s_put (C : ab_Cx Γ M D cs ad kd A p s m args meth c) {j o : Nat} {q : Int × Nat} {v : ab_V} {z : Int} (hd : decode (ab_cc M) pc = .ok (.putfield j, 3)) (hg : ab_pt Γ (ab_own M) j o = some q)
    (hv : (v = .inl z ∧ (q.2 = 0 ∨ (q.2 = 2 ∧ (z = 0 ∨ z = 1)))) ∨ (v = .inr (.inl z) ∧ q.2 = 1))
    (k : ab_GG Γ M l D cs ad kd A p e s m args below meth c Q (pc + 3) L st (ab_up σ o q.1 z)) : ab_GG Γ M l D cs ad kd A p e s m args below meth c Q pc L (v :: .inr (.inr (.inl o)) :: st) σ := by
  intro H locs ls hP hS hL
  obtain ⟨hx, hb, hml, hown, hts, hK, hD, hA, hE⟩ := C
  unfold ab_pt at hg
  cases hΓ : Γ[o]? with
  | none => rw [hΓ] at hg; cases hg
  | some d =>
    rw [hΓ] at hg
    dsimp only at hg
    cases hf : ab_fx (ab_own M) j d.1 with
    | none => rw [hf] at hg; cases hg
    | some f =>
      rw [hf] at hg
      obtain ⟨Cn, T, N, ref, hc, hN, hlk, hsm⟩ := ab_fx_ok hf
      rw [hc] at hg
      dsimp only at hg
      by_cases hlt : f < d.2.1 ∧ (T f).2.2.2 = false ∧ d.2.2.getD f none = none
      · rw [if_pos hlt] at hg
        obtain ⟨h1, h2, h3⟩ := hlt
        have h12 : d.1 < 20 := by
          have := (List.getElem?_eq_some_iff.mp hc).1
          simp at this
          omega
        obtain ⟨hin, hty, hnm⟩ := ab_cls hc
        have he : (ab_w Γ cs ad σ)[o]? = some (ad o, .inr (d.1, (List.range d.2.1).map (fun k => ab_fv ad σ o (ab_ty d.1 k) (d.2.2.getD k none) k))) := by
          rw [ab_w_get hΓ, ab_cl_o h12]
        have hty2 : (q = ((f : Int), 0) ∧ ab_ty d.1 f = .int) ∨ (q = ((f : Int), 1) ∧ ab_ty d.1 f = .long) ∨ (q = ((f : Int), 2) ∧ ab_ty d.1 f = .boolean) := by
          cases ht : ab_ty d.1 f <;> rw [ht] at hg <;> simp at hg <;> subst hg <;> simp
        have hsame : ∀ x, s.fieldFound? (T f).1 (T f).2.1 (T f).2.2.1 = some x → s.fieldFound? ref (T f).2.1 (T f).2.2.1 = some x := by
          rcases hsm with h | h
          · rw [h]; exact fun x hx => hx
          · exact fun x hx => u_same (hts _ h) x hx
        have hq1 : q.1 = (f : Int) := by rcases hty2 with h | h | h <;> rw [h.1]
        have hset : ab_w Γ cs ad (ab_up σ o q.1 z) = (ab_w Γ cs ad σ).set o (ad o, .inr (d.1, ((List.range d.2.1).map (fun k => ab_fv ad σ o (ab_ty d.1 k) (d.2.2.getD k none) k)).set f (ab_d ad kd v))) := by
          rw [ab_w_set (σ := σ) hΓ ab_up_o, ab_cl_o h12]
          congr 4
          apply List.ext_getElem?
          intro i
          rw [List.getElem?_set, List.getElem?_map]
          by_cases hi : f = i
          · subst hi
            rw [if_pos rfl, if_pos (by simpa using h1), List.getElem?_range h1]
            simp only [Option.map_some, Option.some.injEq]
            unfold ab_fv
            rw [h3]
            dsimp only
            have eu : ab_up σ o q.1 z o (f : Int) = z := by rw [hq1]; simp [ab_up]
            rw [eu]
            rcases hty2 with ⟨h, h'⟩ | ⟨h, h'⟩ | ⟨h, h'⟩ <;> rcases hv with ⟨rfl, hv⟩ | ⟨rfl, hv⟩ <;> rw [h] at hv <;> simp at hv <;> rw [h'] <;> rfl
          · rw [if_neg hi, List.getElem?_map]
            by_cases hr : i < d.2.1
            · rw [List.getElem?_range hr]
              simp only [Option.map_some, Option.some.injEq]
              unfold ab_fv
              have eu : ab_up σ o q.1 z o (i : Int) = σ o (i : Int) := by
                rw [hq1]
                simp [ab_up]
                omega
              rw [eu]
            · rw [List.getElem?_eq_none (by simpa using hr)]
              rfl
        have hn : narrow (ab_ty d.1 f) (ab_d ad kd v) = ab_d ad kd v ∧ fits (ab_ty d.1 f) (ab_d ad kd v) = true := by
          rcases hty2 with ⟨h, h'⟩ | ⟨h, h'⟩ | ⟨h, h'⟩ <;> rcases hv with ⟨rfl, hv⟩ | ⟨rfl, hv⟩ <;> rw [h] at hv <;> simp at hv <;> rw [h']
          · exact ⟨rfl, rfl⟩
          · exact ⟨rfl, rfl⟩
          · rcases hv with rfl | rfl
            · exact ⟨ab_nz0, ab_fz0⟩
            · exact ⟨ab_nz1, ab_fz1⟩
        refine va_put (ref := ref) hx hb hts hin (ab_ty d.1) hty hnm hown hK hP (hD σ) hS o he hc f hN (hts _ hlk) hsame h2 (hty f hN) hn.1 hn.2 (by simpa using h1) hd ?_
        intro H1 locs1 hP1 hD1 hS1
        rw [← hset] at hP1
        exact k H1 locs1 ls hP1 hS1 hL
      · rw [if_neg hlt] at hg
        cases hg
end
