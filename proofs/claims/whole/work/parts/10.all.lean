-- SOUNDNESS in all
section
variable {Γ : List ab_O} {M : ab_M} {l : Launch} {D : va_G} {cs : Nat → ClassId} {ad kd : Nat → Nat} {A : Nat → Prop} {p : Program} {e : Env} {s : State} {m : MethodId} {args : Array Value} {below : List Frame} {meth : Method} {c : Code} {pc : Nat} {L : ab_L} {st : List ab_V} {σ : ab_S}
theorem ab_ex_ok (C : ab_Cx Γ M D cs ad kd A p s m args meth c) (hr : meth.sig.returnType = ab_rt M) (hlk : meth.locks = false) {K : ab_K} {Rt : ab_V → ab_S → Prop} {i : Instr} {n : Nat} (hd : decode (ab_cc M) pc = .ok (i, n)) (h : ab_ex Γ M K Rt pc n L st σ i)
    (hK : ∀ pc L st σ, K pc L st σ → ab_GG Γ M l D cs ad kd A p e s m args below meth c (MQ below (ab_Q M Rt (ab_B Γ D cs ad) A) args s 0 0 A) pc L st σ) :
    ab_GG Γ M l D cs ad kd A p e s m args below meth c (MQ below (ab_Q M Rt (ab_B Γ D cs ad) A) args s 0 0 A) pc L st σ := by
  cases i <;> try exact False.elim h
  case iconst v =>
    obtain ⟨rfl, h⟩ := h
    intro H locs ls hP hS hL
    exact lv_iconst C.1 C.2.1 hd rfl (hK _ _ _ _ h H locs ls hP hS hL)
  case bipush v =>
    obtain ⟨rfl, hb, h⟩ := h
    intro H locs ls hP hS hL
    refine lv_bipush C.1 C.2.1 hd ?_ (hK _ _ _ _ h H locs ls hP hS hL)
    apply ab_inj32
    rw [Int8.toInt_toInt32, Int8.toInt_ofInt, ab_i32 (by unfold ab_r32; omega)]
    simp [Int.bmod_def]
    omega
  case sipush v =>
    obtain ⟨rfl, hb, h⟩ := h
    intro H locs ls hP hS hL
    refine lv_sipush C.1 C.2.1 hd ?_ (hK _ _ _ _ h H locs ls hP hS hL)
    apply ab_inj32
    rw [Int16.toInt_toInt32, Int16.toInt_ofInt, ab_i32 (by unfold ab_r32; omega)]
    simp [Int.bmod_def]
    omega
  case lconst v =>
    obtain ⟨rfl, h⟩ := h
    intro H locs ls hP hS hL
    exact lv_lconst C.1 C.2.1 hd rfl (hK _ _ _ _ h H locs ls hP hS hL)
  case ldc j =>
    obtain ⟨rfl, h⟩ := h
    intro H locs ls hP hS hL
    split at h
    · rename_i q hq
      cases q with
      | inl v => exact lv_ldc C.1 C.2.1 C.2.2.2.1 (C.2.2.2.2.1 _ (ab_kx_ok hq)) hd (hK _ _ _ _ h.1 H locs ls hP hS hL)
      | inr v => exact h.2.elim
    · obtain ⟨i, hi, h⟩ := ab_op_ok h
      obtain ⟨h1, h2, h3⟩ := ab_ks_ok hi
      have hown := C.2.2.2.1
      rw [h1] at hown
      have hz := C.2.2.2.2.2.2.2.2.2.1 i h2
      rw [h3] at hz
      have h9 := hK _ _ _ _ h H locs ls hP hS hL
      rw [List.map_cons, ab_d_t (by omega)] at h9
      exact va_ldcS C.1 C.2.1 hown hz hd h9
  case ldc_w j =>
    obtain ⟨rfl, h⟩ := h
    obtain ⟨q, hq, h⟩ := ab_op_ok h
    intro H locs ls hP hS hL
    cases q with
    | inl v => exact lv_ldcw C.1 C.2.1 C.2.2.2.1 (C.2.2.2.2.1 _ (ab_kx_ok hq)) hd (hK _ _ _ _ h.1 H locs ls hP hS hL)
    | inr v => exact h.2.elim
  case ldc2_w j =>
    obtain ⟨rfl, h⟩ := h
    obtain ⟨q, hq, h⟩ := ab_op_ok h
    intro H locs ls hP hS hL
    cases q with
    | inl v => exact h.2.elim
    | inr v => exact lv_ldc2 C.1 C.2.1 C.2.2.2.1 (C.2.2.2.2.1 _ (ab_kx_ok hq)) hd (hK _ _ _ _ h.1 H locs ls hP hS hL)
  case iload_n k =>
    obtain ⟨rfl, h⟩ := h
    obtain ⟨x, hx, h⟩ := ab_gI_ok h
    intro H locs ls hP hS hL
    exact lv_iload_n C.1 C.2.1 hd rfl (ab_lv_at hL (ab_lk_ok hx)) (hK _ _ _ _ h H locs ls hP hS hL)
  case iload k =>
    obtain ⟨rfl, h⟩ := h
    obtain ⟨x, hx, h⟩ := ab_gI_ok h
    intro H locs ls hP hS hL
    exact lv_iload C.1 C.2.1 hd (ab_lv_at hL (ab_lk_ok hx)) (hK _ _ _ _ h H locs ls hP hS hL)
  case lload_n k =>
    obtain ⟨rfl, h⟩ := h
    obtain ⟨x, hx, h⟩ := ab_gL_ok h
    intro H locs ls hP hS hL
    exact lv_lload_n C.1 C.2.1 hd rfl (ab_lv_at hL (ab_lk_ok hx)) (hK _ _ _ _ h H locs ls hP hS hL)
  case lload k =>
    obtain ⟨rfl, h⟩ := h
    obtain ⟨x, hx, h⟩ := ab_gL_ok h
    intro H locs ls hP hS hL
    exact lv_lload C.1 C.2.1 hd (ab_lv_at hL (ab_lk_ok hx)) (hK _ _ _ _ h H locs ls hP hS hL)
  case aload_n k =>
    obtain ⟨rfl, h⟩ := h
    obtain ⟨x, hx, h⟩ := ab_gR_ok h
    intro H locs ls hP hS hL
    have h1 := ab_lv_at hL (ab_lk_ok hx)
    have h2 := hK _ _ _ _ h H locs ls hP hS hL
    rcases x with x | x
    · exact lv_aload_n C.1 C.2.1 hd rfl h1 h2
    · by_cases e9 : x = 28
      · subst e9
        rw [ab_d_f] at h1
        rw [List.map_cons, ab_d_f] at h2
        cases hk : kd 28 with
        | zero =>
          rw [hk] at h1 h2
          exact lv_aload_nN C.1 C.2.1 hd rfl h1 h2
        | succ a =>
          rw [hk] at h1 h2
          exact lv_aload_n C.1 C.2.1 hd rfl h1 h2
      · rw [ab_d_t e9] at h1
        rw [List.map_cons, ab_d_t e9] at h2
        exact lv_aload_n C.1 C.2.1 hd rfl h1 h2
  case aload k =>
    obtain ⟨rfl, h⟩ := h
    obtain ⟨x, hx, h⟩ := ab_gR_ok h
    intro H locs ls hP hS hL
    have h1 := ab_lv_at hL (ab_lk_ok hx)
    have h2 := hK _ _ _ _ h H locs ls hP hS hL
    rcases x with x | x
    · exact lv_aload C.1 C.2.1 hd h1 h2
    · by_cases e9 : x = 28
      · subst e9
        rw [ab_d_f] at h1
        rw [List.map_cons, ab_d_f] at h2
        cases hk : kd 28 with
        | zero =>
          rw [hk] at h1 h2
          exact lv_aloadN C.1 C.2.1 hd h1 h2
        | succ a =>
          rw [hk] at h1 h2
          exact lv_aload C.1 C.2.1 hd h1 h2
      · rw [ab_d_t e9] at h1
        rw [List.map_cons, ab_d_t e9] at h2
        exact lv_aload C.1 C.2.1 hd h1 h2
  case istore_n k =>
    obtain ⟨rfl, hlt, h⟩ := h
    obtain ⟨x, r, rfl, h⟩ := ab_b1_ok h
    intro H locs ls hP hS hL
    exact lv_istore_n C.1 C.2.1 hd rfl hL hlt rfl (ab_s_st1 C (hK _ _ _ _ h) hP hS)
  case istore k =>
    obtain ⟨rfl, hlt, h⟩ := h
    obtain ⟨x, r, rfl, h⟩ := ab_b1_ok h
    intro H locs ls hP hS hL
    exact lv_istore C.1 C.2.1 hd hL hlt rfl (ab_s_st1 C (hK _ _ _ _ h) hP hS)
  case lstore_n k =>
    obtain ⟨rfl, hlt, h⟩ := h
    obtain ⟨x, r, rfl, h⟩ := ab_l1_ok h
    intro H locs ls hP hS hL
    exact lv_lstore_n C.1 C.2.1 hd rfl hL hlt rfl (ab_s_st2 C (hK _ _ _ _ h) hP hS)
  case lstore k =>
    obtain ⟨rfl, hlt, h⟩ := h
    obtain ⟨x, r, rfl, h⟩ := ab_l1_ok h
    intro H locs ls hP hS hL
    exact lv_lstore C.1 C.2.1 hd hL hlt rfl (ab_s_st2 C (hK _ _ _ _ h) hP hS)
  case iinc k v =>
    obtain ⟨rfl, hlt, h⟩ := h
    obtain ⟨x, hx, h⟩ := ab_gI_ok h
    intro H locs ls hP hS hL
    have hm : (k, Value.int (Int32.ofInt x)) ∈ ab_as ad kd L := ab_as_mem.mpr ⟨.inl x, ab_lk_ok hx, rfl⟩
    obtain ⟨j, hj⟩ := List.getElem?_of_mem hm
    exact lv_iinc C.1 C.2.1 hd hL hj (ab_add32 x v) hlt rfl (ab_s_st1 (v := .inl (x + v)) C (hK _ _ _ _ h) hP hS)
  case iadd =>
    obtain ⟨rfl, h⟩ := h
    obtain ⟨x, y, r, rfl, h⟩ := ab_b2_ok h
    intro H locs ls hP hS hL
    refine lv_iadd C.1 C.2.1 hd ?_
    rw [ab_add32]
    exact hK _ _ _ _ h H locs ls hP hS hL
  case isub =>
    obtain ⟨rfl, h⟩ := h
    obtain ⟨x, y, r, rfl, h⟩ := ab_b2_ok h
    intro H locs ls hP hS hL
    refine lv_isub C.1 C.2.1 hd ?_
    rw [ab_sub32]
    exact hK _ _ _ _ h H locs ls hP hS hL
  case imul =>
    obtain ⟨rfl, h⟩ := h
    obtain ⟨x, y, r, rfl, h⟩ := ab_b2_ok h
    intro H locs ls hP hS hL
    refine lv_imul C.1 C.2.1 hd ?_
    rw [ab_mul32]
    exact hK _ _ _ _ h H locs ls hP hS hL
  case ladd =>
    obtain ⟨rfl, h⟩ := h
    obtain ⟨x, y, r, rfl, h⟩ := ab_l2_ok h
    intro H locs ls hP hS hL
    refine lv_ladd C.1 C.2.1 hd ?_
    rw [ab_add64]
    exact hK _ _ _ _ h H locs ls hP hS hL
  case lsub =>
    obtain ⟨rfl, h⟩ := h
    obtain ⟨x, y, r, rfl, h⟩ := ab_l2_ok h
    intro H locs ls hP hS hL
    refine lv_lsub C.1 C.2.1 hd ?_
    rw [ab_sub64]
    exact hK _ _ _ _ h H locs ls hP hS hL
  case lmul =>
    obtain ⟨rfl, h⟩ := h
    obtain ⟨x, y, r, rfl, h⟩ := ab_l2_ok h
    intro H locs ls hP hS hL
    refine lv_lmul C.1 C.2.1 hd ?_
    rw [ab_mul64]
    exact hK _ _ _ _ h H locs ls hP hS hL
  case iand =>
    obtain ⟨rfl, h⟩ := h
    obtain ⟨x, y, r, rfl, h⟩ := ab_b2_ok h
    intro H locs ls hP hS hL
    have hh := hK _ _ _ _ h H locs ls hP hS hL
    rw [List.map_cons, ab_d, ab_and, ab_of32] at hh
    exact lv_iand C.1 C.2.1 hd hh
  case ior =>
    obtain ⟨rfl, h⟩ := h
    obtain ⟨x, y, r, rfl, h⟩ := ab_b2_ok h
    intro H locs ls hP hS hL
    have hh := hK _ _ _ _ h H locs ls hP hS hL
    rw [List.map_cons, ab_d, ab_or, ab_of32] at hh
    exact lv_ior C.1 C.2.1 hd hh
  case ixor =>
    obtain ⟨rfl, h⟩ := h
    obtain ⟨x, y, r, rfl, h⟩ := ab_b2_ok h
    intro H locs ls hP hS hL
    have hh := hK _ _ _ _ h H locs ls hP hS hL
    rw [List.map_cons, ab_d, ab_xor, ab_of32] at hh
    exact lv_ixor C.1 C.2.1 hd hh
  case ishl =>
    obtain ⟨rfl, h⟩ := h
    obtain ⟨x, y, r, rfl, h⟩ := ab_b2_ok h
    intro H locs ls hP hS hL
    have hh := hK _ _ _ _ h H locs ls hP hS hL
    rw [List.map_cons, ab_d, ab_shl, ab_of32] at hh
    exact lv_ishl C.1 C.2.1 hd hh
  case ishr =>
    obtain ⟨rfl, h⟩ := h
    obtain ⟨x, y, r, rfl, h⟩ := ab_b2_ok h
    intro H locs ls hP hS hL
    have hh := hK _ _ _ _ h H locs ls hP hS hL
    rw [List.map_cons, ab_d, ab_shr, ab_of32] at hh
    exact lv_ishr C.1 C.2.1 hd hh
  case iushr =>
    obtain ⟨rfl, h⟩ := h
    obtain ⟨x, y, r, rfl, h⟩ := ab_b2_ok h
    intro H locs ls hP hS hL
    have hh := hK _ _ _ _ h H locs ls hP hS hL
    rw [List.map_cons, ab_d, ab_ushr, ab_of32] at hh
    exact lv_iushr C.1 C.2.1 hd rfl hh
  case lor =>
    obtain ⟨rfl, h⟩ := h
    obtain ⟨x, y, r, rfl, h⟩ := ab_l2_ok h
    intro H locs ls hP hS hL
    have hh := hK _ _ _ _ h H locs ls hP hS hL
    rw [List.map_cons, ab_d, ab_orL, ab_of64] at hh
    exact lv_lor C.1 C.2.1 hd hh
  case lshl =>
    obtain ⟨rfl, h⟩ := h
    obtain ⟨x, y, r, rfl, h⟩ := ab_li_ok h
    intro H locs ls hP hS hL
    have hh := hK _ _ _ _ h H locs ls hP hS hL
    rw [List.map_cons, ab_d, ab_shlL, ab_of64] at hh
    exact lv_lshl C.1 C.2.1 hd rfl hh
  case idiv =>
    obtain ⟨rfl, h⟩ := h
    obtain ⟨x, y, r, rfl, ⟨h0, hx, h1, hy⟩, h⟩ := ab_b2_ok h
    intro H locs ls hP hS hL
    refine lv_idiv C.1 C.2.1 hd ?_ ?_
    · rw [← ab_zero32, ab_eq32 hy ab_r0]
      omega
    · rw [ab_div32 h0 hx h1 hy]
      exact hK _ _ _ _ h H locs ls hP hS hL
  case irem =>
    obtain ⟨rfl, h⟩ := h
    obtain ⟨x, y, r, rfl, ⟨h0, hx, h1, hy⟩, h⟩ := ab_b2_ok h
    intro H locs ls hP hS hL
    refine lv_irem C.1 C.2.1 hd ?_ ?_
    · rw [← ab_zero32, ab_eq32 hy ab_r0]
      omega
    · rw [ab_rem32 h0 hx h1 hy]
      exact hK _ _ _ _ h H locs ls hP hS hL
  case ldiv =>
    obtain ⟨rfl, h⟩ := h
    obtain ⟨x, y, r, rfl, ⟨hx, hy, h1, h0⟩, h⟩ := ab_l2_ok h
    intro H locs ls hP hS hL
    have z64 : Int64.ofInt 0 = 0 := by decide +kernel
    have r64 : ab_r64 0 := by unfold ab_r64; omega
    refine lv_ldiv C.1 C.2.1 hd ?_ ?_
    · rw [← z64, ab_eq64 hy r64]
      exact h1
    · rw [ab_div64 hx h0 hy]
      exact hK _ _ _ _ h H locs ls hP hS hL
  case lrem =>
    obtain ⟨rfl, h⟩ := h
    obtain ⟨x, y, r, rfl, ⟨hx, hy, h1, h0⟩, h⟩ := ab_l2_ok h
    intro H locs ls hP hS hL
    have z64 : Int64.ofInt 0 = 0 := by decide +kernel
    have r64 : ab_r64 0 := by unfold ab_r64; omega
    refine lv_lrem C.1 C.2.1 hd ?_ ?_
    · rw [← z64, ab_eq64 hy r64]
      exact h1
    · rw [ab_rem64 hx h0 hy]
      exact hK _ _ _ _ h H locs ls hP hS hL
  case lcmp =>
    obtain ⟨rfl, h⟩ := h
    obtain ⟨x, y, r, rfl, ⟨hx, hy⟩, h⟩ := ab_l2_ok h
    intro H locs ls hP hS hL
    have e1 : lg_cmp (Int64.ofInt x) (Int64.ofInt y) = Int32.ofInt (ab_cmp x y) := by
      unfold lg_cmp ab_cmp
      by_cases h1 : y < x
      · rw [if_pos ((ab_lt64 hy hx).mpr h1), if_pos h1]
        decide +kernel
      · rw [if_neg (fun q => h1 ((ab_lt64 hy hx).mp q)), if_neg h1]
        by_cases h2 : x = y
        · rw [if_pos ((ab_eq64 hx hy).mpr h2), if_pos h2]
          decide +kernel
        · rw [if_neg (fun q => h2 ((ab_eq64 hx hy).mp q)), if_neg h2]
          decide +kernel
    refine W.lcmp C.1 C.2.1 hd ?_
    rw [e1]
    exact hK _ _ _ _ h H locs ls hP hS hL
  case ineg =>
    obtain ⟨rfl, h⟩ := h
    obtain ⟨x, r, rfl, h⟩ := ab_b1_ok h
    intro H locs ls hP hS hL
    refine lv_ineg C.1 C.2.1 hd ?_
    rw [ab_neg32]
    exact hK _ _ _ _ h H locs ls hP hS hL
  case lneg =>
    obtain ⟨rfl, h⟩ := h
    obtain ⟨x, r, rfl, h⟩ := ab_l1_ok h
    intro H locs ls hP hS hL
    refine lv_lneg C.1 C.2.1 hd ?_
    rw [ab_neg64]
    exact hK _ _ _ _ h H locs ls hP hS hL
  case i2l =>
    obtain ⟨rfl, h⟩ := h
    obtain ⟨x, r, rfl, hx, h⟩ := ab_b1_ok h
    intro H locs ls hP hS hL
    exact lv_i2l C.1 C.2.1 hd (ab_i2l hx) (hK _ _ _ _ h H locs ls hP hS hL)
  case l2i =>
    obtain ⟨rfl, h⟩ := h
    obtain ⟨x, r, rfl, h⟩ := ab_l1_ok h
    intro H locs ls hP hS hL
    exact lv_l2i C.1 C.2.1 hd (ab_l2i x) (hK _ _ _ _ h H locs ls hP hS hL)
  case i2b =>
    obtain ⟨rfl, h⟩ := h
    obtain ⟨x, r, rfl, h⟩ := ab_b1_ok h
    intro H locs ls hP hS hL
    exact lv_i2b C.1 C.2.1 hd (by rw [ab_i2b, ab_of32]) (hK _ _ _ _ h H locs ls hP hS hL)
  case dup =>
    obtain ⟨rfl, h⟩ := h
    obtain ⟨o, r, rfl, h⟩ := ab_o1_ok h
    intro H locs ls hP hS hL
    exact lv_dup C.1 C.2.1 hd rfl (hK _ _ _ _ h H locs ls hP hS hL)
  case pop =>
    obtain ⟨rfl, h⟩ := h
    obtain ⟨x, r, rfl, h⟩ := ab_b1_ok h
    intro H locs ls hP hS hL
    exact lv_pop C.1 C.2.1 hd rfl (hK _ _ _ _ h H locs ls hP hS hL)
  case dup2 =>
    obtain ⟨rfl, h⟩ := h
    intro H locs ls hP hS hL
    unfold ab_d2 at h
    split at h
    · exact lv_dup2_2 C.1 C.2.1 hd rfl (hK _ _ _ _ h H locs ls hP hS hL)
    · exact lv_dup2_11 C.1 C.2.1 hd rfl rfl (hK _ _ _ _ h H locs ls hP hS hL)
    · rename_i y x r
      rcases x with x | x
      · exact lv_dup2_11 C.1 C.2.1 hd rfl rfl (hK _ _ _ _ h H locs ls hP hS hL)
      · exact lv_dup2_11 C.1 C.2.1 hd rfl (ab_cat_d ad kd _) (hK _ _ _ _ h H locs ls hP hS hL)
    · exact h.elim
  case goto off =>
    obtain ⟨rfl, h0, h⟩ := h
    intro H locs ls hP hS hL
    exact lv_goto (tgt := ab_tg pc off) C.1 C.2.1 hd (by unfold ab_tg; omega) (hK _ _ _ _ h H locs ls hP hS hL)
  case ifCond cd off =>
    obtain ⟨rfl, h⟩ := h
    obtain ⟨x, r, rfl, hx, h0, h1, h2⟩ := ab_b1_ok h
    exact ab_s_if C hd hx h0 (fun q => hK _ _ _ _ (h1 q)) (fun q => hK _ _ _ _ (h2 q))
  case if_icmp cd off =>
    obtain ⟨rfl, h⟩ := h
    obtain ⟨x, y, r, rfl, ⟨hx, hy⟩, h0, h1, h2⟩ := ab_b2_ok h
    exact ab_s_icmp C hd hx hy h0 (fun q => hK _ _ _ _ (h1 q)) (fun q => hK _ _ _ _ (h2 q))
  case tableswitch dflt lo hi offs =>
    obtain ⟨x, r, rfl, hx, hh, h1, h2⟩ := ab_b1_ok h
    refine ab_s_table C hd hx hh (fun q => ⟨(h1 q).1, hK _ _ _ _ (h1 q).2⟩) ?_
    have mono : ∀ (ol : List Int) (i : Int), ab_sw (fun t => K t L r σ) pc x i ol → ab_sw (fun t => ab_GG Γ M l D cs ad kd A p e s m args below meth c (MQ below (ab_Q M Rt (ab_B Γ D cs ad) A) args s 0 0 A) t L r σ) pc x i ol := by
      intro ol
      induction ol with
      | nil => intro i _; trivial
      | cons a t ih => intro i hq; exact ⟨fun z => ⟨(hq.1 z).1, hK _ _ _ _ (hq.1 z).2⟩, ih _ hq.2⟩
    exact mono _ _ h2
  case getfield j =>
    obtain ⟨rfl, h⟩ := h
    obtain ⟨o, r, rfl, h⟩ := ab_o1_ok h
    obtain ⟨q, hq, h⟩ := ab_op_ok h
    exact ab_s_get C hd hq (hK _ _ _ _ h)
  case putfield j =>
    obtain ⟨rfl, h⟩ := h
    split at h
    · obtain ⟨q, hq, h1, h⟩ := ab_op_ok h
      exact ab_s_put C hd hq (Or.inl ⟨rfl, h1⟩) (hK _ _ _ _ h)
    · obtain ⟨q, hq, h1, h⟩ := ab_op_ok h
      exact ab_s_put C hd hq (Or.inr ⟨rfl, h1⟩) (hK _ _ _ _ h)
    · exact h.elim
  case iaload =>
    obtain ⟨rfl, h⟩ := h
    obtain ⟨o, i, r, rfl, h⟩ := ab_io_ok h
    obtain ⟨⟨t, z⟩, ha, ht, hi, h⟩ := ab_op_ok h
    obtain ⟨rf, hΓ⟩ := ab_ar_ok ha
    dsimp only at ht hΓ
    subst ht
    exact ab_s_iald C hd hΓ hi (hK _ _ _ _ h)
  case laload =>
    obtain ⟨rfl, h⟩ := h
    obtain ⟨o, i, r, rfl, h⟩ := ab_io_ok h
    obtain ⟨⟨t, z⟩, ha, ht, hi, h⟩ := ab_op_ok h
    obtain ⟨rf, hΓ⟩ := ab_ar_ok ha
    dsimp only at ht hΓ
    subst ht
    exact ab_s_lald C hd hΓ hi (hK _ _ _ _ h)
  case baload =>
    obtain ⟨rfl, h⟩ := h
    obtain ⟨o, i, r, rfl, h⟩ := ab_io_ok h
    obtain ⟨⟨t, z⟩, ha, ht, hi, h⟩ := ab_op_ok h
    obtain ⟨rf, hΓ⟩ := ab_ar_ok ha
    exact ab_s_bald C hd ht hΓ hi (hK _ _ _ _ h)
  case iastore =>
    obtain ⟨rfl, h⟩ := h
    obtain ⟨o, i, x, r, rfl, h⟩ := ab_iio_ok h
    obtain ⟨⟨t, z⟩, ha, ht, hi, h⟩ := ab_op_ok h
    obtain ⟨rf, hΓ⟩ := ab_ar_ok ha
    dsimp only at ht hΓ
    subst ht
    exact ab_s_iast C hd hΓ hi (hK _ _ _ _ h)
  case lastore =>
    obtain ⟨rfl, h⟩ := h
    obtain ⟨o, i, x, r, rfl, h⟩ := ab_lio_ok h
    obtain ⟨⟨t, z⟩, ha, ht, hi, h⟩ := ab_op_ok h
    obtain ⟨rf, hΓ⟩ := ab_ar_ok ha
    dsimp only at ht hΓ
    subst ht
    exact ab_s_last C hd hΓ hi (hK _ _ _ _ h)
  case bastore =>
    obtain ⟨rfl, h⟩ := h
    obtain ⟨o, i, x, r, rfl, h⟩ := ab_iio_ok h
    obtain ⟨⟨t, z⟩, ha, ht, hi, h⟩ := ab_op_ok h
    obtain ⟨rf, hΓ⟩ := ab_ar_ok ha
    exact ab_s_bast C hd ht hΓ hi (hK _ _ _ _ h)
  case aaload =>
    obtain ⟨rfl, h⟩ := h
    obtain ⟨o, i, r, rfl, h⟩ := ab_io_ok h
    obtain ⟨⟨t, z, rf⟩, hΓ, ht, hi, h⟩ := ab_op_ok h
    obtain ⟨q, hq, h2⟩ := ab_op_ok h
    dsimp only at ht hi hq
    subst ht
    exact ab_s_aald C hd hΓ hi hq (hK _ _ _ _ h2)
  case arraylength =>
    obtain ⟨rfl, h⟩ := h
    obtain ⟨o, r, rfl, h⟩ := ab_o1_ok h
    obtain ⟨⟨t, z⟩, ha, ht, h⟩ := ab_op_ok h
    obtain ⟨rf, hΓ⟩ := ab_ar_ok ha
    exact ab_s_alen C hd ht hΓ (hK _ _ _ _ h)
  case invokevirtual j =>
    obtain ⟨rfl, h⟩ := h
    obtain ⟨k, hk, h⟩ := ab_op_ok h
    obtain ⟨o, r, hst, h⟩ := ab_o1_ok h
    obtain ⟨⟨t, z⟩, ha, h⟩ := ab_op_ok h
    obtain ⟨N, hN, hna, hrk, h⟩ := ab_op_ok h
    obtain ⟨rf, hΓ⟩ := ab_ar_ok ha
    exact ab_s_virt C hd hst hΓ hN hna hrk h (fun v τ q => hK _ _ _ _ q)
  case invokestatic j =>
    obtain ⟨rfl, h⟩ := h
    split at h
    · rename_i N hN
      exact ab_s_stat C hd hN h.1 h.2.1 h.2.2 (fun v τ q => hK _ _ _ _ q)
    · obtain ⟨q, hq, h⟩ := ab_op_ok h
      exact ab_s_prm C hd hq h hK
  case ireturn =>
    obtain ⟨rfl, h⟩ := h
    obtain ⟨x, r, rfl, rfl, h2⟩ := ab_b1_ok h
    exact ab_s_iret C hr hlk hd h2
  case lreturn =>
    obtain ⟨rfl, h⟩ := h
    obtain ⟨x, r, rfl, rfl, h1, h⟩ := ab_l1_ok h
    exact ab_s_lret C hr hlk hd h1 h
  case return_ =>
    obtain ⟨rfl, rfl, h1, h⟩ := h
    exact ab_s_vret C hr hlk hd h1 h
theorem ab_stp_ok (C : ab_Cx Γ M D cs ad kd A p s m args meth c) (hr : meth.sig.returnType = ab_rt M) (hlk : meth.locks = false) {K : ab_K} {Rt : ab_V → ab_S → Prop} (h : ab_stp Γ M K Rt pc L st σ)
    (hK : ∀ pc L st σ, K pc L st σ → ab_GG Γ M l D cs ad kd A p e s m args below meth c (MQ below (ab_Q M Rt (ab_B Γ D cs ad) A) args s 0 0 A) pc L st σ) :
    ab_GG Γ M l D cs ad kd A p e s m args below meth c (MQ below (ab_Q M Rt (ab_B Γ D cs ad) A) args s 0 0 A) pc L st σ := by
  unfold ab_stp at h
  split at h
  · rename_i q hq
    exact ab_ex_ok C hr hlk hq h hK
  · exact h.elim
theorem ab_wp_ok (C : ab_Cx Γ M D cs ad kd A p s m args meth c) (hr : meth.sig.returnType = ab_rt M) (hlk : meth.locks = false) {K : ab_K} {Rt : ab_V → ab_S → Prop} (cuts : List Nat)
    (hK : ∀ pc L st σ, K pc L st σ → ab_GG Γ M l D cs ad kd A p e s m args below meth c (MQ below (ab_Q M Rt (ab_B Γ D cs ad) A) args s 0 0 A) pc L st σ) :
    ∀ (n pc : Nat) (L : ab_L) (st : List ab_V) (σ : ab_S), ab_wp Γ M cuts K Rt n pc L st σ → ab_GG Γ M l D cs ad kd A p e s m args below meth c (MQ below (ab_Q M Rt (ab_B Γ D cs ad) A) args s 0 0 A) pc L st σ
  | 0, pc, L, st, σ, h => hK _ _ _ _ h
  | n + 1, pc, L, st, σ, h => by
    unfold ab_wp at h
    cases hb : ab_in pc cuts with
    | true => rw [hb] at h; exact hK _ _ _ _ h
    | false => rw [hb] at h; exact ab_stp_ok C hr hlk h (ab_wp_ok C hr hlk cuts hK n)
end
theorem ab_en_len {ad kd : Nat → Nat} : ∀ vs : List ab_V, (lg_sl (vs.map (ab_d ad kd))).length = (ab_en vs).length
  | [] => rfl
  | v :: t => by
    have ih := ab_en_len (ad := ad) (kd := kd) t
    simp only [lg_sl, List.map_cons, List.flatMap_cons, List.length_append, ab_en, ab_cat_d] at ih ⊢
    rw [ih]
    by_cases hc : ab_cat v = 2
    · simp only [hc, if_true, List.length_cons, List.length_nil]
      omega
    · simp only [hc, if_false, List.length_cons, List.length_nil]
      omega
/-- a predicate of places that is closed under the method's steps -/
def ab_Good (Γ : List ab_O) (M : ab_M) (G : ab_K) (Rt : ab_V → ab_S → Prop) : Prop := ∀ (cuts : List Nat) (n pc : Nat) (L : ab_L) (st : List ab_V) (σ : ab_S), ab_go Γ M cuts G Rt n pc L st σ → G pc L st σ
/-- A METHOD'S RUN from the entry: whatever closed predicate holds there -/
theorem ab_runs {Γ : List ab_O} {M : ab_M} {vs : List ab_V} {σ : ab_S} {Rt : ab_V → ab_S → Prop} (hcode : Cond.code (ab_y M) (ab_cc M) (ab_ml M) (ab_rt M) ∈ ab_TG) (hcl : (plainName (ab_y M).cls && decide ((ab_y M).cls = ab_cn (ab_own M))) = true) (hlen : (ab_en vs).length ≤ ab_ml M)
    (h : ∀ G : ab_K, ab_Good Γ M G Rt → G 0 (ab_ent (ab_ml M) vs) [] σ) : ab_Runs Γ M vs σ Rt := by
  refine ⟨hcode, ?_⟩
  intro l D cs ad kd sz
  obtain ⟨hpl, hcl⟩ := Bool.and_eq_true_iff.mp hcl
  have hcl := of_decide_eq_true hcl
  refine Met.ofW (cc := ab_cc M) (maxL := ab_ml M) (ret := ab_rt M) hpl rfl ?_
  intro p e s m args below meth c s₁ B hml hv
  obtain ⟨rfl, hsz, hP, hK, hD0, hE⟩ := hv
  subst hsz
  have hts0 := atoms_spec (ws := ab_ws M) B.pre
  have hown : s.vm.findClass (ab_y M).cls = some m.cls := findClass_of_methodNamed B.named
  have hA0 : ∀ σ' : ab_S, va_A (ab_w Γ cs ad σ') s.heap.size = va_A (ab_w Γ cs ad σ) s.heap.size := by
    intro σ'
    funext q
    unfold va_A
    have : ∀ τ τ' : ab_S, (∃ (k : Nat) (e : va_E), (ab_w Γ cs ad τ)[k]? = some (q, e)) → ∃ (k : Nat) (e : va_E), (ab_w Γ cs ad τ')[k]? = some (q, e) := by
      rintro τ τ' ⟨k, e, hk⟩
      have hlt : k < Γ.length := by
        have := (List.getElem?_eq_some_iff.mp hk).1
        simpa [ab_w] using this
      have hg : Γ[k]? = some Γ[k] := List.getElem?_eq_getElem hlt
      rw [ab_w_get hg] at hk
      cases hk
      exact ⟨k, _, ab_w_get hg⟩
    exact propext ⟨fun z => z.elim (fun z => Or.inl (this _ _ z)) Or.inr, fun z => z.elim (fun z => Or.inl (this _ _ z)) Or.inr⟩
  have hDs : ∀ σ' : ab_S, va_D (va_A (ab_w Γ cs ad σ) s.heap.size) (ab_w Γ cs ad σ') := by
    intro σ'
    rw [← hA0 σ']
    refine va_D.self (A := fun _ => True) ⟨?_, fun _ _ _ => trivial⟩
    intro i j p1 q1 hi hj hpq
    have hli : i < Γ.length := by
      have := (List.getElem?_eq_some_iff.mp hi).1
      simpa [ab_w] using this
    have hlj : j < Γ.length := by
      have := (List.getElem?_eq_some_iff.mp hj).1
      simpa [ab_w] using this
    have gi : Γ[i]? = some Γ[i] := List.getElem?_eq_getElem hli
    have gj : Γ[j]? = some Γ[j] := List.getElem?_eq_getElem hlj
    rw [ab_w_get gi] at hi
    rw [ab_w_get gj] at hj
    cases hi
    cases hj
    exact hD0.1 i j _ _ (ab_w_get gi) (ab_w_get gj) hpq
  have C : ab_Cx Γ M D cs ad kd (va_A (ab_w Γ cs ad σ) s.heap.size) p s m ((vs.map (ab_d ad kd)).toArray) meth c :=
    ⟨B.exec, B.bytes, hml, by rw [← hcl]; exact hown, fun w hw => hts0 w (List.mem_cons_of_mem _ hw), hK, hDs, fun q hq => Or.inr hq, hE⟩
  have hgo : ab_Good Γ M (ab_GG Γ M l D cs ad kd (va_A (ab_w Γ cs ad σ) s.heap.size) p e s m ((vs.map (ab_d ad kd)).toArray) below meth c (MQ below (ab_Q M Rt (ab_B Γ D cs ad) (va_A (ab_w Γ cs ad σ) s.heap.size)) ((vs.map (ab_d ad kd)).toArray) s 0 0 (va_A (ab_w Γ cs ad σ) s.heap.size))) Rt := by
    intro cuts n pc L st σ' hg
    exact ab_stp_ok C B.returns B.notSynchronized hg (ab_wp_ok C B.returns B.notSynchronized cuts (fun _ _ _ _ z => z) n)
  have hl := ab_en_len (ad := ad) (kd := kd) vs
  rw [lg_entry_eq]
  have hlv := lv_entry (vs.map (ab_d ad kd)) (n := ab_ml M) (by rw [hl]; exact hlen)
  exact h _ hgo s.heap [] _ hP va_S.rf (ab_ent_lv hlv)
