theorem dil_0 {Γ : List ab_O} {M : ab_M} {K : ab_K} {Rt : ab_V → ab_S → Prop} {pc n : Nat} {st : List ab_V} {σ : ab_S} {t : ab_L} {x : Int} : ab_ex Γ M K Rt pc n (some (.inl x) :: t) st σ (.iload_n 0) = (n = 1 ∧ K (pc + 1) (some (.inl x) :: t) (.inl x :: st) σ) := rfl
theorem dll_0 {Γ : List ab_O} {M : ab_M} {K : ab_K} {Rt : ab_V → ab_S → Prop} {pc n : Nat} {st : List ab_V} {σ : ab_S} {t : ab_L} {x : Int} : ab_ex Γ M K Rt pc n (some (.inr (.inl x)) :: t) st σ (.lload_n 0) = (n = 1 ∧ K (pc + 1) (some (.inr (.inl x)) :: t) (.inr (.inl x) :: st) σ) := rfl
theorem dal_0 {Γ : List ab_O} {M : ab_M} {K : ab_K} {Rt : ab_V → ab_S → Prop} {pc n : Nat} {st : List ab_V} {σ : ab_S} {t : ab_L} {x : Nat ⊕ Nat} : ab_ex Γ M K Rt pc n (some (.inr (.inr x)) :: t) st σ (.aload_n 0) = (n = 1 ∧ K (pc + 1) (some (.inr (.inr x)) :: t) (.inr (.inr x) :: st) σ) := rfl
theorem dis_0 {Γ : List ab_O} {M : ab_M} {K : ab_K} {Rt : ab_V → ab_S → Prop} {pc n : Nat} {r : List ab_V} {σ : ab_S} {t : ab_L} {z : Option ab_V} {x : Int} : ab_ex Γ M K Rt pc n (z :: t) (.inl x :: r) σ (.istore_n 0) = (n = 1 ∧ 0 < ab_ml M ∧ K (pc + 1) (some (.inl x) :: t) r σ) := by simp only [ex_istore_n, ab_b1_s, st1_0, ab_f4_0]
theorem dls_0 {Γ : List ab_O} {M : ab_M} {K : ab_K} {Rt : ab_V → ab_S → Prop} {pc n : Nat} {r : List ab_V} {σ : ab_S} {t : ab_L} {z z2 : Option ab_V} {x : Int} : ab_ex Γ M K Rt pc n (z :: z2 :: t) (.inr (.inl x) :: r) σ (.lstore_n 0) = (n = 1 ∧ 1 < ab_ml M ∧ K (pc + 1) (some (.inr (.inl x)) :: none :: t) r σ) := by simp only [ex_lstore_n, ab_l1_s, st2_0, ab_f4_0, Nat.reduceAdd]
theorem dinc_0 {Γ : List ab_O} {M : ab_M} {K : ab_K} {Rt : ab_V → ab_S → Prop} {pc n : Nat} {st : List ab_V} {σ : ab_S} {t : ab_L} {x v : Int} : ab_ex Γ M K Rt pc n (some (.inl x) :: t) st σ (.iinc 0 v) = (n = 3 ∧ 0 < ab_ml M ∧ K (pc + 3) (some (.inl (x + v)) :: t) st σ) := by simp only [ex_iinc, lk_0, ab_gI_s, st1_0]
theorem dil_1 {Γ : List ab_O} {M : ab_M} {K : ab_K} {Rt : ab_V → ab_S → Prop} {pc n : Nat} {st : List ab_V} {σ : ab_S} {t : ab_L} {a0 : Option ab_V} {x : Int} : ab_ex Γ M K Rt pc n (a0 :: some (.inl x) :: t) st σ (.iload_n 1) = (n = 1 ∧ K (pc + 1) (a0 :: some (.inl x) :: t) (.inl x :: st) σ) := rfl
theorem dll_1 {Γ : List ab_O} {M : ab_M} {K : ab_K} {Rt : ab_V → ab_S → Prop} {pc n : Nat} {st : List ab_V} {σ : ab_S} {t : ab_L} {a0 : Option ab_V} {x : Int} : ab_ex Γ M K Rt pc n (a0 :: some (.inr (.inl x)) :: t) st σ (.lload_n 1) = (n = 1 ∧ K (pc + 1) (a0 :: some (.inr (.inl x)) :: t) (.inr (.inl x) :: st) σ) := rfl
theorem dal_1 {Γ : List ab_O} {M : ab_M} {K : ab_K} {Rt : ab_V → ab_S → Prop} {pc n : Nat} {st : List ab_V} {σ : ab_S} {t : ab_L} {a0 : Option ab_V} {x : Nat ⊕ Nat} : ab_ex Γ M K Rt pc n (a0 :: some (.inr (.inr x)) :: t) st σ (.aload_n 1) = (n = 1 ∧ K (pc + 1) (a0 :: some (.inr (.inr x)) :: t) (.inr (.inr x) :: st) σ) := rfl
theorem dis_1 {Γ : List ab_O} {M : ab_M} {K : ab_K} {Rt : ab_V → ab_S → Prop} {pc n : Nat} {r : List ab_V} {σ : ab_S} {t : ab_L} {a0 : Option ab_V} {z : Option ab_V} {x : Int} : ab_ex Γ M K Rt pc n (a0 :: z :: t) (.inl x :: r) σ (.istore_n 1) = (n = 1 ∧ 1 < ab_ml M ∧ K (pc + 1) (ab_cl a0 :: some (.inl x) :: t) r σ) := by simp only [ex_istore_n, ab_b1_s, st1_1, ab_f4_1]
theorem dls_1 {Γ : List ab_O} {M : ab_M} {K : ab_K} {Rt : ab_V → ab_S → Prop} {pc n : Nat} {r : List ab_V} {σ : ab_S} {t : ab_L} {a0 : Option ab_V} {z z2 : Option ab_V} {x : Int} : ab_ex Γ M K Rt pc n (a0 :: z :: z2 :: t) (.inr (.inl x) :: r) σ (.lstore_n 1) = (n = 1 ∧ 2 < ab_ml M ∧ K (pc + 1) (ab_cl a0 :: some (.inr (.inl x)) :: none :: t) r σ) := by simp only [ex_lstore_n, ab_l1_s, st2_1, ab_f4_1, Nat.reduceAdd]
theorem dinc_1 {Γ : List ab_O} {M : ab_M} {K : ab_K} {Rt : ab_V → ab_S → Prop} {pc n : Nat} {st : List ab_V} {σ : ab_S} {t : ab_L} {a0 : Option ab_V} {x v : Int} : ab_ex Γ M K Rt pc n (a0 :: some (.inl x) :: t) st σ (.iinc 1 v) = (n = 3 ∧ 1 < ab_ml M ∧ K (pc + 3) (ab_cl a0 :: some (.inl (x + v)) :: t) st σ) := by simp only [ex_iinc, lk_1, ab_gI_s, st1_1]
theorem dil_2 {Γ : List ab_O} {M : ab_M} {K : ab_K} {Rt : ab_V → ab_S → Prop} {pc n : Nat} {st : List ab_V} {σ : ab_S} {t : ab_L} {a0 a1 : Option ab_V} {x : Int} : ab_ex Γ M K Rt pc n (a0 :: a1 :: some (.inl x) :: t) st σ (.iload_n 2) = (n = 1 ∧ K (pc + 1) (a0 :: a1 :: some (.inl x) :: t) (.inl x :: st) σ) := rfl
theorem dll_2 {Γ : List ab_O} {M : ab_M} {K : ab_K} {Rt : ab_V → ab_S → Prop} {pc n : Nat} {st : List ab_V} {σ : ab_S} {t : ab_L} {a0 a1 : Option ab_V} {x : Int} : ab_ex Γ M K Rt pc n (a0 :: a1 :: some (.inr (.inl x)) :: t) st σ (.lload_n 2) = (n = 1 ∧ K (pc + 1) (a0 :: a1 :: some (.inr (.inl x)) :: t) (.inr (.inl x) :: st) σ) := rfl
theorem dal_2 {Γ : List ab_O} {M : ab_M} {K : ab_K} {Rt : ab_V → ab_S → Prop} {pc n : Nat} {st : List ab_V} {σ : ab_S} {t : ab_L} {a0 a1 : Option ab_V} {x : Nat ⊕ Nat} : ab_ex Γ M K Rt pc n (a0 :: a1 :: some (.inr (.inr x)) :: t) st σ (.aload_n 2) = (n = 1 ∧ K (pc + 1) (a0 :: a1 :: some (.inr (.inr x)) :: t) (.inr (.inr x) :: st) σ) := rfl
theorem dis_2 {Γ : List ab_O} {M : ab_M} {K : ab_K} {Rt : ab_V → ab_S → Prop} {pc n : Nat} {r : List ab_V} {σ : ab_S} {t : ab_L} {a0 a1 : Option ab_V} {z : Option ab_V} {x : Int} : ab_ex Γ M K Rt pc n (a0 :: a1 :: z :: t) (.inl x :: r) σ (.istore_n 2) = (n = 1 ∧ 2 < ab_ml M ∧ K (pc + 1) (a0 :: ab_cl a1 :: some (.inl x) :: t) r σ) := by simp only [ex_istore_n, ab_b1_s, st1_2, ab_f4_2]
theorem dls_2 {Γ : List ab_O} {M : ab_M} {K : ab_K} {Rt : ab_V → ab_S → Prop} {pc n : Nat} {r : List ab_V} {σ : ab_S} {t : ab_L} {a0 a1 : Option ab_V} {z z2 : Option ab_V} {x : Int} : ab_ex Γ M K Rt pc n (a0 :: a1 :: z :: z2 :: t) (.inr (.inl x) :: r) σ (.lstore_n 2) = (n = 1 ∧ 3 < ab_ml M ∧ K (pc + 1) (a0 :: ab_cl a1 :: some (.inr (.inl x)) :: none :: t) r σ) := by simp only [ex_lstore_n, ab_l1_s, st2_2, ab_f4_2, Nat.reduceAdd]
theorem dinc_2 {Γ : List ab_O} {M : ab_M} {K : ab_K} {Rt : ab_V → ab_S → Prop} {pc n : Nat} {st : List ab_V} {σ : ab_S} {t : ab_L} {a0 a1 : Option ab_V} {x v : Int} : ab_ex Γ M K Rt pc n (a0 :: a1 :: some (.inl x) :: t) st σ (.iinc 2 v) = (n = 3 ∧ 2 < ab_ml M ∧ K (pc + 3) (a0 :: ab_cl a1 :: some (.inl (x + v)) :: t) st σ) := by simp only [ex_iinc, lk_2, ab_gI_s, st1_2]
theorem dil_3 {Γ : List ab_O} {M : ab_M} {K : ab_K} {Rt : ab_V → ab_S → Prop} {pc n : Nat} {st : List ab_V} {σ : ab_S} {t : ab_L} {a0 a1 a2 : Option ab_V} {x : Int} : ab_ex Γ M K Rt pc n (a0 :: a1 :: a2 :: some (.inl x) :: t) st σ (.iload_n 3) = (n = 1 ∧ K (pc + 1) (a0 :: a1 :: a2 :: some (.inl x) :: t) (.inl x :: st) σ) := rfl
theorem dll_3 {Γ : List ab_O} {M : ab_M} {K : ab_K} {Rt : ab_V → ab_S → Prop} {pc n : Nat} {st : List ab_V} {σ : ab_S} {t : ab_L} {a0 a1 a2 : Option ab_V} {x : Int} : ab_ex Γ M K Rt pc n (a0 :: a1 :: a2 :: some (.inr (.inl x)) :: t) st σ (.lload_n 3) = (n = 1 ∧ K (pc + 1) (a0 :: a1 :: a2 :: some (.inr (.inl x)) :: t) (.inr (.inl x) :: st) σ) := rfl
theorem dal_3 {Γ : List ab_O} {M : ab_M} {K : ab_K} {Rt : ab_V → ab_S → Prop} {pc n : Nat} {st : List ab_V} {σ : ab_S} {t : ab_L} {a0 a1 a2 : Option ab_V} {x : Nat ⊕ Nat} : ab_ex Γ M K Rt pc n (a0 :: a1 :: a2 :: some (.inr (.inr x)) :: t) st σ (.aload_n 3) = (n = 1 ∧ K (pc + 1) (a0 :: a1 :: a2 :: some (.inr (.inr x)) :: t) (.inr (.inr x) :: st) σ) := rfl
theorem dis_3 {Γ : List ab_O} {M : ab_M} {K : ab_K} {Rt : ab_V → ab_S → Prop} {pc n : Nat} {r : List ab_V} {σ : ab_S} {t : ab_L} {a0 a1 a2 : Option ab_V} {z : Option ab_V} {x : Int} : ab_ex Γ M K Rt pc n (a0 :: a1 :: a2 :: z :: t) (.inl x :: r) σ (.istore_n 3) = (n = 1 ∧ 3 < ab_ml M ∧ K (pc + 1) (a0 :: a1 :: ab_cl a2 :: some (.inl x) :: t) r σ) := by simp only [ex_istore_n, ab_b1_s, st1_3, ab_f4_3]
theorem dls_3 {Γ : List ab_O} {M : ab_M} {K : ab_K} {Rt : ab_V → ab_S → Prop} {pc n : Nat} {r : List ab_V} {σ : ab_S} {t : ab_L} {a0 a1 a2 : Option ab_V} {z z2 : Option ab_V} {x : Int} : ab_ex Γ M K Rt pc n (a0 :: a1 :: a2 :: z :: z2 :: t) (.inr (.inl x) :: r) σ (.lstore_n 3) = (n = 1 ∧ 4 < ab_ml M ∧ K (pc + 1) (a0 :: a1 :: ab_cl a2 :: some (.inr (.inl x)) :: none :: t) r σ) := by simp only [ex_lstore_n, ab_l1_s, st2_3, ab_f4_3, Nat.reduceAdd]
theorem dinc_3 {Γ : List ab_O} {M : ab_M} {K : ab_K} {Rt : ab_V → ab_S → Prop} {pc n : Nat} {st : List ab_V} {σ : ab_S} {t : ab_L} {a0 a1 a2 : Option ab_V} {x v : Int} : ab_ex Γ M K Rt pc n (a0 :: a1 :: a2 :: some (.inl x) :: t) st σ (.iinc 3 v) = (n = 3 ∧ 3 < ab_ml M ∧ K (pc + 3) (a0 :: a1 :: ab_cl a2 :: some (.inl (x + v)) :: t) st σ) := by simp only [ex_iinc, lk_3, ab_gI_s, st1_3]
theorem dil_4 {Γ : List ab_O} {M : ab_M} {K : ab_K} {Rt : ab_V → ab_S → Prop} {pc n : Nat} {st : List ab_V} {σ : ab_S} {t : ab_L} {a0 a1 a2 a3 : Option ab_V} {x : Int} : ab_ex Γ M K Rt pc n (a0 :: a1 :: a2 :: a3 :: some (.inl x) :: t) st σ (.iload 4) = (n = 2 ∧ K (pc + 2) (a0 :: a1 :: a2 :: a3 :: some (.inl x) :: t) (.inl x :: st) σ) := rfl
theorem dll_4 {Γ : List ab_O} {M : ab_M} {K : ab_K} {Rt : ab_V → ab_S → Prop} {pc n : Nat} {st : List ab_V} {σ : ab_S} {t : ab_L} {a0 a1 a2 a3 : Option ab_V} {x : Int} : ab_ex Γ M K Rt pc n (a0 :: a1 :: a2 :: a3 :: some (.inr (.inl x)) :: t) st σ (.lload 4) = (n = 2 ∧ K (pc + 2) (a0 :: a1 :: a2 :: a3 :: some (.inr (.inl x)) :: t) (.inr (.inl x) :: st) σ) := rfl
theorem dal_4 {Γ : List ab_O} {M : ab_M} {K : ab_K} {Rt : ab_V → ab_S → Prop} {pc n : Nat} {st : List ab_V} {σ : ab_S} {t : ab_L} {a0 a1 a2 a3 : Option ab_V} {x : Nat ⊕ Nat} : ab_ex Γ M K Rt pc n (a0 :: a1 :: a2 :: a3 :: some (.inr (.inr x)) :: t) st σ (.aload 4) = (n = 2 ∧ K (pc + 2) (a0 :: a1 :: a2 :: a3 :: some (.inr (.inr x)) :: t) (.inr (.inr x) :: st) σ) := rfl
theorem dis_4 {Γ : List ab_O} {M : ab_M} {K : ab_K} {Rt : ab_V → ab_S → Prop} {pc n : Nat} {r : List ab_V} {σ : ab_S} {t : ab_L} {a0 a1 a2 a3 : Option ab_V} {z : Option ab_V} {x : Int} : ab_ex Γ M K Rt pc n (a0 :: a1 :: a2 :: a3 :: z :: t) (.inl x :: r) σ (.istore 4) = (n = 2 ∧ 4 < ab_ml M ∧ K (pc + 2) (a0 :: a1 :: a2 :: ab_cl a3 :: some (.inl x) :: t) r σ) := by simp only [ex_istore, ab_b1_s, st1_4]
theorem dls_4 {Γ : List ab_O} {M : ab_M} {K : ab_K} {Rt : ab_V → ab_S → Prop} {pc n : Nat} {r : List ab_V} {σ : ab_S} {t : ab_L} {a0 a1 a2 a3 : Option ab_V} {z z2 : Option ab_V} {x : Int} : ab_ex Γ M K Rt pc n (a0 :: a1 :: a2 :: a3 :: z :: z2 :: t) (.inr (.inl x) :: r) σ (.lstore 4) = (n = 2 ∧ 5 < ab_ml M ∧ K (pc + 2) (a0 :: a1 :: a2 :: ab_cl a3 :: some (.inr (.inl x)) :: none :: t) r σ) := by simp only [ex_lstore, ab_l1_s, st2_4, Nat.reduceAdd]
theorem dinc_4 {Γ : List ab_O} {M : ab_M} {K : ab_K} {Rt : ab_V → ab_S → Prop} {pc n : Nat} {st : List ab_V} {σ : ab_S} {t : ab_L} {a0 a1 a2 a3 : Option ab_V} {x v : Int} : ab_ex Γ M K Rt pc n (a0 :: a1 :: a2 :: a3 :: some (.inl x) :: t) st σ (.iinc 4 v) = (n = 3 ∧ 4 < ab_ml M ∧ K (pc + 3) (a0 :: a1 :: a2 :: ab_cl a3 :: some (.inl (x + v)) :: t) st σ) := by simp only [ex_iinc, lk_4, ab_gI_s, st1_4]
theorem dil_5 {Γ : List ab_O} {M : ab_M} {K : ab_K} {Rt : ab_V → ab_S → Prop} {pc n : Nat} {st : List ab_V} {σ : ab_S} {t : ab_L} {a0 a1 a2 a3 a4 : Option ab_V} {x : Int} : ab_ex Γ M K Rt pc n (a0 :: a1 :: a2 :: a3 :: a4 :: some (.inl x) :: t) st σ (.iload 5) = (n = 2 ∧ K (pc + 2) (a0 :: a1 :: a2 :: a3 :: a4 :: some (.inl x) :: t) (.inl x :: st) σ) := rfl
theorem dll_5 {Γ : List ab_O} {M : ab_M} {K : ab_K} {Rt : ab_V → ab_S → Prop} {pc n : Nat} {st : List ab_V} {σ : ab_S} {t : ab_L} {a0 a1 a2 a3 a4 : Option ab_V} {x : Int} : ab_ex Γ M K Rt pc n (a0 :: a1 :: a2 :: a3 :: a4 :: some (.inr (.inl x)) :: t) st σ (.lload 5) = (n = 2 ∧ K (pc + 2) (a0 :: a1 :: a2 :: a3 :: a4 :: some (.inr (.inl x)) :: t) (.inr (.inl x) :: st) σ) := rfl
theorem dal_5 {Γ : List ab_O} {M : ab_M} {K : ab_K} {Rt : ab_V → ab_S → Prop} {pc n : Nat} {st : List ab_V} {σ : ab_S} {t : ab_L} {a0 a1 a2 a3 a4 : Option ab_V} {x : Nat ⊕ Nat} : ab_ex Γ M K Rt pc n (a0 :: a1 :: a2 :: a3 :: a4 :: some (.inr (.inr x)) :: t) st σ (.aload 5) = (n = 2 ∧ K (pc + 2) (a0 :: a1 :: a2 :: a3 :: a4 :: some (.inr (.inr x)) :: t) (.inr (.inr x) :: st) σ) := rfl
theorem dis_5 {Γ : List ab_O} {M : ab_M} {K : ab_K} {Rt : ab_V → ab_S → Prop} {pc n : Nat} {r : List ab_V} {σ : ab_S} {t : ab_L} {a0 a1 a2 a3 a4 : Option ab_V} {z : Option ab_V} {x : Int} : ab_ex Γ M K Rt pc n (a0 :: a1 :: a2 :: a3 :: a4 :: z :: t) (.inl x :: r) σ (.istore 5) = (n = 2 ∧ 5 < ab_ml M ∧ K (pc + 2) (a0 :: a1 :: a2 :: a3 :: ab_cl a4 :: some (.inl x) :: t) r σ) := by simp only [ex_istore, ab_b1_s, st1_5]
theorem dls_5 {Γ : List ab_O} {M : ab_M} {K : ab_K} {Rt : ab_V → ab_S → Prop} {pc n : Nat} {r : List ab_V} {σ : ab_S} {t : ab_L} {a0 a1 a2 a3 a4 : Option ab_V} {z z2 : Option ab_V} {x : Int} : ab_ex Γ M K Rt pc n (a0 :: a1 :: a2 :: a3 :: a4 :: z :: z2 :: t) (.inr (.inl x) :: r) σ (.lstore 5) = (n = 2 ∧ 6 < ab_ml M ∧ K (pc + 2) (a0 :: a1 :: a2 :: a3 :: ab_cl a4 :: some (.inr (.inl x)) :: none :: t) r σ) := by simp only [ex_lstore, ab_l1_s, st2_5, Nat.reduceAdd]
theorem dinc_5 {Γ : List ab_O} {M : ab_M} {K : ab_K} {Rt : ab_V → ab_S → Prop} {pc n : Nat} {st : List ab_V} {σ : ab_S} {t : ab_L} {a0 a1 a2 a3 a4 : Option ab_V} {x v : Int} : ab_ex Γ M K Rt pc n (a0 :: a1 :: a2 :: a3 :: a4 :: some (.inl x) :: t) st σ (.iinc 5 v) = (n = 3 ∧ 5 < ab_ml M ∧ K (pc + 3) (a0 :: a1 :: a2 :: a3 :: ab_cl a4 :: some (.inl (x + v)) :: t) st σ) := by simp only [ex_iinc, lk_5, ab_gI_s, st1_5]
theorem dil_6 {Γ : List ab_O} {M : ab_M} {K : ab_K} {Rt : ab_V → ab_S → Prop} {pc n : Nat} {st : List ab_V} {σ : ab_S} {t : ab_L} {a0 a1 a2 a3 a4 a5 : Option ab_V} {x : Int} : ab_ex Γ M K Rt pc n (a0 :: a1 :: a2 :: a3 :: a4 :: a5 :: some (.inl x) :: t) st σ (.iload 6) = (n = 2 ∧ K (pc + 2) (a0 :: a1 :: a2 :: a3 :: a4 :: a5 :: some (.inl x) :: t) (.inl x :: st) σ) := rfl
theorem dll_6 {Γ : List ab_O} {M : ab_M} {K : ab_K} {Rt : ab_V → ab_S → Prop} {pc n : Nat} {st : List ab_V} {σ : ab_S} {t : ab_L} {a0 a1 a2 a3 a4 a5 : Option ab_V} {x : Int} : ab_ex Γ M K Rt pc n (a0 :: a1 :: a2 :: a3 :: a4 :: a5 :: some (.inr (.inl x)) :: t) st σ (.lload 6) = (n = 2 ∧ K (pc + 2) (a0 :: a1 :: a2 :: a3 :: a4 :: a5 :: some (.inr (.inl x)) :: t) (.inr (.inl x) :: st) σ) := rfl
theorem dal_6 {Γ : List ab_O} {M : ab_M} {K : ab_K} {Rt : ab_V → ab_S → Prop} {pc n : Nat} {st : List ab_V} {σ : ab_S} {t : ab_L} {a0 a1 a2 a3 a4 a5 : Option ab_V} {x : Nat ⊕ Nat} : ab_ex Γ M K Rt pc n (a0 :: a1 :: a2 :: a3 :: a4 :: a5 :: some (.inr (.inr x)) :: t) st σ (.aload 6) = (n = 2 ∧ K (pc + 2) (a0 :: a1 :: a2 :: a3 :: a4 :: a5 :: some (.inr (.inr x)) :: t) (.inr (.inr x) :: st) σ) := rfl
theorem dis_6 {Γ : List ab_O} {M : ab_M} {K : ab_K} {Rt : ab_V → ab_S → Prop} {pc n : Nat} {r : List ab_V} {σ : ab_S} {t : ab_L} {a0 a1 a2 a3 a4 a5 : Option ab_V} {z : Option ab_V} {x : Int} : ab_ex Γ M K Rt pc n (a0 :: a1 :: a2 :: a3 :: a4 :: a5 :: z :: t) (.inl x :: r) σ (.istore 6) = (n = 2 ∧ 6 < ab_ml M ∧ K (pc + 2) (a0 :: a1 :: a2 :: a3 :: a4 :: ab_cl a5 :: some (.inl x) :: t) r σ) := by simp only [ex_istore, ab_b1_s, st1_6]
theorem dls_6 {Γ : List ab_O} {M : ab_M} {K : ab_K} {Rt : ab_V → ab_S → Prop} {pc n : Nat} {r : List ab_V} {σ : ab_S} {t : ab_L} {a0 a1 a2 a3 a4 a5 : Option ab_V} {z z2 : Option ab_V} {x : Int} : ab_ex Γ M K Rt pc n (a0 :: a1 :: a2 :: a3 :: a4 :: a5 :: z :: z2 :: t) (.inr (.inl x) :: r) σ (.lstore 6) = (n = 2 ∧ 7 < ab_ml M ∧ K (pc + 2) (a0 :: a1 :: a2 :: a3 :: a4 :: ab_cl a5 :: some (.inr (.inl x)) :: none :: t) r σ) := by simp only [ex_lstore, ab_l1_s, st2_6, Nat.reduceAdd]
theorem dinc_6 {Γ : List ab_O} {M : ab_M} {K : ab_K} {Rt : ab_V → ab_S → Prop} {pc n : Nat} {st : List ab_V} {σ : ab_S} {t : ab_L} {a0 a1 a2 a3 a4 a5 : Option ab_V} {x v : Int} : ab_ex Γ M K Rt pc n (a0 :: a1 :: a2 :: a3 :: a4 :: a5 :: some (.inl x) :: t) st σ (.iinc 6 v) = (n = 3 ∧ 6 < ab_ml M ∧ K (pc + 3) (a0 :: a1 :: a2 :: a3 :: a4 :: ab_cl a5 :: some (.inl (x + v)) :: t) st σ) := by simp only [ex_iinc, lk_6, ab_gI_s, st1_6]
theorem dil_7 {Γ : List ab_O} {M : ab_M} {K : ab_K} {Rt : ab_V → ab_S → Prop} {pc n : Nat} {st : List ab_V} {σ : ab_S} {t : ab_L} {a0 a1 a2 a3 a4 a5 a6 : Option ab_V} {x : Int} : ab_ex Γ M K Rt pc n (a0 :: a1 :: a2 :: a3 :: a4 :: a5 :: a6 :: some (.inl x) :: t) st σ (.iload 7) = (n = 2 ∧ K (pc + 2) (a0 :: a1 :: a2 :: a3 :: a4 :: a5 :: a6 :: some (.inl x) :: t) (.inl x :: st) σ) := rfl
theorem dll_7 {Γ : List ab_O} {M : ab_M} {K : ab_K} {Rt : ab_V → ab_S → Prop} {pc n : Nat} {st : List ab_V} {σ : ab_S} {t : ab_L} {a0 a1 a2 a3 a4 a5 a6 : Option ab_V} {x : Int} : ab_ex Γ M K Rt pc n (a0 :: a1 :: a2 :: a3 :: a4 :: a5 :: a6 :: some (.inr (.inl x)) :: t) st σ (.lload 7) = (n = 2 ∧ K (pc + 2) (a0 :: a1 :: a2 :: a3 :: a4 :: a5 :: a6 :: some (.inr (.inl x)) :: t) (.inr (.inl x) :: st) σ) := rfl
theorem dal_7 {Γ : List ab_O} {M : ab_M} {K : ab_K} {Rt : ab_V → ab_S → Prop} {pc n : Nat} {st : List ab_V} {σ : ab_S} {t : ab_L} {a0 a1 a2 a3 a4 a5 a6 : Option ab_V} {x : Nat ⊕ Nat} : ab_ex Γ M K Rt pc n (a0 :: a1 :: a2 :: a3 :: a4 :: a5 :: a6 :: some (.inr (.inr x)) :: t) st σ (.aload 7) = (n = 2 ∧ K (pc + 2) (a0 :: a1 :: a2 :: a3 :: a4 :: a5 :: a6 :: some (.inr (.inr x)) :: t) (.inr (.inr x) :: st) σ) := rfl
theorem dis_7 {Γ : List ab_O} {M : ab_M} {K : ab_K} {Rt : ab_V → ab_S → Prop} {pc n : Nat} {r : List ab_V} {σ : ab_S} {t : ab_L} {a0 a1 a2 a3 a4 a5 a6 : Option ab_V} {z : Option ab_V} {x : Int} : ab_ex Γ M K Rt pc n (a0 :: a1 :: a2 :: a3 :: a4 :: a5 :: a6 :: z :: t) (.inl x :: r) σ (.istore 7) = (n = 2 ∧ 7 < ab_ml M ∧ K (pc + 2) (a0 :: a1 :: a2 :: a3 :: a4 :: a5 :: ab_cl a6 :: some (.inl x) :: t) r σ) := by simp only [ex_istore, ab_b1_s, st1_7]
theorem dls_7 {Γ : List ab_O} {M : ab_M} {K : ab_K} {Rt : ab_V → ab_S → Prop} {pc n : Nat} {r : List ab_V} {σ : ab_S} {t : ab_L} {a0 a1 a2 a3 a4 a5 a6 : Option ab_V} {z z2 : Option ab_V} {x : Int} : ab_ex Γ M K Rt pc n (a0 :: a1 :: a2 :: a3 :: a4 :: a5 :: a6 :: z :: z2 :: t) (.inr (.inl x) :: r) σ (.lstore 7) = (n = 2 ∧ 8 < ab_ml M ∧ K (pc + 2) (a0 :: a1 :: a2 :: a3 :: a4 :: a5 :: ab_cl a6 :: some (.inr (.inl x)) :: none :: t) r σ) := by simp only [ex_lstore, ab_l1_s, st2_7, Nat.reduceAdd]
theorem dinc_7 {Γ : List ab_O} {M : ab_M} {K : ab_K} {Rt : ab_V → ab_S → Prop} {pc n : Nat} {st : List ab_V} {σ : ab_S} {t : ab_L} {a0 a1 a2 a3 a4 a5 a6 : Option ab_V} {x v : Int} : ab_ex Γ M K Rt pc n (a0 :: a1 :: a2 :: a3 :: a4 :: a5 :: a6 :: some (.inl x) :: t) st σ (.iinc 7 v) = (n = 3 ∧ 7 < ab_ml M ∧ K (pc + 3) (a0 :: a1 :: a2 :: a3 :: a4 :: a5 :: ab_cl a6 :: some (.inl (x + v)) :: t) st σ) := by simp only [ex_iinc, lk_7, ab_gI_s, st1_7]
theorem dil_8 {Γ : List ab_O} {M : ab_M} {K : ab_K} {Rt : ab_V → ab_S → Prop} {pc n : Nat} {st : List ab_V} {σ : ab_S} {t : ab_L} {a0 a1 a2 a3 a4 a5 a6 a7 : Option ab_V} {x : Int} : ab_ex Γ M K Rt pc n (a0 :: a1 :: a2 :: a3 :: a4 :: a5 :: a6 :: a7 :: some (.inl x) :: t) st σ (.iload 8) = (n = 2 ∧ K (pc + 2) (a0 :: a1 :: a2 :: a3 :: a4 :: a5 :: a6 :: a7 :: some (.inl x) :: t) (.inl x :: st) σ) := rfl
theorem dll_8 {Γ : List ab_O} {M : ab_M} {K : ab_K} {Rt : ab_V → ab_S → Prop} {pc n : Nat} {st : List ab_V} {σ : ab_S} {t : ab_L} {a0 a1 a2 a3 a4 a5 a6 a7 : Option ab_V} {x : Int} : ab_ex Γ M K Rt pc n (a0 :: a1 :: a2 :: a3 :: a4 :: a5 :: a6 :: a7 :: some (.inr (.inl x)) :: t) st σ (.lload 8) = (n = 2 ∧ K (pc + 2) (a0 :: a1 :: a2 :: a3 :: a4 :: a5 :: a6 :: a7 :: some (.inr (.inl x)) :: t) (.inr (.inl x) :: st) σ) := rfl
theorem dal_8 {Γ : List ab_O} {M : ab_M} {K : ab_K} {Rt : ab_V → ab_S → Prop} {pc n : Nat} {st : List ab_V} {σ : ab_S} {t : ab_L} {a0 a1 a2 a3 a4 a5 a6 a7 : Option ab_V} {x : Nat ⊕ Nat} : ab_ex Γ M K Rt pc n (a0 :: a1 :: a2 :: a3 :: a4 :: a5 :: a6 :: a7 :: some (.inr (.inr x)) :: t) st σ (.aload 8) = (n = 2 ∧ K (pc + 2) (a0 :: a1 :: a2 :: a3 :: a4 :: a5 :: a6 :: a7 :: some (.inr (.inr x)) :: t) (.inr (.inr x) :: st) σ) := rfl
theorem dis_8 {Γ : List ab_O} {M : ab_M} {K : ab_K} {Rt : ab_V → ab_S → Prop} {pc n : Nat} {r : List ab_V} {σ : ab_S} {t : ab_L} {a0 a1 a2 a3 a4 a5 a6 a7 : Option ab_V} {z : Option ab_V} {x : Int} : ab_ex Γ M K Rt pc n (a0 :: a1 :: a2 :: a3 :: a4 :: a5 :: a6 :: a7 :: z :: t) (.inl x :: r) σ (.istore 8) = (n = 2 ∧ 8 < ab_ml M ∧ K (pc + 2) (a0 :: a1 :: a2 :: a3 :: a4 :: a5 :: a6 :: ab_cl a7 :: some (.inl x) :: t) r σ) := by simp only [ex_istore, ab_b1_s, st1_8]
theorem dls_8 {Γ : List ab_O} {M : ab_M} {K : ab_K} {Rt : ab_V → ab_S → Prop} {pc n : Nat} {r : List ab_V} {σ : ab_S} {t : ab_L} {a0 a1 a2 a3 a4 a5 a6 a7 : Option ab_V} {z z2 : Option ab_V} {x : Int} : ab_ex Γ M K Rt pc n (a0 :: a1 :: a2 :: a3 :: a4 :: a5 :: a6 :: a7 :: z :: z2 :: t) (.inr (.inl x) :: r) σ (.lstore 8) = (n = 2 ∧ 9 < ab_ml M ∧ K (pc + 2) (a0 :: a1 :: a2 :: a3 :: a4 :: a5 :: a6 :: ab_cl a7 :: some (.inr (.inl x)) :: none :: t) r σ) := by simp only [ex_lstore, ab_l1_s, st2_8, Nat.reduceAdd]
theorem dinc_8 {Γ : List ab_O} {M : ab_M} {K : ab_K} {Rt : ab_V → ab_S → Prop} {pc n : Nat} {st : List ab_V} {σ : ab_S} {t : ab_L} {a0 a1 a2 a3 a4 a5 a6 a7 : Option ab_V} {x v : Int} : ab_ex Γ M K Rt pc n (a0 :: a1 :: a2 :: a3 :: a4 :: a5 :: a6 :: a7 :: some (.inl x) :: t) st σ (.iinc 8 v) = (n = 3 ∧ 8 < ab_ml M ∧ K (pc + 3) (a0 :: a1 :: a2 :: a3 :: a4 :: a5 :: a6 :: ab_cl a7 :: some (.inl (x + v)) :: t) st σ) := by simp only [ex_iinc, lk_8, ab_gI_s, st1_8]
theorem dil_9 {Γ : List ab_O} {M : ab_M} {K : ab_K} {Rt : ab_V → ab_S → Prop} {pc n : Nat} {st : List ab_V} {σ : ab_S} {t : ab_L} {a0 a1 a2 a3 a4 a5 a6 a7 a8 : Option ab_V} {x : Int} : ab_ex Γ M K Rt pc n (a0 :: a1 :: a2 :: a3 :: a4 :: a5 :: a6 :: a7 :: a8 :: some (.inl x) :: t) st σ (.iload 9) = (n = 2 ∧ K (pc + 2) (a0 :: a1 :: a2 :: a3 :: a4 :: a5 :: a6 :: a7 :: a8 :: some (.inl x) :: t) (.inl x :: st) σ) := rfl
theorem dll_9 {Γ : List ab_O} {M : ab_M} {K : ab_K} {Rt : ab_V → ab_S → Prop} {pc n : Nat} {st : List ab_V} {σ : ab_S} {t : ab_L} {a0 a1 a2 a3 a4 a5 a6 a7 a8 : Option ab_V} {x : Int} : ab_ex Γ M K Rt pc n (a0 :: a1 :: a2 :: a3 :: a4 :: a5 :: a6 :: a7 :: a8 :: some (.inr (.inl x)) :: t) st σ (.lload 9) = (n = 2 ∧ K (pc + 2) (a0 :: a1 :: a2 :: a3 :: a4 :: a5 :: a6 :: a7 :: a8 :: some (.inr (.inl x)) :: t) (.inr (.inl x) :: st) σ) := rfl
theorem dal_9 {Γ : List ab_O} {M : ab_M} {K : ab_K} {Rt : ab_V → ab_S → Prop} {pc n : Nat} {st : List ab_V} {σ : ab_S} {t : ab_L} {a0 a1 a2 a3 a4 a5 a6 a7 a8 : Option ab_V} {x : Nat ⊕ Nat} : ab_ex Γ M K Rt pc n (a0 :: a1 :: a2 :: a3 :: a4 :: a5 :: a6 :: a7 :: a8 :: some (.inr (.inr x)) :: t) st σ (.aload 9) = (n = 2 ∧ K (pc + 2) (a0 :: a1 :: a2 :: a3 :: a4 :: a5 :: a6 :: a7 :: a8 :: some (.inr (.inr x)) :: t) (.inr (.inr x) :: st) σ) := rfl
theorem dis_9 {Γ : List ab_O} {M : ab_M} {K : ab_K} {Rt : ab_V → ab_S → Prop} {pc n : Nat} {r : List ab_V} {σ : ab_S} {t : ab_L} {a0 a1 a2 a3 a4 a5 a6 a7 a8 : Option ab_V} {z : Option ab_V} {x : Int} : ab_ex Γ M K Rt pc n (a0 :: a1 :: a2 :: a3 :: a4 :: a5 :: a6 :: a7 :: a8 :: z :: t) (.inl x :: r) σ (.istore 9) = (n = 2 ∧ 9 < ab_ml M ∧ K (pc + 2) (a0 :: a1 :: a2 :: a3 :: a4 :: a5 :: a6 :: a7 :: ab_cl a8 :: some (.inl x) :: t) r σ) := by simp only [ex_istore, ab_b1_s, st1_9]
theorem dls_9 {Γ : List ab_O} {M : ab_M} {K : ab_K} {Rt : ab_V → ab_S → Prop} {pc n : Nat} {r : List ab_V} {σ : ab_S} {t : ab_L} {a0 a1 a2 a3 a4 a5 a6 a7 a8 : Option ab_V} {z z2 : Option ab_V} {x : Int} : ab_ex Γ M K Rt pc n (a0 :: a1 :: a2 :: a3 :: a4 :: a5 :: a6 :: a7 :: a8 :: z :: z2 :: t) (.inr (.inl x) :: r) σ (.lstore 9) = (n = 2 ∧ 10 < ab_ml M ∧ K (pc + 2) (a0 :: a1 :: a2 :: a3 :: a4 :: a5 :: a6 :: a7 :: ab_cl a8 :: some (.inr (.inl x)) :: none :: t) r σ) := by simp only [ex_lstore, ab_l1_s, st2_9, Nat.reduceAdd]
theorem dinc_9 {Γ : List ab_O} {M : ab_M} {K : ab_K} {Rt : ab_V → ab_S → Prop} {pc n : Nat} {st : List ab_V} {σ : ab_S} {t : ab_L} {a0 a1 a2 a3 a4 a5 a6 a7 a8 : Option ab_V} {x v : Int} : ab_ex Γ M K Rt pc n (a0 :: a1 :: a2 :: a3 :: a4 :: a5 :: a6 :: a7 :: a8 :: some (.inl x) :: t) st σ (.iinc 9 v) = (n = 3 ∧ 9 < ab_ml M ∧ K (pc + 3) (a0 :: a1 :: a2 :: a3 :: a4 :: a5 :: a6 :: a7 :: ab_cl a8 :: some (.inl (x + v)) :: t) st σ) := by simp only [ex_iinc, lk_9, ab_gI_s, st1_9]
theorem dil_10 {Γ : List ab_O} {M : ab_M} {K : ab_K} {Rt : ab_V → ab_S → Prop} {pc n : Nat} {st : List ab_V} {σ : ab_S} {t : ab_L} {a0 a1 a2 a3 a4 a5 a6 a7 a8 a9 : Option ab_V} {x : Int} : ab_ex Γ M K Rt pc n (a0 :: a1 :: a2 :: a3 :: a4 :: a5 :: a6 :: a7 :: a8 :: a9 :: some (.inl x) :: t) st σ (.iload 10) = (n = 2 ∧ K (pc + 2) (a0 :: a1 :: a2 :: a3 :: a4 :: a5 :: a6 :: a7 :: a8 :: a9 :: some (.inl x) :: t) (.inl x :: st) σ) := rfl
theorem dll_10 {Γ : List ab_O} {M : ab_M} {K : ab_K} {Rt : ab_V → ab_S → Prop} {pc n : Nat} {st : List ab_V} {σ : ab_S} {t : ab_L} {a0 a1 a2 a3 a4 a5 a6 a7 a8 a9 : Option ab_V} {x : Int} : ab_ex Γ M K Rt pc n (a0 :: a1 :: a2 :: a3 :: a4 :: a5 :: a6 :: a7 :: a8 :: a9 :: some (.inr (.inl x)) :: t) st σ (.lload 10) = (n = 2 ∧ K (pc + 2) (a0 :: a1 :: a2 :: a3 :: a4 :: a5 :: a6 :: a7 :: a8 :: a9 :: some (.inr (.inl x)) :: t) (.inr (.inl x) :: st) σ) := rfl
theorem dal_10 {Γ : List ab_O} {M : ab_M} {K : ab_K} {Rt : ab_V → ab_S → Prop} {pc n : Nat} {st : List ab_V} {σ : ab_S} {t : ab_L} {a0 a1 a2 a3 a4 a5 a6 a7 a8 a9 : Option ab_V} {x : Nat ⊕ Nat} : ab_ex Γ M K Rt pc n (a0 :: a1 :: a2 :: a3 :: a4 :: a5 :: a6 :: a7 :: a8 :: a9 :: some (.inr (.inr x)) :: t) st σ (.aload 10) = (n = 2 ∧ K (pc + 2) (a0 :: a1 :: a2 :: a3 :: a4 :: a5 :: a6 :: a7 :: a8 :: a9 :: some (.inr (.inr x)) :: t) (.inr (.inr x) :: st) σ) := rfl
theorem dis_10 {Γ : List ab_O} {M : ab_M} {K : ab_K} {Rt : ab_V → ab_S → Prop} {pc n : Nat} {r : List ab_V} {σ : ab_S} {t : ab_L} {a0 a1 a2 a3 a4 a5 a6 a7 a8 a9 : Option ab_V} {z : Option ab_V} {x : Int} : ab_ex Γ M K Rt pc n (a0 :: a1 :: a2 :: a3 :: a4 :: a5 :: a6 :: a7 :: a8 :: a9 :: z :: t) (.inl x :: r) σ (.istore 10) = (n = 2 ∧ 10 < ab_ml M ∧ K (pc + 2) (a0 :: a1 :: a2 :: a3 :: a4 :: a5 :: a6 :: a7 :: a8 :: ab_cl a9 :: some (.inl x) :: t) r σ) := by simp only [ex_istore, ab_b1_s, st1_10]
theorem dls_10 {Γ : List ab_O} {M : ab_M} {K : ab_K} {Rt : ab_V → ab_S → Prop} {pc n : Nat} {r : List ab_V} {σ : ab_S} {t : ab_L} {a0 a1 a2 a3 a4 a5 a6 a7 a8 a9 : Option ab_V} {z z2 : Option ab_V} {x : Int} : ab_ex Γ M K Rt pc n (a0 :: a1 :: a2 :: a3 :: a4 :: a5 :: a6 :: a7 :: a8 :: a9 :: z :: z2 :: t) (.inr (.inl x) :: r) σ (.lstore 10) = (n = 2 ∧ 11 < ab_ml M ∧ K (pc + 2) (a0 :: a1 :: a2 :: a3 :: a4 :: a5 :: a6 :: a7 :: a8 :: ab_cl a9 :: some (.inr (.inl x)) :: none :: t) r σ) := by simp only [ex_lstore, ab_l1_s, st2_10, Nat.reduceAdd]
theorem dinc_10 {Γ : List ab_O} {M : ab_M} {K : ab_K} {Rt : ab_V → ab_S → Prop} {pc n : Nat} {st : List ab_V} {σ : ab_S} {t : ab_L} {a0 a1 a2 a3 a4 a5 a6 a7 a8 a9 : Option ab_V} {x v : Int} : ab_ex Γ M K Rt pc n (a0 :: a1 :: a2 :: a3 :: a4 :: a5 :: a6 :: a7 :: a8 :: a9 :: some (.inl x) :: t) st σ (.iinc 10 v) = (n = 3 ∧ 10 < ab_ml M ∧ K (pc + 3) (a0 :: a1 :: a2 :: a3 :: a4 :: a5 :: a6 :: a7 :: a8 :: ab_cl a9 :: some (.inl (x + v)) :: t) st σ) := by simp only [ex_iinc, lk_10, ab_gI_s, st1_10]
theorem dil_11 {Γ : List ab_O} {M : ab_M} {K : ab_K} {Rt : ab_V → ab_S → Prop} {pc n : Nat} {st : List ab_V} {σ : ab_S} {t : ab_L} {a0 a1 a2 a3 a4 a5 a6 a7 a8 a9 a10 : Option ab_V} {x : Int} : ab_ex Γ M K Rt pc n (a0 :: a1 :: a2 :: a3 :: a4 :: a5 :: a6 :: a7 :: a8 :: a9 :: a10 :: some (.inl x) :: t) st σ (.iload 11) = (n = 2 ∧ K (pc + 2) (a0 :: a1 :: a2 :: a3 :: a4 :: a5 :: a6 :: a7 :: a8 :: a9 :: a10 :: some (.inl x) :: t) (.inl x :: st) σ) := rfl
theorem dll_11 {Γ : List ab_O} {M : ab_M} {K : ab_K} {Rt : ab_V → ab_S → Prop} {pc n : Nat} {st : List ab_V} {σ : ab_S} {t : ab_L} {a0 a1 a2 a3 a4 a5 a6 a7 a8 a9 a10 : Option ab_V} {x : Int} : ab_ex Γ M K Rt pc n (a0 :: a1 :: a2 :: a3 :: a4 :: a5 :: a6 :: a7 :: a8 :: a9 :: a10 :: some (.inr (.inl x)) :: t) st σ (.lload 11) = (n = 2 ∧ K (pc + 2) (a0 :: a1 :: a2 :: a3 :: a4 :: a5 :: a6 :: a7 :: a8 :: a9 :: a10 :: some (.inr (.inl x)) :: t) (.inr (.inl x) :: st) σ) := rfl
theorem dal_11 {Γ : List ab_O} {M : ab_M} {K : ab_K} {Rt : ab_V → ab_S → Prop} {pc n : Nat} {st : List ab_V} {σ : ab_S} {t : ab_L} {a0 a1 a2 a3 a4 a5 a6 a7 a8 a9 a10 : Option ab_V} {x : Nat ⊕ Nat} : ab_ex Γ M K Rt pc n (a0 :: a1 :: a2 :: a3 :: a4 :: a5 :: a6 :: a7 :: a8 :: a9 :: a10 :: some (.inr (.inr x)) :: t) st σ (.aload 11) = (n = 2 ∧ K (pc + 2) (a0 :: a1 :: a2 :: a3 :: a4 :: a5 :: a6 :: a7 :: a8 :: a9 :: a10 :: some (.inr (.inr x)) :: t) (.inr (.inr x) :: st) σ) := rfl
theorem dis_11 {Γ : List ab_O} {M : ab_M} {K : ab_K} {Rt : ab_V → ab_S → Prop} {pc n : Nat} {r : List ab_V} {σ : ab_S} {t : ab_L} {a0 a1 a2 a3 a4 a5 a6 a7 a8 a9 a10 : Option ab_V} {z : Option ab_V} {x : Int} : ab_ex Γ M K Rt pc n (a0 :: a1 :: a2 :: a3 :: a4 :: a5 :: a6 :: a7 :: a8 :: a9 :: a10 :: z :: t) (.inl x :: r) σ (.istore 11) = (n = 2 ∧ 11 < ab_ml M ∧ K (pc + 2) (a0 :: a1 :: a2 :: a3 :: a4 :: a5 :: a6 :: a7 :: a8 :: a9 :: ab_cl a10 :: some (.inl x) :: t) r σ) := by simp only [ex_istore, ab_b1_s, st1_11]
theorem dls_11 {Γ : List ab_O} {M : ab_M} {K : ab_K} {Rt : ab_V → ab_S → Prop} {pc n : Nat} {r : List ab_V} {σ : ab_S} {t : ab_L} {a0 a1 a2 a3 a4 a5 a6 a7 a8 a9 a10 : Option ab_V} {z z2 : Option ab_V} {x : Int} : ab_ex Γ M K Rt pc n (a0 :: a1 :: a2 :: a3 :: a4 :: a5 :: a6 :: a7 :: a8 :: a9 :: a10 :: z :: z2 :: t) (.inr (.inl x) :: r) σ (.lstore 11) = (n = 2 ∧ 12 < ab_ml M ∧ K (pc + 2) (a0 :: a1 :: a2 :: a3 :: a4 :: a5 :: a6 :: a7 :: a8 :: a9 :: ab_cl a10 :: some (.inr (.inl x)) :: none :: t) r σ) := by simp only [ex_lstore, ab_l1_s, st2_11, Nat.reduceAdd]
theorem dinc_11 {Γ : List ab_O} {M : ab_M} {K : ab_K} {Rt : ab_V → ab_S → Prop} {pc n : Nat} {st : List ab_V} {σ : ab_S} {t : ab_L} {a0 a1 a2 a3 a4 a5 a6 a7 a8 a9 a10 : Option ab_V} {x v : Int} : ab_ex Γ M K Rt pc n (a0 :: a1 :: a2 :: a3 :: a4 :: a5 :: a6 :: a7 :: a8 :: a9 :: a10 :: some (.inl x) :: t) st σ (.iinc 11 v) = (n = 3 ∧ 11 < ab_ml M ∧ K (pc + 3) (a0 :: a1 :: a2 :: a3 :: a4 :: a5 :: a6 :: a7 :: a8 :: a9 :: ab_cl a10 :: some (.inl (x + v)) :: t) st σ) := by simp only [ex_iinc, lk_11, ab_gI_s, st1_11]
theorem dil_12 {Γ : List ab_O} {M : ab_M} {K : ab_K} {Rt : ab_V → ab_S → Prop} {pc n : Nat} {st : List ab_V} {σ : ab_S} {t : ab_L} {a0 a1 a2 a3 a4 a5 a6 a7 a8 a9 a10 a11 : Option ab_V} {x : Int} : ab_ex Γ M K Rt pc n (a0 :: a1 :: a2 :: a3 :: a4 :: a5 :: a6 :: a7 :: a8 :: a9 :: a10 :: a11 :: some (.inl x) :: t) st σ (.iload 12) = (n = 2 ∧ K (pc + 2) (a0 :: a1 :: a2 :: a3 :: a4 :: a5 :: a6 :: a7 :: a8 :: a9 :: a10 :: a11 :: some (.inl x) :: t) (.inl x :: st) σ) := rfl
theorem dll_12 {Γ : List ab_O} {M : ab_M} {K : ab_K} {Rt : ab_V → ab_S → Prop} {pc n : Nat} {st : List ab_V} {σ : ab_S} {t : ab_L} {a0 a1 a2 a3 a4 a5 a6 a7 a8 a9 a10 a11 : Option ab_V} {x : Int} : ab_ex Γ M K Rt pc n (a0 :: a1 :: a2 :: a3 :: a4 :: a5 :: a6 :: a7 :: a8 :: a9 :: a10 :: a11 :: some (.inr (.inl x)) :: t) st σ (.lload 12) = (n = 2 ∧ K (pc + 2) (a0 :: a1 :: a2 :: a3 :: a4 :: a5 :: a6 :: a7 :: a8 :: a9 :: a10 :: a11 :: some (.inr (.inl x)) :: t) (.inr (.inl x) :: st) σ) := rfl
theorem dal_12 {Γ : List ab_O} {M : ab_M} {K : ab_K} {Rt : ab_V → ab_S → Prop} {pc n : Nat} {st : List ab_V} {σ : ab_S} {t : ab_L} {a0 a1 a2 a3 a4 a5 a6 a7 a8 a9 a10 a11 : Option ab_V} {x : Nat ⊕ Nat} : ab_ex Γ M K Rt pc n (a0 :: a1 :: a2 :: a3 :: a4 :: a5 :: a6 :: a7 :: a8 :: a9 :: a10 :: a11 :: some (.inr (.inr x)) :: t) st σ (.aload 12) = (n = 2 ∧ K (pc + 2) (a0 :: a1 :: a2 :: a3 :: a4 :: a5 :: a6 :: a7 :: a8 :: a9 :: a10 :: a11 :: some (.inr (.inr x)) :: t) (.inr (.inr x) :: st) σ) := rfl
theorem dis_12 {Γ : List ab_O} {M : ab_M} {K : ab_K} {Rt : ab_V → ab_S → Prop} {pc n : Nat} {r : List ab_V} {σ : ab_S} {t : ab_L} {a0 a1 a2 a3 a4 a5 a6 a7 a8 a9 a10 a11 : Option ab_V} {z : Option ab_V} {x : Int} : ab_ex Γ M K Rt pc n (a0 :: a1 :: a2 :: a3 :: a4 :: a5 :: a6 :: a7 :: a8 :: a9 :: a10 :: a11 :: z :: t) (.inl x :: r) σ (.istore 12) = (n = 2 ∧ 12 < ab_ml M ∧ K (pc + 2) (a0 :: a1 :: a2 :: a3 :: a4 :: a5 :: a6 :: a7 :: a8 :: a9 :: a10 :: ab_cl a11 :: some (.inl x) :: t) r σ) := by simp only [ex_istore, ab_b1_s, st1_12]
theorem dls_12 {Γ : List ab_O} {M : ab_M} {K : ab_K} {Rt : ab_V → ab_S → Prop} {pc n : Nat} {r : List ab_V} {σ : ab_S} {t : ab_L} {a0 a1 a2 a3 a4 a5 a6 a7 a8 a9 a10 a11 : Option ab_V} {z z2 : Option ab_V} {x : Int} : ab_ex Γ M K Rt pc n (a0 :: a1 :: a2 :: a3 :: a4 :: a5 :: a6 :: a7 :: a8 :: a9 :: a10 :: a11 :: z :: z2 :: t) (.inr (.inl x) :: r) σ (.lstore 12) = (n = 2 ∧ 13 < ab_ml M ∧ K (pc + 2) (a0 :: a1 :: a2 :: a3 :: a4 :: a5 :: a6 :: a7 :: a8 :: a9 :: a10 :: ab_cl a11 :: some (.inr (.inl x)) :: none :: t) r σ) := by simp only [ex_lstore, ab_l1_s, st2_12, Nat.reduceAdd]
theorem dinc_12 {Γ : List ab_O} {M : ab_M} {K : ab_K} {Rt : ab_V → ab_S → Prop} {pc n : Nat} {st : List ab_V} {σ : ab_S} {t : ab_L} {a0 a1 a2 a3 a4 a5 a6 a7 a8 a9 a10 a11 : Option ab_V} {x v : Int} : ab_ex Γ M K Rt pc n (a0 :: a1 :: a2 :: a3 :: a4 :: a5 :: a6 :: a7 :: a8 :: a9 :: a10 :: a11 :: some (.inl x) :: t) st σ (.iinc 12 v) = (n = 3 ∧ 12 < ab_ml M ∧ K (pc + 3) (a0 :: a1 :: a2 :: a3 :: a4 :: a5 :: a6 :: a7 :: a8 :: a9 :: a10 :: ab_cl a11 :: some (.inl (x + v)) :: t) st σ) := by simp only [ex_iinc, lk_12, ab_gI_s, st1_12]
theorem dil_13 {Γ : List ab_O} {M : ab_M} {K : ab_K} {Rt : ab_V → ab_S → Prop} {pc n : Nat} {st : List ab_V} {σ : ab_S} {t : ab_L} {a0 a1 a2 a3 a4 a5 a6 a7 a8 a9 a10 a11 a12 : Option ab_V} {x : Int} : ab_ex Γ M K Rt pc n (a0 :: a1 :: a2 :: a3 :: a4 :: a5 :: a6 :: a7 :: a8 :: a9 :: a10 :: a11 :: a12 :: some (.inl x) :: t) st σ (.iload 13) = (n = 2 ∧ K (pc + 2) (a0 :: a1 :: a2 :: a3 :: a4 :: a5 :: a6 :: a7 :: a8 :: a9 :: a10 :: a11 :: a12 :: some (.inl x) :: t) (.inl x :: st) σ) := rfl
theorem dll_13 {Γ : List ab_O} {M : ab_M} {K : ab_K} {Rt : ab_V → ab_S → Prop} {pc n : Nat} {st : List ab_V} {σ : ab_S} {t : ab_L} {a0 a1 a2 a3 a4 a5 a6 a7 a8 a9 a10 a11 a12 : Option ab_V} {x : Int} : ab_ex Γ M K Rt pc n (a0 :: a1 :: a2 :: a3 :: a4 :: a5 :: a6 :: a7 :: a8 :: a9 :: a10 :: a11 :: a12 :: some (.inr (.inl x)) :: t) st σ (.lload 13) = (n = 2 ∧ K (pc + 2) (a0 :: a1 :: a2 :: a3 :: a4 :: a5 :: a6 :: a7 :: a8 :: a9 :: a10 :: a11 :: a12 :: some (.inr (.inl x)) :: t) (.inr (.inl x) :: st) σ) := rfl
theorem dal_13 {Γ : List ab_O} {M : ab_M} {K : ab_K} {Rt : ab_V → ab_S → Prop} {pc n : Nat} {st : List ab_V} {σ : ab_S} {t : ab_L} {a0 a1 a2 a3 a4 a5 a6 a7 a8 a9 a10 a11 a12 : Option ab_V} {x : Nat ⊕ Nat} : ab_ex Γ M K Rt pc n (a0 :: a1 :: a2 :: a3 :: a4 :: a5 :: a6 :: a7 :: a8 :: a9 :: a10 :: a11 :: a12 :: some (.inr (.inr x)) :: t) st σ (.aload 13) = (n = 2 ∧ K (pc + 2) (a0 :: a1 :: a2 :: a3 :: a4 :: a5 :: a6 :: a7 :: a8 :: a9 :: a10 :: a11 :: a12 :: some (.inr (.inr x)) :: t) (.inr (.inr x) :: st) σ) := rfl
theorem dis_13 {Γ : List ab_O} {M : ab_M} {K : ab_K} {Rt : ab_V → ab_S → Prop} {pc n : Nat} {r : List ab_V} {σ : ab_S} {t : ab_L} {a0 a1 a2 a3 a4 a5 a6 a7 a8 a9 a10 a11 a12 : Option ab_V} {z : Option ab_V} {x : Int} : ab_ex Γ M K Rt pc n (a0 :: a1 :: a2 :: a3 :: a4 :: a5 :: a6 :: a7 :: a8 :: a9 :: a10 :: a11 :: a12 :: z :: t) (.inl x :: r) σ (.istore 13) = (n = 2 ∧ 13 < ab_ml M ∧ K (pc + 2) (a0 :: a1 :: a2 :: a3 :: a4 :: a5 :: a6 :: a7 :: a8 :: a9 :: a10 :: a11 :: ab_cl a12 :: some (.inl x) :: t) r σ) := by simp only [ex_istore, ab_b1_s, st1_13]
theorem dls_13 {Γ : List ab_O} {M : ab_M} {K : ab_K} {Rt : ab_V → ab_S → Prop} {pc n : Nat} {r : List ab_V} {σ : ab_S} {t : ab_L} {a0 a1 a2 a3 a4 a5 a6 a7 a8 a9 a10 a11 a12 : Option ab_V} {z z2 : Option ab_V} {x : Int} : ab_ex Γ M K Rt pc n (a0 :: a1 :: a2 :: a3 :: a4 :: a5 :: a6 :: a7 :: a8 :: a9 :: a10 :: a11 :: a12 :: z :: z2 :: t) (.inr (.inl x) :: r) σ (.lstore 13) = (n = 2 ∧ 14 < ab_ml M ∧ K (pc + 2) (a0 :: a1 :: a2 :: a3 :: a4 :: a5 :: a6 :: a7 :: a8 :: a9 :: a10 :: a11 :: ab_cl a12 :: some (.inr (.inl x)) :: none :: t) r σ) := by simp only [ex_lstore, ab_l1_s, st2_13, Nat.reduceAdd]
theorem dinc_13 {Γ : List ab_O} {M : ab_M} {K : ab_K} {Rt : ab_V → ab_S → Prop} {pc n : Nat} {st : List ab_V} {σ : ab_S} {t : ab_L} {a0 a1 a2 a3 a4 a5 a6 a7 a8 a9 a10 a11 a12 : Option ab_V} {x v : Int} : ab_ex Γ M K Rt pc n (a0 :: a1 :: a2 :: a3 :: a4 :: a5 :: a6 :: a7 :: a8 :: a9 :: a10 :: a11 :: a12 :: some (.inl x) :: t) st σ (.iinc 13 v) = (n = 3 ∧ 13 < ab_ml M ∧ K (pc + 3) (a0 :: a1 :: a2 :: a3 :: a4 :: a5 :: a6 :: a7 :: a8 :: a9 :: a10 :: a11 :: ab_cl a12 :: some (.inl (x + v)) :: t) st σ) := by simp only [ex_iinc, lk_13, ab_gI_s, st1_13]
theorem dil_14 {Γ : List ab_O} {M : ab_M} {K : ab_K} {Rt : ab_V → ab_S → Prop} {pc n : Nat} {st : List ab_V} {σ : ab_S} {t : ab_L} {a0 a1 a2 a3 a4 a5 a6 a7 a8 a9 a10 a11 a12 a13 : Option ab_V} {x : Int} : ab_ex Γ M K Rt pc n (a0 :: a1 :: a2 :: a3 :: a4 :: a5 :: a6 :: a7 :: a8 :: a9 :: a10 :: a11 :: a12 :: a13 :: some (.inl x) :: t) st σ (.iload 14) = (n = 2 ∧ K (pc + 2) (a0 :: a1 :: a2 :: a3 :: a4 :: a5 :: a6 :: a7 :: a8 :: a9 :: a10 :: a11 :: a12 :: a13 :: some (.inl x) :: t) (.inl x :: st) σ) := rfl
theorem dll_14 {Γ : List ab_O} {M : ab_M} {K : ab_K} {Rt : ab_V → ab_S → Prop} {pc n : Nat} {st : List ab_V} {σ : ab_S} {t : ab_L} {a0 a1 a2 a3 a4 a5 a6 a7 a8 a9 a10 a11 a12 a13 : Option ab_V} {x : Int} : ab_ex Γ M K Rt pc n (a0 :: a1 :: a2 :: a3 :: a4 :: a5 :: a6 :: a7 :: a8 :: a9 :: a10 :: a11 :: a12 :: a13 :: some (.inr (.inl x)) :: t) st σ (.lload 14) = (n = 2 ∧ K (pc + 2) (a0 :: a1 :: a2 :: a3 :: a4 :: a5 :: a6 :: a7 :: a8 :: a9 :: a10 :: a11 :: a12 :: a13 :: some (.inr (.inl x)) :: t) (.inr (.inl x) :: st) σ) := rfl
theorem dal_14 {Γ : List ab_O} {M : ab_M} {K : ab_K} {Rt : ab_V → ab_S → Prop} {pc n : Nat} {st : List ab_V} {σ : ab_S} {t : ab_L} {a0 a1 a2 a3 a4 a5 a6 a7 a8 a9 a10 a11 a12 a13 : Option ab_V} {x : Nat ⊕ Nat} : ab_ex Γ M K Rt pc n (a0 :: a1 :: a2 :: a3 :: a4 :: a5 :: a6 :: a7 :: a8 :: a9 :: a10 :: a11 :: a12 :: a13 :: some (.inr (.inr x)) :: t) st σ (.aload 14) = (n = 2 ∧ K (pc + 2) (a0 :: a1 :: a2 :: a3 :: a4 :: a5 :: a6 :: a7 :: a8 :: a9 :: a10 :: a11 :: a12 :: a13 :: some (.inr (.inr x)) :: t) (.inr (.inr x) :: st) σ) := rfl
theorem dis_14 {Γ : List ab_O} {M : ab_M} {K : ab_K} {Rt : ab_V → ab_S → Prop} {pc n : Nat} {r : List ab_V} {σ : ab_S} {t : ab_L} {a0 a1 a2 a3 a4 a5 a6 a7 a8 a9 a10 a11 a12 a13 : Option ab_V} {z : Option ab_V} {x : Int} : ab_ex Γ M K Rt pc n (a0 :: a1 :: a2 :: a3 :: a4 :: a5 :: a6 :: a7 :: a8 :: a9 :: a10 :: a11 :: a12 :: a13 :: z :: t) (.inl x :: r) σ (.istore 14) = (n = 2 ∧ 14 < ab_ml M ∧ K (pc + 2) (a0 :: a1 :: a2 :: a3 :: a4 :: a5 :: a6 :: a7 :: a8 :: a9 :: a10 :: a11 :: a12 :: ab_cl a13 :: some (.inl x) :: t) r σ) := by simp only [ex_istore, ab_b1_s, st1_14]
theorem dls_14 {Γ : List ab_O} {M : ab_M} {K : ab_K} {Rt : ab_V → ab_S → Prop} {pc n : Nat} {r : List ab_V} {σ : ab_S} {t : ab_L} {a0 a1 a2 a3 a4 a5 a6 a7 a8 a9 a10 a11 a12 a13 : Option ab_V} {z z2 : Option ab_V} {x : Int} : ab_ex Γ M K Rt pc n (a0 :: a1 :: a2 :: a3 :: a4 :: a5 :: a6 :: a7 :: a8 :: a9 :: a10 :: a11 :: a12 :: a13 :: z :: z2 :: t) (.inr (.inl x) :: r) σ (.lstore 14) = (n = 2 ∧ 15 < ab_ml M ∧ K (pc + 2) (a0 :: a1 :: a2 :: a3 :: a4 :: a5 :: a6 :: a7 :: a8 :: a9 :: a10 :: a11 :: a12 :: ab_cl a13 :: some (.inr (.inl x)) :: none :: t) r σ) := by simp only [ex_lstore, ab_l1_s, st2_14, Nat.reduceAdd]
theorem dinc_14 {Γ : List ab_O} {M : ab_M} {K : ab_K} {Rt : ab_V → ab_S → Prop} {pc n : Nat} {st : List ab_V} {σ : ab_S} {t : ab_L} {a0 a1 a2 a3 a4 a5 a6 a7 a8 a9 a10 a11 a12 a13 : Option ab_V} {x v : Int} : ab_ex Γ M K Rt pc n (a0 :: a1 :: a2 :: a3 :: a4 :: a5 :: a6 :: a7 :: a8 :: a9 :: a10 :: a11 :: a12 :: a13 :: some (.inl x) :: t) st σ (.iinc 14 v) = (n = 3 ∧ 14 < ab_ml M ∧ K (pc + 3) (a0 :: a1 :: a2 :: a3 :: a4 :: a5 :: a6 :: a7 :: a8 :: a9 :: a10 :: a11 :: a12 :: ab_cl a13 :: some (.inl (x + v)) :: t) st σ) := by simp only [ex_iinc, lk_14, ab_gI_s, st1_14]
theorem dil_15 {Γ : List ab_O} {M : ab_M} {K : ab_K} {Rt : ab_V → ab_S → Prop} {pc n : Nat} {st : List ab_V} {σ : ab_S} {t : ab_L} {a0 a1 a2 a3 a4 a5 a6 a7 a8 a9 a10 a11 a12 a13 a14 : Option ab_V} {x : Int} : ab_ex Γ M K Rt pc n (a0 :: a1 :: a2 :: a3 :: a4 :: a5 :: a6 :: a7 :: a8 :: a9 :: a10 :: a11 :: a12 :: a13 :: a14 :: some (.inl x) :: t) st σ (.iload 15) = (n = 2 ∧ K (pc + 2) (a0 :: a1 :: a2 :: a3 :: a4 :: a5 :: a6 :: a7 :: a8 :: a9 :: a10 :: a11 :: a12 :: a13 :: a14 :: some (.inl x) :: t) (.inl x :: st) σ) := rfl
theorem dll_15 {Γ : List ab_O} {M : ab_M} {K : ab_K} {Rt : ab_V → ab_S → Prop} {pc n : Nat} {st : List ab_V} {σ : ab_S} {t : ab_L} {a0 a1 a2 a3 a4 a5 a6 a7 a8 a9 a10 a11 a12 a13 a14 : Option ab_V} {x : Int} : ab_ex Γ M K Rt pc n (a0 :: a1 :: a2 :: a3 :: a4 :: a5 :: a6 :: a7 :: a8 :: a9 :: a10 :: a11 :: a12 :: a13 :: a14 :: some (.inr (.inl x)) :: t) st σ (.lload 15) = (n = 2 ∧ K (pc + 2) (a0 :: a1 :: a2 :: a3 :: a4 :: a5 :: a6 :: a7 :: a8 :: a9 :: a10 :: a11 :: a12 :: a13 :: a14 :: some (.inr (.inl x)) :: t) (.inr (.inl x) :: st) σ) := rfl
theorem dal_15 {Γ : List ab_O} {M : ab_M} {K : ab_K} {Rt : ab_V → ab_S → Prop} {pc n : Nat} {st : List ab_V} {σ : ab_S} {t : ab_L} {a0 a1 a2 a3 a4 a5 a6 a7 a8 a9 a10 a11 a12 a13 a14 : Option ab_V} {x : Nat ⊕ Nat} : ab_ex Γ M K Rt pc n (a0 :: a1 :: a2 :: a3 :: a4 :: a5 :: a6 :: a7 :: a8 :: a9 :: a10 :: a11 :: a12 :: a13 :: a14 :: some (.inr (.inr x)) :: t) st σ (.aload 15) = (n = 2 ∧ K (pc + 2) (a0 :: a1 :: a2 :: a3 :: a4 :: a5 :: a6 :: a7 :: a8 :: a9 :: a10 :: a11 :: a12 :: a13 :: a14 :: some (.inr (.inr x)) :: t) (.inr (.inr x) :: st) σ) := rfl
theorem dis_15 {Γ : List ab_O} {M : ab_M} {K : ab_K} {Rt : ab_V → ab_S → Prop} {pc n : Nat} {r : List ab_V} {σ : ab_S} {t : ab_L} {a0 a1 a2 a3 a4 a5 a6 a7 a8 a9 a10 a11 a12 a13 a14 : Option ab_V} {z : Option ab_V} {x : Int} : ab_ex Γ M K Rt pc n (a0 :: a1 :: a2 :: a3 :: a4 :: a5 :: a6 :: a7 :: a8 :: a9 :: a10 :: a11 :: a12 :: a13 :: a14 :: z :: t) (.inl x :: r) σ (.istore 15) = (n = 2 ∧ 15 < ab_ml M ∧ K (pc + 2) (a0 :: a1 :: a2 :: a3 :: a4 :: a5 :: a6 :: a7 :: a8 :: a9 :: a10 :: a11 :: a12 :: a13 :: ab_cl a14 :: some (.inl x) :: t) r σ) := by simp only [ex_istore, ab_b1_s, st1_15]
theorem dinc_15 {Γ : List ab_O} {M : ab_M} {K : ab_K} {Rt : ab_V → ab_S → Prop} {pc n : Nat} {st : List ab_V} {σ : ab_S} {t : ab_L} {a0 a1 a2 a3 a4 a5 a6 a7 a8 a9 a10 a11 a12 a13 a14 : Option ab_V} {x v : Int} : ab_ex Γ M K Rt pc n (a0 :: a1 :: a2 :: a3 :: a4 :: a5 :: a6 :: a7 :: a8 :: a9 :: a10 :: a11 :: a12 :: a13 :: a14 :: some (.inl x) :: t) st σ (.iinc 15 v) = (n = 3 ∧ 15 < ab_ml M ∧ K (pc + 3) (a0 :: a1 :: a2 :: a3 :: a4 :: a5 :: a6 :: a7 :: a8 :: a9 :: a10 :: a11 :: a12 :: a13 :: ab_cl a14 :: some (.inl (x + v)) :: t) st σ) := by simp only [ex_iinc, lk_15, ab_gI_s, st1_15]
theorem dg1_6_9_1 {M : ab_M} {K : ab_K} {Rt : ab_V → ab_S → Prop} {pc n : Nat} {L : ab_L} {r : List ab_V} {σ : ab_S} (hM : ab_own M = 6) : ab_ex ab_G1 M K Rt pc n L (.inr (.inr (.inl 1)) :: r) σ (.getfield 9) = (n = 3 ∧ K (pc + 3) L (.inr (.inr (.inl 2)) :: r) σ) := by
  rw [ex_getfield, ab_o1_s, hM, gt1_6_9_1, ab_op_s]
  rfl
theorem dg1_6_15_1 {M : ab_M} {K : ab_K} {Rt : ab_V → ab_S → Prop} {pc n : Nat} {L : ab_L} {r : List ab_V} {σ : ab_S} (hM : ab_own M = 6) : ab_ex ab_G1 M K Rt pc n L (.inr (.inr (.inl 1)) :: r) σ (.getfield 15) = (n = 3 ∧ K (pc + 3) L (.inl (σ 1 1) :: r) σ) := by
  rw [ex_getfield, ab_o1_s, hM, gt1_6_15_1, ab_op_s]
  rfl
theorem dg1_11_111_1 {M : ab_M} {K : ab_K} {Rt : ab_V → ab_S → Prop} {pc n : Nat} {L : ab_L} {r : List ab_V} {σ : ab_S} (hM : ab_own M = 11) : ab_ex ab_G1 M K Rt pc n L (.inr (.inr (.inl 1)) :: r) σ (.getfield 111) = (n = 3 ∧ K (pc + 3) L (.inl (σ 1 1) :: r) σ) := by
  rw [ex_getfield, ab_o1_s, hM, gt1_11_111_1, ab_op_s]
  rfl
theorem dg1_6_19_1 {M : ab_M} {K : ab_K} {Rt : ab_V → ab_S → Prop} {pc n : Nat} {L : ab_L} {r : List ab_V} {σ : ab_S} (hM : ab_own M = 6) : ab_ex ab_G1 M K Rt pc n L (.inr (.inr (.inl 1)) :: r) σ (.getfield 19) = (n = 3 ∧ K (pc + 3) L (.inl (σ 1 2) :: r) σ) := by
  rw [ex_getfield, ab_o1_s, hM, gt1_6_19_1, ab_op_s]
  rfl
theorem dg1_6_22_1 {M : ab_M} {K : ab_K} {Rt : ab_V → ab_S → Prop} {pc n : Nat} {L : ab_L} {r : List ab_V} {σ : ab_S} (hM : ab_own M = 6) : ab_ex ab_G1 M K Rt pc n L (.inr (.inr (.inl 1)) :: r) σ (.getfield 22) = (n = 3 ∧ K (pc + 3) L (.inl (σ 1 3) :: r) σ) := by
  rw [ex_getfield, ab_o1_s, hM, gt1_6_22_1, ab_op_s]
  rfl
theorem dg1_6_25_1 {M : ab_M} {K : ab_K} {Rt : ab_V → ab_S → Prop} {pc n : Nat} {L : ab_L} {r : List ab_V} {σ : ab_S} (hM : ab_own M = 6) : ab_ex ab_G1 M K Rt pc n L (.inr (.inr (.inl 1)) :: r) σ (.getfield 25) = (n = 3 ∧ K (pc + 3) L (.inl (σ 1 4) :: r) σ) := by
  rw [ex_getfield, ab_o1_s, hM, gt1_6_25_1, ab_op_s]
  rfl
theorem dg1_6_28_1 {M : ab_M} {K : ab_K} {Rt : ab_V → ab_S → Prop} {pc n : Nat} {L : ab_L} {r : List ab_V} {σ : ab_S} (hM : ab_own M = 6) : ab_ex ab_G1 M K Rt pc n L (.inr (.inr (.inl 1)) :: r) σ (.getfield 28) = (n = 3 ∧ K (pc + 3) L (.inl (σ 1 5) :: r) σ) := by
  rw [ex_getfield, ab_o1_s, hM, gt1_6_28_1, ab_op_s]
  rfl
theorem dg1_11_122_1 {M : ab_M} {K : ab_K} {Rt : ab_V → ab_S → Prop} {pc n : Nat} {L : ab_L} {r : List ab_V} {σ : ab_S} (hM : ab_own M = 11) : ab_ex ab_G1 M K Rt pc n L (.inr (.inr (.inl 1)) :: r) σ (.getfield 122) = (n = 3 ∧ K (pc + 3) L (.inl (σ 1 5) :: r) σ) := by
  rw [ex_getfield, ab_o1_s, hM, gt1_11_122_1, ab_op_s]
  rfl
theorem dg1_6_31_1 {M : ab_M} {K : ab_K} {Rt : ab_V → ab_S → Prop} {pc n : Nat} {L : ab_L} {r : List ab_V} {σ : ab_S} (hM : ab_own M = 6) : ab_ex ab_G1 M K Rt pc n L (.inr (.inr (.inl 1)) :: r) σ (.getfield 31) = (n = 3 ∧ K (pc + 3) L (.inl (σ 1 6) :: r) σ) := by
  rw [ex_getfield, ab_o1_s, hM, gt1_6_31_1, ab_op_s]
  rfl
theorem dg1_9_9_3 {M : ab_M} {K : ab_K} {Rt : ab_V → ab_S → Prop} {pc n : Nat} {L : ab_L} {r : List ab_V} {σ : ab_S} (hM : ab_own M = 9) : ab_ex ab_G1 M K Rt pc n L (.inr (.inr (.inl 3)) :: r) σ (.getfield 9) = (n = 3 ∧ K (pc + 3) L (.inr (.inr (.inl 4)) :: r) σ) := by
  rw [ex_getfield, ab_o1_s, hM, gt1_9_9_3, ab_op_s]
  rfl
theorem dg1_9_9_12 {M : ab_M} {K : ab_K} {Rt : ab_V → ab_S → Prop} {pc n : Nat} {L : ab_L} {r : List ab_V} {σ : ab_S} (hM : ab_own M = 9) : ab_ex ab_G1 M K Rt pc n L (.inr (.inr (.inl 12)) :: r) σ (.getfield 9) = (n = 3 ∧ K (pc + 3) L (.inr (.inr (.inl 13)) :: r) σ) := by
  rw [ex_getfield, ab_o1_s, hM, gt1_9_9_12, ab_op_s]
  rfl
theorem dg1_11_169_3 {M : ab_M} {K : ab_K} {Rt : ab_V → ab_S → Prop} {pc n : Nat} {L : ab_L} {r : List ab_V} {σ : ab_S} (hM : ab_own M = 11) : ab_ex ab_G1 M K Rt pc n L (.inr (.inr (.inl 3)) :: r) σ (.getfield 169) = (n = 3 ∧ K (pc + 3) L (.inr (.inr (.inl 4)) :: r) σ) := by
  rw [ex_getfield, ab_o1_s, hM, gt1_11_169_3, ab_op_s]
  rfl
theorem dg1_11_169_12 {M : ab_M} {K : ab_K} {Rt : ab_V → ab_S → Prop} {pc n : Nat} {L : ab_L} {r : List ab_V} {σ : ab_S} (hM : ab_own M = 11) : ab_ex ab_G1 M K Rt pc n L (.inr (.inr (.inl 12)) :: r) σ (.getfield 169) = (n = 3 ∧ K (pc + 3) L (.inr (.inr (.inl 13)) :: r) σ) := by
  rw [ex_getfield, ab_o1_s, hM, gt1_11_169_12, ab_op_s]
  rfl
theorem dg1_6_126_3 {M : ab_M} {K : ab_K} {Rt : ab_V → ab_S → Prop} {pc n : Nat} {L : ab_L} {r : List ab_V} {σ : ab_S} (hM : ab_own M = 6) : ab_ex ab_G1 M K Rt pc n L (.inr (.inr (.inl 3)) :: r) σ (.getfield 126) = (n = 3 ∧ K (pc + 3) L (.inr (.inr (.inl 4)) :: r) σ) := by
  rw [ex_getfield, ab_o1_s, hM, gt1_6_126_3, ab_op_s]
  rfl
theorem dg1_6_126_12 {M : ab_M} {K : ab_K} {Rt : ab_V → ab_S → Prop} {pc n : Nat} {L : ab_L} {r : List ab_V} {σ : ab_S} (hM : ab_own M = 6) : ab_ex ab_G1 M K Rt pc n L (.inr (.inr (.inl 12)) :: r) σ (.getfield 126) = (n = 3 ∧ K (pc + 3) L (.inr (.inr (.inl 13)) :: r) σ) := by
  rw [ex_getfield, ab_o1_s, hM, gt1_6_126_12, ab_op_s]
  rfl
theorem dg1_9_15_3 {M : ab_M} {K : ab_K} {Rt : ab_V → ab_S → Prop} {pc n : Nat} {L : ab_L} {r : List ab_V} {σ : ab_S} (hM : ab_own M = 9) : ab_ex ab_G1 M K Rt pc n L (.inr (.inr (.inl 3)) :: r) σ (.getfield 15) = (n = 3 ∧ K (pc + 3) L (.inr (.inr (.inl 5)) :: r) σ) := by
  rw [ex_getfield, ab_o1_s, hM, gt1_9_15_3, ab_op_s]
  rfl
theorem dg1_9_15_12 {M : ab_M} {K : ab_K} {Rt : ab_V → ab_S → Prop} {pc n : Nat} {L : ab_L} {r : List ab_V} {σ : ab_S} (hM : ab_own M = 9) : ab_ex ab_G1 M K Rt pc n L (.inr (.inr (.inl 12)) :: r) σ (.getfield 15) = (n = 3 ∧ K (pc + 3) L (.inr (.inr (.inl 14)) :: r) σ) := by
  rw [ex_getfield, ab_o1_s, hM, gt1_9_15_12, ab_op_s]
  rfl
theorem dg1_11_166_3 {M : ab_M} {K : ab_K} {Rt : ab_V → ab_S → Prop} {pc n : Nat} {L : ab_L} {r : List ab_V} {σ : ab_S} (hM : ab_own M = 11) : ab_ex ab_G1 M K Rt pc n L (.inr (.inr (.inl 3)) :: r) σ (.getfield 166) = (n = 3 ∧ K (pc + 3) L (.inr (.inr (.inl 5)) :: r) σ) := by
  rw [ex_getfield, ab_o1_s, hM, gt1_11_166_3, ab_op_s]
  rfl
theorem dg1_11_166_12 {M : ab_M} {K : ab_K} {Rt : ab_V → ab_S → Prop} {pc n : Nat} {L : ab_L} {r : List ab_V} {σ : ab_S} (hM : ab_own M = 11) : ab_ex ab_G1 M K Rt pc n L (.inr (.inr (.inl 12)) :: r) σ (.getfield 166) = (n = 3 ∧ K (pc + 3) L (.inr (.inr (.inl 14)) :: r) σ) := by
  rw [ex_getfield, ab_o1_s, hM, gt1_11_166_12, ab_op_s]
  rfl
theorem dg1_6_123_3 {M : ab_M} {K : ab_K} {Rt : ab_V → ab_S → Prop} {pc n : Nat} {L : ab_L} {r : List ab_V} {σ : ab_S} (hM : ab_own M = 6) : ab_ex ab_G1 M K Rt pc n L (.inr (.inr (.inl 3)) :: r) σ (.getfield 123) = (n = 3 ∧ K (pc + 3) L (.inr (.inr (.inl 5)) :: r) σ) := by
  rw [ex_getfield, ab_o1_s, hM, gt1_6_123_3, ab_op_s]
  rfl
theorem dg1_6_123_12 {M : ab_M} {K : ab_K} {Rt : ab_V → ab_S → Prop} {pc n : Nat} {L : ab_L} {r : List ab_V} {σ : ab_S} (hM : ab_own M = 6) : ab_ex ab_G1 M K Rt pc n L (.inr (.inr (.inl 12)) :: r) σ (.getfield 123) = (n = 3 ∧ K (pc + 3) L (.inr (.inr (.inl 14)) :: r) σ) := by
  rw [ex_getfield, ab_o1_s, hM, gt1_6_123_12, ab_op_s]
  rfl
theorem dg1_9_18_3 {M : ab_M} {K : ab_K} {Rt : ab_V → ab_S → Prop} {pc n : Nat} {L : ab_L} {r : List ab_V} {σ : ab_S} (hM : ab_own M = 9) : ab_ex ab_G1 M K Rt pc n L (.inr (.inr (.inl 3)) :: r) σ (.getfield 18) = (n = 3 ∧ K (pc + 3) L (.inr (.inr (.inl 6)) :: r) σ) := by
  rw [ex_getfield, ab_o1_s, hM, gt1_9_18_3, ab_op_s]
  rfl
theorem dg1_9_18_12 {M : ab_M} {K : ab_K} {Rt : ab_V → ab_S → Prop} {pc n : Nat} {L : ab_L} {r : List ab_V} {σ : ab_S} (hM : ab_own M = 9) : ab_ex ab_G1 M K Rt pc n L (.inr (.inr (.inl 12)) :: r) σ (.getfield 18) = (n = 3 ∧ K (pc + 3) L (.inr (.inr (.inl 15)) :: r) σ) := by
  rw [ex_getfield, ab_o1_s, hM, gt1_9_18_12, ab_op_s]
  rfl
theorem dg1_10_35_3 {M : ab_M} {K : ab_K} {Rt : ab_V → ab_S → Prop} {pc n : Nat} {L : ab_L} {r : List ab_V} {σ : ab_S} (hM : ab_own M = 10) : ab_ex ab_G1 M K Rt pc n L (.inr (.inr (.inl 3)) :: r) σ (.getfield 35) = (n = 3 ∧ K (pc + 3) L (.inr (.inr (.inl 6)) :: r) σ) := by
  rw [ex_getfield, ab_o1_s, hM, gt1_10_35_3, ab_op_s]
  rfl
theorem dg1_10_35_12 {M : ab_M} {K : ab_K} {Rt : ab_V → ab_S → Prop} {pc n : Nat} {L : ab_L} {r : List ab_V} {σ : ab_S} (hM : ab_own M = 10) : ab_ex ab_G1 M K Rt pc n L (.inr (.inr (.inl 12)) :: r) σ (.getfield 35) = (n = 3 ∧ K (pc + 3) L (.inr (.inr (.inl 15)) :: r) σ) := by
  rw [ex_getfield, ab_o1_s, hM, gt1_10_35_12, ab_op_s]
  rfl
theorem dg1_3_82_3 {M : ab_M} {K : ab_K} {Rt : ab_V → ab_S → Prop} {pc n : Nat} {L : ab_L} {r : List ab_V} {σ : ab_S} (hM : ab_own M = 3) : ab_ex ab_G1 M K Rt pc n L (.inr (.inr (.inl 3)) :: r) σ (.getfield 82) = (n = 3 ∧ K (pc + 3) L (.inr (.inr (.inl 6)) :: r) σ) := by
  rw [ex_getfield, ab_o1_s, hM, gt1_3_82_3, ab_op_s]
  rfl
theorem dg1_3_82_12 {M : ab_M} {K : ab_K} {Rt : ab_V → ab_S → Prop} {pc n : Nat} {L : ab_L} {r : List ab_V} {σ : ab_S} (hM : ab_own M = 3) : ab_ex ab_G1 M K Rt pc n L (.inr (.inr (.inl 12)) :: r) σ (.getfield 82) = (n = 3 ∧ K (pc + 3) L (.inr (.inr (.inl 15)) :: r) σ) := by
  rw [ex_getfield, ab_o1_s, hM, gt1_3_82_12, ab_op_s]
  rfl
theorem dg1_11_144_3 {M : ab_M} {K : ab_K} {Rt : ab_V → ab_S → Prop} {pc n : Nat} {L : ab_L} {r : List ab_V} {σ : ab_S} (hM : ab_own M = 11) : ab_ex ab_G1 M K Rt pc n L (.inr (.inr (.inl 3)) :: r) σ (.getfield 144) = (n = 3 ∧ K (pc + 3) L (.inr (.inr (.inl 6)) :: r) σ) := by
  rw [ex_getfield, ab_o1_s, hM, gt1_11_144_3, ab_op_s]
  rfl
theorem dg1_11_144_12 {M : ab_M} {K : ab_K} {Rt : ab_V → ab_S → Prop} {pc n : Nat} {L : ab_L} {r : List ab_V} {σ : ab_S} (hM : ab_own M = 11) : ab_ex ab_G1 M K Rt pc n L (.inr (.inr (.inl 12)) :: r) σ (.getfield 144) = (n = 3 ∧ K (pc + 3) L (.inr (.inr (.inl 15)) :: r) σ) := by
  rw [ex_getfield, ab_o1_s, hM, gt1_11_144_12, ab_op_s]
  rfl
theorem dg1_4_171_3 {M : ab_M} {K : ab_K} {Rt : ab_V → ab_S → Prop} {pc n : Nat} {L : ab_L} {r : List ab_V} {σ : ab_S} (hM : ab_own M = 4) : ab_ex ab_G1 M K Rt pc n L (.inr (.inr (.inl 3)) :: r) σ (.getfield 171) = (n = 3 ∧ K (pc + 3) L (.inr (.inr (.inl 6)) :: r) σ) := by
  rw [ex_getfield, ab_o1_s, hM, gt1_4_171_3, ab_op_s]
  rfl
theorem dg1_4_171_12 {M : ab_M} {K : ab_K} {Rt : ab_V → ab_S → Prop} {pc n : Nat} {L : ab_L} {r : List ab_V} {σ : ab_S} (hM : ab_own M = 4) : ab_ex ab_G1 M K Rt pc n L (.inr (.inr (.inl 12)) :: r) σ (.getfield 171) = (n = 3 ∧ K (pc + 3) L (.inr (.inr (.inl 15)) :: r) σ) := by
  rw [ex_getfield, ab_o1_s, hM, gt1_4_171_12, ab_op_s]
  rfl
theorem dg1_7_139_3 {M : ab_M} {K : ab_K} {Rt : ab_V → ab_S → Prop} {pc n : Nat} {L : ab_L} {r : List ab_V} {σ : ab_S} (hM : ab_own M = 7) : ab_ex ab_G1 M K Rt pc n L (.inr (.inr (.inl 3)) :: r) σ (.getfield 139) = (n = 3 ∧ K (pc + 3) L (.inr (.inr (.inl 6)) :: r) σ) := by
  rw [ex_getfield, ab_o1_s, hM, gt1_7_139_3, ab_op_s]
  rfl
theorem dg1_7_139_12 {M : ab_M} {K : ab_K} {Rt : ab_V → ab_S → Prop} {pc n : Nat} {L : ab_L} {r : List ab_V} {σ : ab_S} (hM : ab_own M = 7) : ab_ex ab_G1 M K Rt pc n L (.inr (.inr (.inl 12)) :: r) σ (.getfield 139) = (n = 3 ∧ K (pc + 3) L (.inr (.inr (.inl 15)) :: r) σ) := by
  rw [ex_getfield, ab_o1_s, hM, gt1_7_139_12, ab_op_s]
  rfl
theorem dg1_6_162_3 {M : ab_M} {K : ab_K} {Rt : ab_V → ab_S → Prop} {pc n : Nat} {L : ab_L} {r : List ab_V} {σ : ab_S} (hM : ab_own M = 6) : ab_ex ab_G1 M K Rt pc n L (.inr (.inr (.inl 3)) :: r) σ (.getfield 162) = (n = 3 ∧ K (pc + 3) L (.inr (.inr (.inl 6)) :: r) σ) := by
  rw [ex_getfield, ab_o1_s, hM, gt1_6_162_3, ab_op_s]
  rfl
theorem dg1_6_162_12 {M : ab_M} {K : ab_K} {Rt : ab_V → ab_S → Prop} {pc n : Nat} {L : ab_L} {r : List ab_V} {σ : ab_S} (hM : ab_own M = 6) : ab_ex ab_G1 M K Rt pc n L (.inr (.inr (.inl 12)) :: r) σ (.getfield 162) = (n = 3 ∧ K (pc + 3) L (.inr (.inr (.inl 15)) :: r) σ) := by
  rw [ex_getfield, ab_o1_s, hM, gt1_6_162_12, ab_op_s]
  rfl
theorem dg1_9_21_3 {M : ab_M} {K : ab_K} {Rt : ab_V → ab_S → Prop} {pc n : Nat} {L : ab_L} {r : List ab_V} {σ : ab_S} (hM : ab_own M = 9) : ab_ex ab_G1 M K Rt pc n L (.inr (.inr (.inl 3)) :: r) σ (.getfield 21) = (n = 3 ∧ K (pc + 3) L (.inr (.inr (.inl 7)) :: r) σ) := by
  rw [ex_getfield, ab_o1_s, hM, gt1_9_21_3, ab_op_s]
  rfl
theorem dg1_9_21_12 {M : ab_M} {K : ab_K} {Rt : ab_V → ab_S → Prop} {pc n : Nat} {L : ab_L} {r : List ab_V} {σ : ab_S} (hM : ab_own M = 9) : ab_ex ab_G1 M K Rt pc n L (.inr (.inr (.inl 12)) :: r) σ (.getfield 21) = (n = 3 ∧ K (pc + 3) L (.inr (.inr (.inl 16)) :: r) σ) := by
  rw [ex_getfield, ab_o1_s, hM, gt1_9_21_12, ab_op_s]
  rfl
theorem dg1_3_79_3 {M : ab_M} {K : ab_K} {Rt : ab_V → ab_S → Prop} {pc n : Nat} {L : ab_L} {r : List ab_V} {σ : ab_S} (hM : ab_own M = 3) : ab_ex ab_G1 M K Rt pc n L (.inr (.inr (.inl 3)) :: r) σ (.getfield 79) = (n = 3 ∧ K (pc + 3) L (.inr (.inr (.inl 7)) :: r) σ) := by
  rw [ex_getfield, ab_o1_s, hM, gt1_3_79_3, ab_op_s]
  rfl
theorem dg1_3_79_12 {M : ab_M} {K : ab_K} {Rt : ab_V → ab_S → Prop} {pc n : Nat} {L : ab_L} {r : List ab_V} {σ : ab_S} (hM : ab_own M = 3) : ab_ex ab_G1 M K Rt pc n L (.inr (.inr (.inl 12)) :: r) σ (.getfield 79) = (n = 3 ∧ K (pc + 3) L (.inr (.inr (.inl 16)) :: r) σ) := by
  rw [ex_getfield, ab_o1_s, hM, gt1_3_79_12, ab_op_s]
  rfl
theorem dg1_11_148_3 {M : ab_M} {K : ab_K} {Rt : ab_V → ab_S → Prop} {pc n : Nat} {L : ab_L} {r : List ab_V} {σ : ab_S} (hM : ab_own M = 11) : ab_ex ab_G1 M K Rt pc n L (.inr (.inr (.inl 3)) :: r) σ (.getfield 148) = (n = 3 ∧ K (pc + 3) L (.inr (.inr (.inl 7)) :: r) σ) := by
  rw [ex_getfield, ab_o1_s, hM, gt1_11_148_3, ab_op_s]
  rfl
theorem dg1_11_148_12 {M : ab_M} {K : ab_K} {Rt : ab_V → ab_S → Prop} {pc n : Nat} {L : ab_L} {r : List ab_V} {σ : ab_S} (hM : ab_own M = 11) : ab_ex ab_G1 M K Rt pc n L (.inr (.inr (.inl 12)) :: r) σ (.getfield 148) = (n = 3 ∧ K (pc + 3) L (.inr (.inr (.inl 16)) :: r) σ) := by
  rw [ex_getfield, ab_o1_s, hM, gt1_11_148_12, ab_op_s]
  rfl
theorem dg1_6_167_3 {M : ab_M} {K : ab_K} {Rt : ab_V → ab_S → Prop} {pc n : Nat} {L : ab_L} {r : List ab_V} {σ : ab_S} (hM : ab_own M = 6) : ab_ex ab_G1 M K Rt pc n L (.inr (.inr (.inl 3)) :: r) σ (.getfield 167) = (n = 3 ∧ K (pc + 3) L (.inr (.inr (.inl 7)) :: r) σ) := by
  rw [ex_getfield, ab_o1_s, hM, gt1_6_167_3, ab_op_s]
  rfl
theorem dg1_6_167_12 {M : ab_M} {K : ab_K} {Rt : ab_V → ab_S → Prop} {pc n : Nat} {L : ab_L} {r : List ab_V} {σ : ab_S} (hM : ab_own M = 6) : ab_ex ab_G1 M K Rt pc n L (.inr (.inr (.inl 12)) :: r) σ (.getfield 167) = (n = 3 ∧ K (pc + 3) L (.inr (.inr (.inl 16)) :: r) σ) := by
  rw [ex_getfield, ab_o1_s, hM, gt1_6_167_12, ab_op_s]
  rfl
theorem dg1_9_24_3 {M : ab_M} {K : ab_K} {Rt : ab_V → ab_S → Prop} {pc n : Nat} {L : ab_L} {r : List ab_V} {σ : ab_S} (hM : ab_own M = 9) : ab_ex ab_G1 M K Rt pc n L (.inr (.inr (.inl 3)) :: r) σ (.getfield 24) = (n = 3 ∧ K (pc + 3) L (.inr (.inr (.inl 8)) :: r) σ) := by
  rw [ex_getfield, ab_o1_s, hM, gt1_9_24_3, ab_op_s]
  rfl
theorem dg1_9_24_12 {M : ab_M} {K : ab_K} {Rt : ab_V → ab_S → Prop} {pc n : Nat} {L : ab_L} {r : List ab_V} {σ : ab_S} (hM : ab_own M = 9) : ab_ex ab_G1 M K Rt pc n L (.inr (.inr (.inl 12)) :: r) σ (.getfield 24) = (n = 3 ∧ K (pc + 3) L (.inr (.inr (.inl 17)) :: r) σ) := by
  rw [ex_getfield, ab_o1_s, hM, gt1_9_24_12, ab_op_s]
  rfl
theorem dg1_7_100_3 {M : ab_M} {K : ab_K} {Rt : ab_V → ab_S → Prop} {pc n : Nat} {L : ab_L} {r : List ab_V} {σ : ab_S} (hM : ab_own M = 7) : ab_ex ab_G1 M K Rt pc n L (.inr (.inr (.inl 3)) :: r) σ (.getfield 100) = (n = 3 ∧ K (pc + 3) L (.inr (.inr (.inl 8)) :: r) σ) := by
  rw [ex_getfield, ab_o1_s, hM, gt1_7_100_3, ab_op_s]
  rfl
theorem dg1_7_100_12 {M : ab_M} {K : ab_K} {Rt : ab_V → ab_S → Prop} {pc n : Nat} {L : ab_L} {r : List ab_V} {σ : ab_S} (hM : ab_own M = 7) : ab_ex ab_G1 M K Rt pc n L (.inr (.inr (.inl 12)) :: r) σ (.getfield 100) = (n = 3 ∧ K (pc + 3) L (.inr (.inr (.inl 17)) :: r) σ) := by
  rw [ex_getfield, ab_o1_s, hM, gt1_7_100_12, ab_op_s]
  rfl
theorem dg1_8_88_3 {M : ab_M} {K : ab_K} {Rt : ab_V → ab_S → Prop} {pc n : Nat} {L : ab_L} {r : List ab_V} {σ : ab_S} (hM : ab_own M = 8) : ab_ex ab_G1 M K Rt pc n L (.inr (.inr (.inl 3)) :: r) σ (.getfield 88) = (n = 3 ∧ K (pc + 3) L (.inr (.inr (.inl 8)) :: r) σ) := by
  rw [ex_getfield, ab_o1_s, hM, gt1_8_88_3, ab_op_s]
  rfl
theorem dg1_8_88_12 {M : ab_M} {K : ab_K} {Rt : ab_V → ab_S → Prop} {pc n : Nat} {L : ab_L} {r : List ab_V} {σ : ab_S} (hM : ab_own M = 8) : ab_ex ab_G1 M K Rt pc n L (.inr (.inr (.inl 12)) :: r) σ (.getfield 88) = (n = 3 ∧ K (pc + 3) L (.inr (.inr (.inl 17)) :: r) σ) := by
  rw [ex_getfield, ab_o1_s, hM, gt1_8_88_12, ab_op_s]
  rfl
theorem dg1_6_189_3 {M : ab_M} {K : ab_K} {Rt : ab_V → ab_S → Prop} {pc n : Nat} {L : ab_L} {r : List ab_V} {σ : ab_S} (hM : ab_own M = 6) : ab_ex ab_G1 M K Rt pc n L (.inr (.inr (.inl 3)) :: r) σ (.getfield 189) = (n = 3 ∧ K (pc + 3) L (.inr (.inr (.inl 8)) :: r) σ) := by
  rw [ex_getfield, ab_o1_s, hM, gt1_6_189_3, ab_op_s]
  rfl
theorem dg1_6_189_12 {M : ab_M} {K : ab_K} {Rt : ab_V → ab_S → Prop} {pc n : Nat} {L : ab_L} {r : List ab_V} {σ : ab_S} (hM : ab_own M = 6) : ab_ex ab_G1 M K Rt pc n L (.inr (.inr (.inl 12)) :: r) σ (.getfield 189) = (n = 3 ∧ K (pc + 3) L (.inr (.inr (.inl 17)) :: r) σ) := by
  rw [ex_getfield, ab_o1_s, hM, gt1_6_189_12, ab_op_s]
  rfl
theorem dg1_9_27_3 {M : ab_M} {K : ab_K} {Rt : ab_V → ab_S → Prop} {pc n : Nat} {L : ab_L} {r : List ab_V} {σ : ab_S} (hM : ab_own M = 9) : ab_ex ab_G1 M K Rt pc n L (.inr (.inr (.inl 3)) :: r) σ (.getfield 27) = (n = 3 ∧ K (pc + 3) L (.inr (.inr (.inl 9)) :: r) σ) := by
  rw [ex_getfield, ab_o1_s, hM, gt1_9_27_3, ab_op_s]
  rfl
theorem dg1_9_27_12 {M : ab_M} {K : ab_K} {Rt : ab_V → ab_S → Prop} {pc n : Nat} {L : ab_L} {r : List ab_V} {σ : ab_S} (hM : ab_own M = 9) : ab_ex ab_G1 M K Rt pc n L (.inr (.inr (.inl 12)) :: r) σ (.getfield 27) = (n = 3 ∧ K (pc + 3) L (.inr (.inr (.inl 18)) :: r) σ) := by
  rw [ex_getfield, ab_o1_s, hM, gt1_9_27_12, ab_op_s]
  rfl
theorem dg1_7_103_3 {M : ab_M} {K : ab_K} {Rt : ab_V → ab_S → Prop} {pc n : Nat} {L : ab_L} {r : List ab_V} {σ : ab_S} (hM : ab_own M = 7) : ab_ex ab_G1 M K Rt pc n L (.inr (.inr (.inl 3)) :: r) σ (.getfield 103) = (n = 3 ∧ K (pc + 3) L (.inr (.inr (.inl 9)) :: r) σ) := by
  rw [ex_getfield, ab_o1_s, hM, gt1_7_103_3, ab_op_s]
  rfl
theorem dg1_7_103_12 {M : ab_M} {K : ab_K} {Rt : ab_V → ab_S → Prop} {pc n : Nat} {L : ab_L} {r : List ab_V} {σ : ab_S} (hM : ab_own M = 7) : ab_ex ab_G1 M K Rt pc n L (.inr (.inr (.inl 12)) :: r) σ (.getfield 103) = (n = 3 ∧ K (pc + 3) L (.inr (.inr (.inl 18)) :: r) σ) := by
  rw [ex_getfield, ab_o1_s, hM, gt1_7_103_12, ab_op_s]
  rfl
theorem dg1_8_94_3 {M : ab_M} {K : ab_K} {Rt : ab_V → ab_S → Prop} {pc n : Nat} {L : ab_L} {r : List ab_V} {σ : ab_S} (hM : ab_own M = 8) : ab_ex ab_G1 M K Rt pc n L (.inr (.inr (.inl 3)) :: r) σ (.getfield 94) = (n = 3 ∧ K (pc + 3) L (.inr (.inr (.inl 9)) :: r) σ) := by
  rw [ex_getfield, ab_o1_s, hM, gt1_8_94_3, ab_op_s]
  rfl
theorem dg1_8_94_12 {M : ab_M} {K : ab_K} {Rt : ab_V → ab_S → Prop} {pc n : Nat} {L : ab_L} {r : List ab_V} {σ : ab_S} (hM : ab_own M = 8) : ab_ex ab_G1 M K Rt pc n L (.inr (.inr (.inl 12)) :: r) σ (.getfield 94) = (n = 3 ∧ K (pc + 3) L (.inr (.inr (.inl 18)) :: r) σ) := by
  rw [ex_getfield, ab_o1_s, hM, gt1_8_94_12, ab_op_s]
  rfl
theorem dg1_6_192_3 {M : ab_M} {K : ab_K} {Rt : ab_V → ab_S → Prop} {pc n : Nat} {L : ab_L} {r : List ab_V} {σ : ab_S} (hM : ab_own M = 6) : ab_ex ab_G1 M K Rt pc n L (.inr (.inr (.inl 3)) :: r) σ (.getfield 192) = (n = 3 ∧ K (pc + 3) L (.inr (.inr (.inl 9)) :: r) σ) := by
  rw [ex_getfield, ab_o1_s, hM, gt1_6_192_3, ab_op_s]
  rfl
theorem dg1_6_192_12 {M : ab_M} {K : ab_K} {Rt : ab_V → ab_S → Prop} {pc n : Nat} {L : ab_L} {r : List ab_V} {σ : ab_S} (hM : ab_own M = 6) : ab_ex ab_G1 M K Rt pc n L (.inr (.inr (.inl 12)) :: r) σ (.getfield 192) = (n = 3 ∧ K (pc + 3) L (.inr (.inr (.inl 18)) :: r) σ) := by
  rw [ex_getfield, ab_o1_s, hM, gt1_6_192_12, ab_op_s]
  rfl
theorem dg1_9_30_3 {M : ab_M} {K : ab_K} {Rt : ab_V → ab_S → Prop} {pc n : Nat} {L : ab_L} {r : List ab_V} {σ : ab_S} (hM : ab_own M = 9) : ab_ex ab_G1 M K Rt pc n L (.inr (.inr (.inl 3)) :: r) σ (.getfield 30) = (n = 3 ∧ K (pc + 3) L (.inr (.inr (.inl 10)) :: r) σ) := by
  rw [ex_getfield, ab_o1_s, hM, gt1_9_30_3, ab_op_s]
  rfl
theorem dg1_9_30_12 {M : ab_M} {K : ab_K} {Rt : ab_V → ab_S → Prop} {pc n : Nat} {L : ab_L} {r : List ab_V} {σ : ab_S} (hM : ab_own M = 9) : ab_ex ab_G1 M K Rt pc n L (.inr (.inr (.inl 12)) :: r) σ (.getfield 30) = (n = 3 ∧ K (pc + 3) L (.inr (.inr (.inl 19)) :: r) σ) := by
  rw [ex_getfield, ab_o1_s, hM, gt1_9_30_12, ab_op_s]
  rfl
theorem dg1_4_112_3 {M : ab_M} {K : ab_K} {Rt : ab_V → ab_S → Prop} {pc n : Nat} {L : ab_L} {r : List ab_V} {σ : ab_S} (hM : ab_own M = 4) : ab_ex ab_G1 M K Rt pc n L (.inr (.inr (.inl 3)) :: r) σ (.getfield 112) = (n = 3 ∧ K (pc + 3) L (.inr (.inr (.inl 10)) :: r) σ) := by
  rw [ex_getfield, ab_o1_s, hM, gt1_4_112_3, ab_op_s]
  rfl
theorem dg1_4_112_12 {M : ab_M} {K : ab_K} {Rt : ab_V → ab_S → Prop} {pc n : Nat} {L : ab_L} {r : List ab_V} {σ : ab_S} (hM : ab_own M = 4) : ab_ex ab_G1 M K Rt pc n L (.inr (.inr (.inl 12)) :: r) σ (.getfield 112) = (n = 3 ∧ K (pc + 3) L (.inr (.inr (.inl 19)) :: r) σ) := by
  rw [ex_getfield, ab_o1_s, hM, gt1_4_112_12, ab_op_s]
  rfl
theorem dg1_7_106_3 {M : ab_M} {K : ab_K} {Rt : ab_V → ab_S → Prop} {pc n : Nat} {L : ab_L} {r : List ab_V} {σ : ab_S} (hM : ab_own M = 7) : ab_ex ab_G1 M K Rt pc n L (.inr (.inr (.inl 3)) :: r) σ (.getfield 106) = (n = 3 ∧ K (pc + 3) L (.inr (.inr (.inl 10)) :: r) σ) := by
  rw [ex_getfield, ab_o1_s, hM, gt1_7_106_3, ab_op_s]
  rfl
theorem dg1_7_106_12 {M : ab_M} {K : ab_K} {Rt : ab_V → ab_S → Prop} {pc n : Nat} {L : ab_L} {r : List ab_V} {σ : ab_S} (hM : ab_own M = 7) : ab_ex ab_G1 M K Rt pc n L (.inr (.inr (.inl 12)) :: r) σ (.getfield 106) = (n = 3 ∧ K (pc + 3) L (.inr (.inr (.inl 19)) :: r) σ) := by
  rw [ex_getfield, ab_o1_s, hM, gt1_7_106_12, ab_op_s]
  rfl
theorem dg1_8_91_3 {M : ab_M} {K : ab_K} {Rt : ab_V → ab_S → Prop} {pc n : Nat} {L : ab_L} {r : List ab_V} {σ : ab_S} (hM : ab_own M = 8) : ab_ex ab_G1 M K Rt pc n L (.inr (.inr (.inl 3)) :: r) σ (.getfield 91) = (n = 3 ∧ K (pc + 3) L (.inr (.inr (.inl 10)) :: r) σ) := by
  rw [ex_getfield, ab_o1_s, hM, gt1_8_91_3, ab_op_s]
  rfl
theorem dg1_8_91_12 {M : ab_M} {K : ab_K} {Rt : ab_V → ab_S → Prop} {pc n : Nat} {L : ab_L} {r : List ab_V} {σ : ab_S} (hM : ab_own M = 8) : ab_ex ab_G1 M K Rt pc n L (.inr (.inr (.inl 12)) :: r) σ (.getfield 91) = (n = 3 ∧ K (pc + 3) L (.inr (.inr (.inl 19)) :: r) σ) := by
  rw [ex_getfield, ab_o1_s, hM, gt1_8_91_12, ab_op_s]
  rfl
theorem dg1_6_195_3 {M : ab_M} {K : ab_K} {Rt : ab_V → ab_S → Prop} {pc n : Nat} {L : ab_L} {r : List ab_V} {σ : ab_S} (hM : ab_own M = 6) : ab_ex ab_G1 M K Rt pc n L (.inr (.inr (.inl 3)) :: r) σ (.getfield 195) = (n = 3 ∧ K (pc + 3) L (.inr (.inr (.inl 10)) :: r) σ) := by
  rw [ex_getfield, ab_o1_s, hM, gt1_6_195_3, ab_op_s]
  rfl
theorem dg1_6_195_12 {M : ab_M} {K : ab_K} {Rt : ab_V → ab_S → Prop} {pc n : Nat} {L : ab_L} {r : List ab_V} {σ : ab_S} (hM : ab_own M = 6) : ab_ex ab_G1 M K Rt pc n L (.inr (.inr (.inl 12)) :: r) σ (.getfield 195) = (n = 3 ∧ K (pc + 3) L (.inr (.inr (.inl 19)) :: r) σ) := by
  rw [ex_getfield, ab_o1_s, hM, gt1_6_195_12, ab_op_s]
  rfl
theorem dg1_9_33_3 {M : ab_M} {K : ab_K} {Rt : ab_V → ab_S → Prop} {pc n : Nat} {L : ab_L} {r : List ab_V} {σ : ab_S} (hM : ab_own M = 9) : ab_ex ab_G1 M K Rt pc n L (.inr (.inr (.inl 3)) :: r) σ (.getfield 33) = (n = 3 ∧ K (pc + 3) L (.inr (.inr (.inl 11)) :: r) σ) := by
  rw [ex_getfield, ab_o1_s, hM, gt1_9_33_3, ab_op_s]
  rfl
theorem dg1_9_33_12 {M : ab_M} {K : ab_K} {Rt : ab_V → ab_S → Prop} {pc n : Nat} {L : ab_L} {r : List ab_V} {σ : ab_S} (hM : ab_own M = 9) : ab_ex ab_G1 M K Rt pc n L (.inr (.inr (.inl 12)) :: r) σ (.getfield 33) = (n = 3 ∧ K (pc + 3) L (.inr (.inr (.inl 20)) :: r) σ) := by
  rw [ex_getfield, ab_o1_s, hM, gt1_9_33_12, ab_op_s]
  rfl
theorem dg1_8_69_3 {M : ab_M} {K : ab_K} {Rt : ab_V → ab_S → Prop} {pc n : Nat} {L : ab_L} {r : List ab_V} {σ : ab_S} (hM : ab_own M = 8) : ab_ex ab_G1 M K Rt pc n L (.inr (.inr (.inl 3)) :: r) σ (.getfield 69) = (n = 3 ∧ K (pc + 3) L (.inr (.inr (.inl 11)) :: r) σ) := by
  rw [ex_getfield, ab_o1_s, hM, gt1_8_69_3, ab_op_s]
  rfl
theorem dg1_8_69_12 {M : ab_M} {K : ab_K} {Rt : ab_V → ab_S → Prop} {pc n : Nat} {L : ab_L} {r : List ab_V} {σ : ab_S} (hM : ab_own M = 8) : ab_ex ab_G1 M K Rt pc n L (.inr (.inr (.inl 12)) :: r) σ (.getfield 69) = (n = 3 ∧ K (pc + 3) L (.inr (.inr (.inl 20)) :: r) σ) := by
  rw [ex_getfield, ab_o1_s, hM, gt1_8_69_12, ab_op_s]
  rfl
theorem dg1_7_142_3 {M : ab_M} {K : ab_K} {Rt : ab_V → ab_S → Prop} {pc n : Nat} {L : ab_L} {r : List ab_V} {σ : ab_S} (hM : ab_own M = 7) : ab_ex ab_G1 M K Rt pc n L (.inr (.inr (.inl 3)) :: r) σ (.getfield 142) = (n = 3 ∧ K (pc + 3) L (.inr (.inr (.inl 11)) :: r) σ) := by
  rw [ex_getfield, ab_o1_s, hM, gt1_7_142_3, ab_op_s]
  rfl
theorem dg1_7_142_12 {M : ab_M} {K : ab_K} {Rt : ab_V → ab_S → Prop} {pc n : Nat} {L : ab_L} {r : List ab_V} {σ : ab_S} (hM : ab_own M = 7) : ab_ex ab_G1 M K Rt pc n L (.inr (.inr (.inl 12)) :: r) σ (.getfield 142) = (n = 3 ∧ K (pc + 3) L (.inr (.inr (.inl 20)) :: r) σ) := by
  rw [ex_getfield, ab_o1_s, hM, gt1_7_142_12, ab_op_s]
  rfl
theorem dg1_6_198_3 {M : ab_M} {K : ab_K} {Rt : ab_V → ab_S → Prop} {pc n : Nat} {L : ab_L} {r : List ab_V} {σ : ab_S} (hM : ab_own M = 6) : ab_ex ab_G1 M K Rt pc n L (.inr (.inr (.inl 3)) :: r) σ (.getfield 198) = (n = 3 ∧ K (pc + 3) L (.inr (.inr (.inl 11)) :: r) σ) := by
  rw [ex_getfield, ab_o1_s, hM, gt1_6_198_3, ab_op_s]
  rfl
theorem dg1_6_198_12 {M : ab_M} {K : ab_K} {Rt : ab_V → ab_S → Prop} {pc n : Nat} {L : ab_L} {r : List ab_V} {σ : ab_S} (hM : ab_own M = 6) : ab_ex ab_G1 M K Rt pc n L (.inr (.inr (.inl 12)) :: r) σ (.getfield 198) = (n = 3 ∧ K (pc + 3) L (.inr (.inr (.inl 20)) :: r) σ) := by
  rw [ex_getfield, ab_o1_s, hM, gt1_6_198_12, ab_op_s]
  rfl
theorem dg1_9_36_3 {M : ab_M} {K : ab_K} {Rt : ab_V → ab_S → Prop} {pc n : Nat} {L : ab_L} {r : List ab_V} {σ : ab_S} (hM : ab_own M = 9) : ab_ex ab_G1 M K Rt pc n L (.inr (.inr (.inl 3)) :: r) σ (.getfield 36) = (n = 3 ∧ K (pc + 3) L (.inl (σ 3 8) :: r) σ) := by
  rw [ex_getfield, ab_o1_s, hM, gt1_9_36_3, ab_op_s]
  rfl
theorem dg1_9_36_12 {M : ab_M} {K : ab_K} {Rt : ab_V → ab_S → Prop} {pc n : Nat} {L : ab_L} {r : List ab_V} {σ : ab_S} (hM : ab_own M = 9) : ab_ex ab_G1 M K Rt pc n L (.inr (.inr (.inl 12)) :: r) σ (.getfield 36) = (n = 3 ∧ K (pc + 3) L (.inl (σ 12 8) :: r) σ) := by
  rw [ex_getfield, ab_o1_s, hM, gt1_9_36_12, ab_op_s]
  rfl
theorem dg1_1_76_3 {M : ab_M} {K : ab_K} {Rt : ab_V → ab_S → Prop} {pc n : Nat} {L : ab_L} {r : List ab_V} {σ : ab_S} (hM : ab_own M = 1) : ab_ex ab_G1 M K Rt pc n L (.inr (.inr (.inl 3)) :: r) σ (.getfield 76) = (n = 3 ∧ K (pc + 3) L (.inl (σ 3 8) :: r) σ) := by
  rw [ex_getfield, ab_o1_s, hM, gt1_1_76_3, ab_op_s]
  rfl
theorem dg1_1_76_12 {M : ab_M} {K : ab_K} {Rt : ab_V → ab_S → Prop} {pc n : Nat} {L : ab_L} {r : List ab_V} {σ : ab_S} (hM : ab_own M = 1) : ab_ex ab_G1 M K Rt pc n L (.inr (.inr (.inl 12)) :: r) σ (.getfield 76) = (n = 3 ∧ K (pc + 3) L (.inl (σ 12 8) :: r) σ) := by
  rw [ex_getfield, ab_o1_s, hM, gt1_1_76_12, ab_op_s]
  rfl
theorem dg1_6_43_3 {M : ab_M} {K : ab_K} {Rt : ab_V → ab_S → Prop} {pc n : Nat} {L : ab_L} {r : List ab_V} {σ : ab_S} (hM : ab_own M = 6) : ab_ex ab_G1 M K Rt pc n L (.inr (.inr (.inl 3)) :: r) σ (.getfield 43) = (n = 3 ∧ K (pc + 3) L (.inl (σ 3 8) :: r) σ) := by
  rw [ex_getfield, ab_o1_s, hM, gt1_6_43_3, ab_op_s]
  rfl
theorem dg1_6_43_12 {M : ab_M} {K : ab_K} {Rt : ab_V → ab_S → Prop} {pc n : Nat} {L : ab_L} {r : List ab_V} {σ : ab_S} (hM : ab_own M = 6) : ab_ex ab_G1 M K Rt pc n L (.inr (.inr (.inl 12)) :: r) σ (.getfield 43) = (n = 3 ∧ K (pc + 3) L (.inl (σ 12 8) :: r) σ) := by
  rw [ex_getfield, ab_o1_s, hM, gt1_6_43_12, ab_op_s]
  rfl
theorem dg1_11_137_3 {M : ab_M} {K : ab_K} {Rt : ab_V → ab_S → Prop} {pc n : Nat} {L : ab_L} {r : List ab_V} {σ : ab_S} (hM : ab_own M = 11) : ab_ex ab_G1 M K Rt pc n L (.inr (.inr (.inl 3)) :: r) σ (.getfield 137) = (n = 3 ∧ K (pc + 3) L (.inl (σ 3 8) :: r) σ) := by
  rw [ex_getfield, ab_o1_s, hM, gt1_11_137_3, ab_op_s]
  rfl
theorem dg1_11_137_12 {M : ab_M} {K : ab_K} {Rt : ab_V → ab_S → Prop} {pc n : Nat} {L : ab_L} {r : List ab_V} {σ : ab_S} (hM : ab_own M = 11) : ab_ex ab_G1 M K Rt pc n L (.inr (.inr (.inl 12)) :: r) σ (.getfield 137) = (n = 3 ∧ K (pc + 3) L (.inl (σ 12 8) :: r) σ) := by
  rw [ex_getfield, ab_o1_s, hM, gt1_11_137_12, ab_op_s]
  rfl
theorem dg1_4_102_3 {M : ab_M} {K : ab_K} {Rt : ab_V → ab_S → Prop} {pc n : Nat} {L : ab_L} {r : List ab_V} {σ : ab_S} (hM : ab_own M = 4) : ab_ex ab_G1 M K Rt pc n L (.inr (.inr (.inl 3)) :: r) σ (.getfield 102) = (n = 3 ∧ K (pc + 3) L (.inl (σ 3 8) :: r) σ) := by
  rw [ex_getfield, ab_o1_s, hM, gt1_4_102_3, ab_op_s]
  rfl
theorem dg1_4_102_12 {M : ab_M} {K : ab_K} {Rt : ab_V → ab_S → Prop} {pc n : Nat} {L : ab_L} {r : List ab_V} {σ : ab_S} (hM : ab_own M = 4) : ab_ex ab_G1 M K Rt pc n L (.inr (.inr (.inl 12)) :: r) σ (.getfield 102) = (n = 3 ∧ K (pc + 3) L (.inl (σ 12 8) :: r) σ) := by
  rw [ex_getfield, ab_o1_s, hM, gt1_4_102_12, ab_op_s]
  rfl
theorem dg1_7_97_3 {M : ab_M} {K : ab_K} {Rt : ab_V → ab_S → Prop} {pc n : Nat} {L : ab_L} {r : List ab_V} {σ : ab_S} (hM : ab_own M = 7) : ab_ex ab_G1 M K Rt pc n L (.inr (.inr (.inl 3)) :: r) σ (.getfield 97) = (n = 3 ∧ K (pc + 3) L (.inl (σ 3 8) :: r) σ) := by
  rw [ex_getfield, ab_o1_s, hM, gt1_7_97_3, ab_op_s]
  rfl
theorem dg1_7_97_12 {M : ab_M} {K : ab_K} {Rt : ab_V → ab_S → Prop} {pc n : Nat} {L : ab_L} {r : List ab_V} {σ : ab_S} (hM : ab_own M = 7) : ab_ex ab_G1 M K Rt pc n L (.inr (.inr (.inl 12)) :: r) σ (.getfield 97) = (n = 3 ∧ K (pc + 3) L (.inl (σ 12 8) :: r) σ) := by
  rw [ex_getfield, ab_o1_s, hM, gt1_7_97_12, ab_op_s]
  rfl
theorem dg1_8_53_3 {M : ab_M} {K : ab_K} {Rt : ab_V → ab_S → Prop} {pc n : Nat} {L : ab_L} {r : List ab_V} {σ : ab_S} (hM : ab_own M = 8) : ab_ex ab_G1 M K Rt pc n L (.inr (.inr (.inl 3)) :: r) σ (.getfield 53) = (n = 3 ∧ K (pc + 3) L (.inl (σ 3 8) :: r) σ) := by
  rw [ex_getfield, ab_o1_s, hM, gt1_8_53_3, ab_op_s]
  rfl
theorem dg1_8_53_12 {M : ab_M} {K : ab_K} {Rt : ab_V → ab_S → Prop} {pc n : Nat} {L : ab_L} {r : List ab_V} {σ : ab_S} (hM : ab_own M = 8) : ab_ex ab_G1 M K Rt pc n L (.inr (.inr (.inl 12)) :: r) σ (.getfield 53) = (n = 3 ∧ K (pc + 3) L (.inl (σ 12 8) :: r) σ) := by
  rw [ex_getfield, ab_o1_s, hM, gt1_8_53_12, ab_op_s]
  rfl
theorem dg1_10_70_3 {M : ab_M} {K : ab_K} {Rt : ab_V → ab_S → Prop} {pc n : Nat} {L : ab_L} {r : List ab_V} {σ : ab_S} (hM : ab_own M = 10) : ab_ex ab_G1 M K Rt pc n L (.inr (.inr (.inl 3)) :: r) σ (.getfield 70) = (n = 3 ∧ K (pc + 3) L (.inl (σ 3 8) :: r) σ) := by
  rw [ex_getfield, ab_o1_s, hM, gt1_10_70_3, ab_op_s]
  rfl
theorem dg1_10_70_12 {M : ab_M} {K : ab_K} {Rt : ab_V → ab_S → Prop} {pc n : Nat} {L : ab_L} {r : List ab_V} {σ : ab_S} (hM : ab_own M = 10) : ab_ex ab_G1 M K Rt pc n L (.inr (.inr (.inl 12)) :: r) σ (.getfield 70) = (n = 3 ∧ K (pc + 3) L (.inl (σ 12 8) :: r) σ) := by
  rw [ex_getfield, ab_o1_s, hM, gt1_10_70_12, ab_op_s]
  rfl
theorem dg1_9_40_3 {M : ab_M} {K : ab_K} {Rt : ab_V → ab_S → Prop} {pc n : Nat} {L : ab_L} {r : List ab_V} {σ : ab_S} (hM : ab_own M = 9) : ab_ex ab_G1 M K Rt pc n L (.inr (.inr (.inl 3)) :: r) σ (.getfield 40) = (n = 3 ∧ K (pc + 3) L (.inl (σ 3 9) :: r) σ) := by
  rw [ex_getfield, ab_o1_s, hM, gt1_9_40_3, ab_op_s]
  rfl
theorem dg1_9_40_12 {M : ab_M} {K : ab_K} {Rt : ab_V → ab_S → Prop} {pc n : Nat} {L : ab_L} {r : List ab_V} {σ : ab_S} (hM : ab_own M = 9) : ab_ex ab_G1 M K Rt pc n L (.inr (.inr (.inl 12)) :: r) σ (.getfield 40) = (n = 3 ∧ K (pc + 3) L (.inl (σ 12 9) :: r) σ) := by
  rw [ex_getfield, ab_o1_s, hM, gt1_9_40_12, ab_op_s]
  rfl
theorem dg1_7_81_3 {M : ab_M} {K : ab_K} {Rt : ab_V → ab_S → Prop} {pc n : Nat} {L : ab_L} {r : List ab_V} {σ : ab_S} (hM : ab_own M = 7) : ab_ex ab_G1 M K Rt pc n L (.inr (.inr (.inl 3)) :: r) σ (.getfield 81) = (n = 3 ∧ K (pc + 3) L (.inl (σ 3 9) :: r) σ) := by
  rw [ex_getfield, ab_o1_s, hM, gt1_7_81_3, ab_op_s]
  rfl
theorem dg1_7_81_12 {M : ab_M} {K : ab_K} {Rt : ab_V → ab_S → Prop} {pc n : Nat} {L : ab_L} {r : List ab_V} {σ : ab_S} (hM : ab_own M = 7) : ab_ex ab_G1 M K Rt pc n L (.inr (.inr (.inl 12)) :: r) σ (.getfield 81) = (n = 3 ∧ K (pc + 3) L (.inl (σ 12 9) :: r) σ) := by
  rw [ex_getfield, ab_o1_s, hM, gt1_7_81_12, ab_op_s]
  rfl
theorem dg1_4_109_3 {M : ab_M} {K : ab_K} {Rt : ab_V → ab_S → Prop} {pc n : Nat} {L : ab_L} {r : List ab_V} {σ : ab_S} (hM : ab_own M = 4) : ab_ex ab_G1 M K Rt pc n L (.inr (.inr (.inl 3)) :: r) σ (.getfield 109) = (n = 3 ∧ K (pc + 3) L (.inl (σ 3 9) :: r) σ) := by
  rw [ex_getfield, ab_o1_s, hM, gt1_4_109_3, ab_op_s]
  rfl
theorem dg1_4_109_12 {M : ab_M} {K : ab_K} {Rt : ab_V → ab_S → Prop} {pc n : Nat} {L : ab_L} {r : List ab_V} {σ : ab_S} (hM : ab_own M = 4) : ab_ex ab_G1 M K Rt pc n L (.inr (.inr (.inl 12)) :: r) σ (.getfield 109) = (n = 3 ∧ K (pc + 3) L (.inl (σ 12 9) :: r) σ) := by
  rw [ex_getfield, ab_o1_s, hM, gt1_4_109_12, ab_op_s]
  rfl
theorem dg1_11_151_3 {M : ab_M} {K : ab_K} {Rt : ab_V → ab_S → Prop} {pc n : Nat} {L : ab_L} {r : List ab_V} {σ : ab_S} (hM : ab_own M = 11) : ab_ex ab_G1 M K Rt pc n L (.inr (.inr (.inl 3)) :: r) σ (.getfield 151) = (n = 3 ∧ K (pc + 3) L (.inl (σ 3 9) :: r) σ) := by
  rw [ex_getfield, ab_o1_s, hM, gt1_11_151_3, ab_op_s]
  rfl
theorem dg1_11_151_12 {M : ab_M} {K : ab_K} {Rt : ab_V → ab_S → Prop} {pc n : Nat} {L : ab_L} {r : List ab_V} {σ : ab_S} (hM : ab_own M = 11) : ab_ex ab_G1 M K Rt pc n L (.inr (.inr (.inl 12)) :: r) σ (.getfield 151) = (n = 3 ∧ K (pc + 3) L (.inl (σ 12 9) :: r) σ) := by
  rw [ex_getfield, ab_o1_s, hM, gt1_11_151_12, ab_op_s]
  rfl
theorem dg1_8_66_3 {M : ab_M} {K : ab_K} {Rt : ab_V → ab_S → Prop} {pc n : Nat} {L : ab_L} {r : List ab_V} {σ : ab_S} (hM : ab_own M = 8) : ab_ex ab_G1 M K Rt pc n L (.inr (.inr (.inl 3)) :: r) σ (.getfield 66) = (n = 3 ∧ K (pc + 3) L (.inl (σ 3 9) :: r) σ) := by
  rw [ex_getfield, ab_o1_s, hM, gt1_8_66_3, ab_op_s]
  rfl
theorem dg1_8_66_12 {M : ab_M} {K : ab_K} {Rt : ab_V → ab_S → Prop} {pc n : Nat} {L : ab_L} {r : List ab_V} {σ : ab_S} (hM : ab_own M = 8) : ab_ex ab_G1 M K Rt pc n L (.inr (.inr (.inl 12)) :: r) σ (.getfield 66) = (n = 3 ∧ K (pc + 3) L (.inl (σ 12 9) :: r) σ) := by
  rw [ex_getfield, ab_o1_s, hM, gt1_8_66_12, ab_op_s]
  rfl
theorem dg1_6_183_3 {M : ab_M} {K : ab_K} {Rt : ab_V → ab_S → Prop} {pc n : Nat} {L : ab_L} {r : List ab_V} {σ : ab_S} (hM : ab_own M = 6) : ab_ex ab_G1 M K Rt pc n L (.inr (.inr (.inl 3)) :: r) σ (.getfield 183) = (n = 3 ∧ K (pc + 3) L (.inl (σ 3 9) :: r) σ) := by
  rw [ex_getfield, ab_o1_s, hM, gt1_6_183_3, ab_op_s]
  rfl
theorem dg1_6_183_12 {M : ab_M} {K : ab_K} {Rt : ab_V → ab_S → Prop} {pc n : Nat} {L : ab_L} {r : List ab_V} {σ : ab_S} (hM : ab_own M = 6) : ab_ex ab_G1 M K Rt pc n L (.inr (.inr (.inl 12)) :: r) σ (.getfield 183) = (n = 3 ∧ K (pc + 3) L (.inl (σ 12 9) :: r) σ) := by
  rw [ex_getfield, ab_o1_s, hM, gt1_6_183_12, ab_op_s]
  rfl
theorem dg1_9_43_3 {M : ab_M} {K : ab_K} {Rt : ab_V → ab_S → Prop} {pc n : Nat} {L : ab_L} {r : List ab_V} {σ : ab_S} (hM : ab_own M = 9) : ab_ex ab_G1 M K Rt pc n L (.inr (.inr (.inl 3)) :: r) σ (.getfield 43) = (n = 3 ∧ K (pc + 3) L (.inl (σ 3 10) :: r) σ) := by
  rw [ex_getfield, ab_o1_s, hM, gt1_9_43_3, ab_op_s]
  rfl
theorem dg1_9_43_12 {M : ab_M} {K : ab_K} {Rt : ab_V → ab_S → Prop} {pc n : Nat} {L : ab_L} {r : List ab_V} {σ : ab_S} (hM : ab_own M = 9) : ab_ex ab_G1 M K Rt pc n L (.inr (.inr (.inl 12)) :: r) σ (.getfield 43) = (n = 3 ∧ K (pc + 3) L (.inl (σ 12 10) :: r) σ) := by
  rw [ex_getfield, ab_o1_s, hM, gt1_9_43_12, ab_op_s]
  rfl
theorem dg1_3_38_3 {M : ab_M} {K : ab_K} {Rt : ab_V → ab_S → Prop} {pc n : Nat} {L : ab_L} {r : List ab_V} {σ : ab_S} (hM : ab_own M = 3) : ab_ex ab_G1 M K Rt pc n L (.inr (.inr (.inl 3)) :: r) σ (.getfield 38) = (n = 3 ∧ K (pc + 3) L (.inl (σ 3 10) :: r) σ) := by
  rw [ex_getfield, ab_o1_s, hM, gt1_3_38_3, ab_op_s]
  rfl
theorem dg1_3_38_12 {M : ab_M} {K : ab_K} {Rt : ab_V → ab_S → Prop} {pc n : Nat} {L : ab_L} {r : List ab_V} {σ : ab_S} (hM : ab_own M = 3) : ab_ex ab_G1 M K Rt pc n L (.inr (.inr (.inl 12)) :: r) σ (.getfield 38) = (n = 3 ∧ K (pc + 3) L (.inl (σ 12 10) :: r) σ) := by
  rw [ex_getfield, ab_o1_s, hM, gt1_3_38_12, ab_op_s]
  rfl
theorem dg1_6_142_3 {M : ab_M} {K : ab_K} {Rt : ab_V → ab_S → Prop} {pc n : Nat} {L : ab_L} {r : List ab_V} {σ : ab_S} (hM : ab_own M = 6) : ab_ex ab_G1 M K Rt pc n L (.inr (.inr (.inl 3)) :: r) σ (.getfield 142) = (n = 3 ∧ K (pc + 3) L (.inl (σ 3 10) :: r) σ) := by
  rw [ex_getfield, ab_o1_s, hM, gt1_6_142_3, ab_op_s]
  rfl
theorem dg1_6_142_12 {M : ab_M} {K : ab_K} {Rt : ab_V → ab_S → Prop} {pc n : Nat} {L : ab_L} {r : List ab_V} {σ : ab_S} (hM : ab_own M = 6) : ab_ex ab_G1 M K Rt pc n L (.inr (.inr (.inl 12)) :: r) σ (.getfield 142) = (n = 3 ∧ K (pc + 3) L (.inl (σ 12 10) :: r) σ) := by
  rw [ex_getfield, ab_o1_s, hM, gt1_6_142_12, ab_op_s]
  rfl
theorem dg1_11_344_3 {M : ab_M} {K : ab_K} {Rt : ab_V → ab_S → Prop} {pc n : Nat} {L : ab_L} {r : List ab_V} {σ : ab_S} (hM : ab_own M = 11) : ab_ex ab_G1 M K Rt pc n L (.inr (.inr (.inl 3)) :: r) σ (.getfield 344) = (n = 3 ∧ K (pc + 3) L (.inl (σ 3 10) :: r) σ) := by
  rw [ex_getfield, ab_o1_s, hM, gt1_11_344_3, ab_op_s]
  rfl
theorem dg1_11_344_12 {M : ab_M} {K : ab_K} {Rt : ab_V → ab_S → Prop} {pc n : Nat} {L : ab_L} {r : List ab_V} {σ : ab_S} (hM : ab_own M = 11) : ab_ex ab_G1 M K Rt pc n L (.inr (.inr (.inl 12)) :: r) σ (.getfield 344) = (n = 3 ∧ K (pc + 3) L (.inl (σ 12 10) :: r) σ) := by
  rw [ex_getfield, ab_o1_s, hM, gt1_11_344_12, ab_op_s]
  rfl
theorem dg1_9_46_3 {M : ab_M} {K : ab_K} {Rt : ab_V → ab_S → Prop} {pc n : Nat} {L : ab_L} {r : List ab_V} {σ : ab_S} (hM : ab_own M = 9) : ab_ex ab_G1 M K Rt pc n L (.inr (.inr (.inl 3)) :: r) σ (.getfield 46) = (n = 3 ∧ K (pc + 3) L (.inl (σ 3 11) :: r) σ) := by
  rw [ex_getfield, ab_o1_s, hM, gt1_9_46_3, ab_op_s]
  rfl
theorem dg1_9_46_12 {M : ab_M} {K : ab_K} {Rt : ab_V → ab_S → Prop} {pc n : Nat} {L : ab_L} {r : List ab_V} {σ : ab_S} (hM : ab_own M = 9) : ab_ex ab_G1 M K Rt pc n L (.inr (.inr (.inl 12)) :: r) σ (.getfield 46) = (n = 3 ∧ K (pc + 3) L (.inl (σ 12 11) :: r) σ) := by
  rw [ex_getfield, ab_o1_s, hM, gt1_9_46_12, ab_op_s]
  rfl
theorem dg1_3_73_3 {M : ab_M} {K : ab_K} {Rt : ab_V → ab_S → Prop} {pc n : Nat} {L : ab_L} {r : List ab_V} {σ : ab_S} (hM : ab_own M = 3) : ab_ex ab_G1 M K Rt pc n L (.inr (.inr (.inl 3)) :: r) σ (.getfield 73) = (n = 3 ∧ K (pc + 3) L (.inl (σ 3 11) :: r) σ) := by
  rw [ex_getfield, ab_o1_s, hM, gt1_3_73_3, ab_op_s]
  rfl
theorem dg1_3_73_12 {M : ab_M} {K : ab_K} {Rt : ab_V → ab_S → Prop} {pc n : Nat} {L : ab_L} {r : List ab_V} {σ : ab_S} (hM : ab_own M = 3) : ab_ex ab_G1 M K Rt pc n L (.inr (.inr (.inl 12)) :: r) σ (.getfield 73) = (n = 3 ∧ K (pc + 3) L (.inl (σ 12 11) :: r) σ) := by
  rw [ex_getfield, ab_o1_s, hM, gt1_3_73_12, ab_op_s]
  rfl
theorem dg1_6_144_3 {M : ab_M} {K : ab_K} {Rt : ab_V → ab_S → Prop} {pc n : Nat} {L : ab_L} {r : List ab_V} {σ : ab_S} (hM : ab_own M = 6) : ab_ex ab_G1 M K Rt pc n L (.inr (.inr (.inl 3)) :: r) σ (.getfield 144) = (n = 3 ∧ K (pc + 3) L (.inl (σ 3 11) :: r) σ) := by
  rw [ex_getfield, ab_o1_s, hM, gt1_6_144_3, ab_op_s]
  rfl
theorem dg1_6_144_12 {M : ab_M} {K : ab_K} {Rt : ab_V → ab_S → Prop} {pc n : Nat} {L : ab_L} {r : List ab_V} {σ : ab_S} (hM : ab_own M = 6) : ab_ex ab_G1 M K Rt pc n L (.inr (.inr (.inl 12)) :: r) σ (.getfield 144) = (n = 3 ∧ K (pc + 3) L (.inl (σ 12 11) :: r) σ) := by
  rw [ex_getfield, ab_o1_s, hM, gt1_6_144_12, ab_op_s]
  rfl
theorem dg1_9_49_3 {M : ab_M} {K : ab_K} {Rt : ab_V → ab_S → Prop} {pc n : Nat} {L : ab_L} {r : List ab_V} {σ : ab_S} (hM : ab_own M = 9) : ab_ex ab_G1 M K Rt pc n L (.inr (.inr (.inl 3)) :: r) σ (.getfield 49) = (n = 3 ∧ K (pc + 3) L (.inl (σ 3 12) :: r) σ) := by
  rw [ex_getfield, ab_o1_s, hM, gt1_9_49_3, ab_op_s]
  rfl
theorem dg1_9_49_12 {M : ab_M} {K : ab_K} {Rt : ab_V → ab_S → Prop} {pc n : Nat} {L : ab_L} {r : List ab_V} {σ : ab_S} (hM : ab_own M = 9) : ab_ex ab_G1 M K Rt pc n L (.inr (.inr (.inl 12)) :: r) σ (.getfield 49) = (n = 3 ∧ K (pc + 3) L (.inl (σ 12 12) :: r) σ) := by
  rw [ex_getfield, ab_o1_s, hM, gt1_9_49_12, ab_op_s]
  rfl
theorem dg1_5_81_3 {M : ab_M} {K : ab_K} {Rt : ab_V → ab_S → Prop} {pc n : Nat} {L : ab_L} {r : List ab_V} {σ : ab_S} (hM : ab_own M = 5) : ab_ex ab_G1 M K Rt pc n L (.inr (.inr (.inl 3)) :: r) σ (.getfield 81) = (n = 3 ∧ K (pc + 3) L (.inl (σ 3 12) :: r) σ) := by
  rw [ex_getfield, ab_o1_s, hM, gt1_5_81_3, ab_op_s]
  rfl
theorem dg1_5_81_12 {M : ab_M} {K : ab_K} {Rt : ab_V → ab_S → Prop} {pc n : Nat} {L : ab_L} {r : List ab_V} {σ : ab_S} (hM : ab_own M = 5) : ab_ex ab_G1 M K Rt pc n L (.inr (.inr (.inl 12)) :: r) σ (.getfield 81) = (n = 3 ∧ K (pc + 3) L (.inl (σ 12 12) :: r) σ) := by
  rw [ex_getfield, ab_o1_s, hM, gt1_5_81_12, ab_op_s]
  rfl
theorem dg1_4_90_3 {M : ab_M} {K : ab_K} {Rt : ab_V → ab_S → Prop} {pc n : Nat} {L : ab_L} {r : List ab_V} {σ : ab_S} (hM : ab_own M = 4) : ab_ex ab_G1 M K Rt pc n L (.inr (.inr (.inl 3)) :: r) σ (.getfield 90) = (n = 3 ∧ K (pc + 3) L (.inl (σ 3 12) :: r) σ) := by
  rw [ex_getfield, ab_o1_s, hM, gt1_4_90_3, ab_op_s]
  rfl
theorem dg1_4_90_12 {M : ab_M} {K : ab_K} {Rt : ab_V → ab_S → Prop} {pc n : Nat} {L : ab_L} {r : List ab_V} {σ : ab_S} (hM : ab_own M = 4) : ab_ex ab_G1 M K Rt pc n L (.inr (.inr (.inl 12)) :: r) σ (.getfield 90) = (n = 3 ∧ K (pc + 3) L (.inl (σ 12 12) :: r) σ) := by
  rw [ex_getfield, ab_o1_s, hM, gt1_4_90_12, ab_op_s]
  rfl
theorem dg1_6_153_3 {M : ab_M} {K : ab_K} {Rt : ab_V → ab_S → Prop} {pc n : Nat} {L : ab_L} {r : List ab_V} {σ : ab_S} (hM : ab_own M = 6) : ab_ex ab_G1 M K Rt pc n L (.inr (.inr (.inl 3)) :: r) σ (.getfield 153) = (n = 3 ∧ K (pc + 3) L (.inl (σ 3 12) :: r) σ) := by
  rw [ex_getfield, ab_o1_s, hM, gt1_6_153_3, ab_op_s]
  rfl
theorem dg1_6_153_12 {M : ab_M} {K : ab_K} {Rt : ab_V → ab_S → Prop} {pc n : Nat} {L : ab_L} {r : List ab_V} {σ : ab_S} (hM : ab_own M = 6) : ab_ex ab_G1 M K Rt pc n L (.inr (.inr (.inl 12)) :: r) σ (.getfield 153) = (n = 3 ∧ K (pc + 3) L (.inl (σ 12 12) :: r) σ) := by
  rw [ex_getfield, ab_o1_s, hM, gt1_6_153_12, ab_op_s]
  rfl
theorem dg1_11_353_3 {M : ab_M} {K : ab_K} {Rt : ab_V → ab_S → Prop} {pc n : Nat} {L : ab_L} {r : List ab_V} {σ : ab_S} (hM : ab_own M = 11) : ab_ex ab_G1 M K Rt pc n L (.inr (.inr (.inl 3)) :: r) σ (.getfield 353) = (n = 3 ∧ K (pc + 3) L (.inl (σ 3 12) :: r) σ) := by
  rw [ex_getfield, ab_o1_s, hM, gt1_11_353_3, ab_op_s]
  rfl
theorem dg1_11_353_12 {M : ab_M} {K : ab_K} {Rt : ab_V → ab_S → Prop} {pc n : Nat} {L : ab_L} {r : List ab_V} {σ : ab_S} (hM : ab_own M = 11) : ab_ex ab_G1 M K Rt pc n L (.inr (.inr (.inl 12)) :: r) σ (.getfield 353) = (n = 3 ∧ K (pc + 3) L (.inl (σ 12 12) :: r) σ) := by
  rw [ex_getfield, ab_o1_s, hM, gt1_11_353_12, ab_op_s]
  rfl
theorem dg1_9_52_3 {M : ab_M} {K : ab_K} {Rt : ab_V → ab_S → Prop} {pc n : Nat} {L : ab_L} {r : List ab_V} {σ : ab_S} (hM : ab_own M = 9) : ab_ex ab_G1 M K Rt pc n L (.inr (.inr (.inl 3)) :: r) σ (.getfield 52) = (n = 3 ∧ K (pc + 3) L (.inl (σ 3 13) :: r) σ) := by
  rw [ex_getfield, ab_o1_s, hM, gt1_9_52_3, ab_op_s]
  rfl
theorem dg1_9_52_12 {M : ab_M} {K : ab_K} {Rt : ab_V → ab_S → Prop} {pc n : Nat} {L : ab_L} {r : List ab_V} {σ : ab_S} (hM : ab_own M = 9) : ab_ex ab_G1 M K Rt pc n L (.inr (.inr (.inl 12)) :: r) σ (.getfield 52) = (n = 3 ∧ K (pc + 3) L (.inl (σ 12 13) :: r) σ) := by
  rw [ex_getfield, ab_o1_s, hM, gt1_9_52_12, ab_op_s]
  rfl
theorem dg1_5_86_3 {M : ab_M} {K : ab_K} {Rt : ab_V → ab_S → Prop} {pc n : Nat} {L : ab_L} {r : List ab_V} {σ : ab_S} (hM : ab_own M = 5) : ab_ex ab_G1 M K Rt pc n L (.inr (.inr (.inl 3)) :: r) σ (.getfield 86) = (n = 3 ∧ K (pc + 3) L (.inl (σ 3 13) :: r) σ) := by
  rw [ex_getfield, ab_o1_s, hM, gt1_5_86_3, ab_op_s]
  rfl
theorem dg1_5_86_12 {M : ab_M} {K : ab_K} {Rt : ab_V → ab_S → Prop} {pc n : Nat} {L : ab_L} {r : List ab_V} {σ : ab_S} (hM : ab_own M = 5) : ab_ex ab_G1 M K Rt pc n L (.inr (.inr (.inl 12)) :: r) σ (.getfield 86) = (n = 3 ∧ K (pc + 3) L (.inl (σ 12 13) :: r) σ) := by
  rw [ex_getfield, ab_o1_s, hM, gt1_5_86_12, ab_op_s]
  rfl
theorem dg1_4_95_3 {M : ab_M} {K : ab_K} {Rt : ab_V → ab_S → Prop} {pc n : Nat} {L : ab_L} {r : List ab_V} {σ : ab_S} (hM : ab_own M = 4) : ab_ex ab_G1 M K Rt pc n L (.inr (.inr (.inl 3)) :: r) σ (.getfield 95) = (n = 3 ∧ K (pc + 3) L (.inl (σ 3 13) :: r) σ) := by
  rw [ex_getfield, ab_o1_s, hM, gt1_4_95_3, ab_op_s]
  rfl
theorem dg1_4_95_12 {M : ab_M} {K : ab_K} {Rt : ab_V → ab_S → Prop} {pc n : Nat} {L : ab_L} {r : List ab_V} {σ : ab_S} (hM : ab_own M = 4) : ab_ex ab_G1 M K Rt pc n L (.inr (.inr (.inl 12)) :: r) σ (.getfield 95) = (n = 3 ∧ K (pc + 3) L (.inl (σ 12 13) :: r) σ) := by
  rw [ex_getfield, ab_o1_s, hM, gt1_4_95_12, ab_op_s]
  rfl
theorem dg1_6_156_3 {M : ab_M} {K : ab_K} {Rt : ab_V → ab_S → Prop} {pc n : Nat} {L : ab_L} {r : List ab_V} {σ : ab_S} (hM : ab_own M = 6) : ab_ex ab_G1 M K Rt pc n L (.inr (.inr (.inl 3)) :: r) σ (.getfield 156) = (n = 3 ∧ K (pc + 3) L (.inl (σ 3 13) :: r) σ) := by
  rw [ex_getfield, ab_o1_s, hM, gt1_6_156_3, ab_op_s]
  rfl
theorem dg1_6_156_12 {M : ab_M} {K : ab_K} {Rt : ab_V → ab_S → Prop} {pc n : Nat} {L : ab_L} {r : List ab_V} {σ : ab_S} (hM : ab_own M = 6) : ab_ex ab_G1 M K Rt pc n L (.inr (.inr (.inl 12)) :: r) σ (.getfield 156) = (n = 3 ∧ K (pc + 3) L (.inl (σ 12 13) :: r) σ) := by
  rw [ex_getfield, ab_o1_s, hM, gt1_6_156_12, ab_op_s]
  rfl
theorem dg1_11_356_3 {M : ab_M} {K : ab_K} {Rt : ab_V → ab_S → Prop} {pc n : Nat} {L : ab_L} {r : List ab_V} {σ : ab_S} (hM : ab_own M = 11) : ab_ex ab_G1 M K Rt pc n L (.inr (.inr (.inl 3)) :: r) σ (.getfield 356) = (n = 3 ∧ K (pc + 3) L (.inl (σ 3 13) :: r) σ) := by
  rw [ex_getfield, ab_o1_s, hM, gt1_11_356_3, ab_op_s]
  rfl
theorem dg1_11_356_12 {M : ab_M} {K : ab_K} {Rt : ab_V → ab_S → Prop} {pc n : Nat} {L : ab_L} {r : List ab_V} {σ : ab_S} (hM : ab_own M = 11) : ab_ex ab_G1 M K Rt pc n L (.inr (.inr (.inl 12)) :: r) σ (.getfield 356) = (n = 3 ∧ K (pc + 3) L (.inl (σ 12 13) :: r) σ) := by
  rw [ex_getfield, ab_o1_s, hM, gt1_11_356_12, ab_op_s]
  rfl
theorem dg1_9_55_3 {M : ab_M} {K : ab_K} {Rt : ab_V → ab_S → Prop} {pc n : Nat} {L : ab_L} {r : List ab_V} {σ : ab_S} (hM : ab_own M = 9) : ab_ex ab_G1 M K Rt pc n L (.inr (.inr (.inl 3)) :: r) σ (.getfield 55) = (n = 3 ∧ K (pc + 3) L (.inl (σ 3 14) :: r) σ) := by
  rw [ex_getfield, ab_o1_s, hM, gt1_9_55_3, ab_op_s]
  rfl
theorem dg1_9_55_12 {M : ab_M} {K : ab_K} {Rt : ab_V → ab_S → Prop} {pc n : Nat} {L : ab_L} {r : List ab_V} {σ : ab_S} (hM : ab_own M = 9) : ab_ex ab_G1 M K Rt pc n L (.inr (.inr (.inl 12)) :: r) σ (.getfield 55) = (n = 3 ∧ K (pc + 3) L (.inl (σ 12 14) :: r) σ) := by
  rw [ex_getfield, ab_o1_s, hM, gt1_9_55_12, ab_op_s]
  rfl
theorem dg1_6_50_3 {M : ab_M} {K : ab_K} {Rt : ab_V → ab_S → Prop} {pc n : Nat} {L : ab_L} {r : List ab_V} {σ : ab_S} (hM : ab_own M = 6) : ab_ex ab_G1 M K Rt pc n L (.inr (.inr (.inl 3)) :: r) σ (.getfield 50) = (n = 3 ∧ K (pc + 3) L (.inl (σ 3 14) :: r) σ) := by
  rw [ex_getfield, ab_o1_s, hM, gt1_6_50_3, ab_op_s]
  rfl
theorem dg1_6_50_12 {M : ab_M} {K : ab_K} {Rt : ab_V → ab_S → Prop} {pc n : Nat} {L : ab_L} {r : List ab_V} {σ : ab_S} (hM : ab_own M = 6) : ab_ex ab_G1 M K Rt pc n L (.inr (.inr (.inl 12)) :: r) σ (.getfield 50) = (n = 3 ∧ K (pc + 3) L (.inl (σ 12 14) :: r) σ) := by
  rw [ex_getfield, ab_o1_s, hM, gt1_6_50_12, ab_op_s]
  rfl
theorem dg1_2_9_21 {M : ab_M} {K : ab_K} {Rt : ab_V → ab_S → Prop} {pc n : Nat} {L : ab_L} {r : List ab_V} {σ : ab_S} (hM : ab_own M = 2) : ab_ex ab_G1 M K Rt pc n L (.inr (.inr (.inl 21)) :: r) σ (.getfield 9) = (n = 3 ∧ K (pc + 3) L (.inr (.inr (.inl 22)) :: r) σ) := by
  rw [ex_getfield, ab_o1_s, hM, gt1_2_9_21, ab_op_s]
  rfl
theorem dg1_7_47_21 {M : ab_M} {K : ab_K} {Rt : ab_V → ab_S → Prop} {pc n : Nat} {L : ab_L} {r : List ab_V} {σ : ab_S} (hM : ab_own M = 7) : ab_ex ab_G1 M K Rt pc n L (.inr (.inr (.inl 21)) :: r) σ (.getfield 47) = (n = 3 ∧ K (pc + 3) L (.inr (.inr (.inl 22)) :: r) σ) := by
  rw [ex_getfield, ab_o1_s, hM, gt1_7_47_21, ab_op_s]
  rfl
theorem dg1_6_201_21 {M : ab_M} {K : ab_K} {Rt : ab_V → ab_S → Prop} {pc n : Nat} {L : ab_L} {r : List ab_V} {σ : ab_S} (hM : ab_own M = 6) : ab_ex ab_G1 M K Rt pc n L (.inr (.inr (.inl 21)) :: r) σ (.getfield 201) = (n = 3 ∧ K (pc + 3) L (.inr (.inr (.inl 22)) :: r) σ) := by
  rw [ex_getfield, ab_o1_s, hM, gt1_6_201_21, ab_op_s]
  rfl
theorem dg1_2_15_21 {M : ab_M} {K : ab_K} {Rt : ab_V → ab_S → Prop} {pc n : Nat} {L : ab_L} {r : List ab_V} {σ : ab_S} (hM : ab_own M = 2) : ab_ex ab_G1 M K Rt pc n L (.inr (.inr (.inl 21)) :: r) σ (.getfield 15) = (n = 3 ∧ K (pc + 3) L (.inr (.inr (.inl 23)) :: r) σ) := by
  rw [ex_getfield, ab_o1_s, hM, gt1_2_15_21, ab_op_s]
  rfl
theorem dg1_7_49_21 {M : ab_M} {K : ab_K} {Rt : ab_V → ab_S → Prop} {pc n : Nat} {L : ab_L} {r : List ab_V} {σ : ab_S} (hM : ab_own M = 7) : ab_ex ab_G1 M K Rt pc n L (.inr (.inr (.inl 21)) :: r) σ (.getfield 49) = (n = 3 ∧ K (pc + 3) L (.inr (.inr (.inl 23)) :: r) σ) := by
  rw [ex_getfield, ab_o1_s, hM, gt1_7_49_21, ab_op_s]
  rfl
theorem dg1_6_206_21 {M : ab_M} {K : ab_K} {Rt : ab_V → ab_S → Prop} {pc n : Nat} {L : ab_L} {r : List ab_V} {σ : ab_S} (hM : ab_own M = 6) : ab_ex ab_G1 M K Rt pc n L (.inr (.inr (.inl 21)) :: r) σ (.getfield 206) = (n = 3 ∧ K (pc + 3) L (.inr (.inr (.inl 23)) :: r) σ) := by
  rw [ex_getfield, ab_o1_s, hM, gt1_6_206_21, ab_op_s]
  rfl
theorem dg1_2_18_21 {M : ab_M} {K : ab_K} {Rt : ab_V → ab_S → Prop} {pc n : Nat} {L : ab_L} {r : List ab_V} {σ : ab_S} (hM : ab_own M = 2) : ab_ex ab_G1 M K Rt pc n L (.inr (.inr (.inl 21)) :: r) σ (.getfield 18) = (n = 3 ∧ K (pc + 3) L (.inr (.inr (.inl 24)) :: r) σ) := by
  rw [ex_getfield, ab_o1_s, hM, gt1_2_18_21, ab_op_s]
  rfl
theorem dg1_7_65_21 {M : ab_M} {K : ab_K} {Rt : ab_V → ab_S → Prop} {pc n : Nat} {L : ab_L} {r : List ab_V} {σ : ab_S} (hM : ab_own M = 7) : ab_ex ab_G1 M K Rt pc n L (.inr (.inr (.inl 21)) :: r) σ (.getfield 65) = (n = 3 ∧ K (pc + 3) L (.inr (.inr (.inl 24)) :: r) σ) := by
  rw [ex_getfield, ab_o1_s, hM, gt1_7_65_21, ab_op_s]
  rfl
theorem dg1_2_21_21 {M : ab_M} {K : ab_K} {Rt : ab_V → ab_S → Prop} {pc n : Nat} {L : ab_L} {r : List ab_V} {σ : ab_S} (hM : ab_own M = 2) : ab_ex ab_G1 M K Rt pc n L (.inr (.inr (.inl 21)) :: r) σ (.getfield 21) = (n = 3 ∧ K (pc + 3) L (.inr (.inr (.inl 25)) :: r) σ) := by
  rw [ex_getfield, ab_o1_s, hM, gt1_2_21_21, ab_op_s]
  rfl
theorem dg1_7_71_21 {M : ab_M} {K : ab_K} {Rt : ab_V → ab_S → Prop} {pc n : Nat} {L : ab_L} {r : List ab_V} {σ : ab_S} (hM : ab_own M = 7) : ab_ex ab_G1 M K Rt pc n L (.inr (.inr (.inl 21)) :: r) σ (.getfield 71) = (n = 3 ∧ K (pc + 3) L (.inr (.inr (.inl 25)) :: r) σ) := by
  rw [ex_getfield, ab_o1_s, hM, gt1_7_71_21, ab_op_s]
  rfl
theorem dg1_2_24_21 {M : ab_M} {K : ab_K} {Rt : ab_V → ab_S → Prop} {pc n : Nat} {L : ab_L} {r : List ab_V} {σ : ab_S} (hM : ab_own M = 2) : ab_ex ab_G1 M K Rt pc n L (.inr (.inr (.inl 21)) :: r) σ (.getfield 24) = (n = 3 ∧ K (pc + 3) L (.inr (.inr (.inl 26)) :: r) σ) := by
  rw [ex_getfield, ab_o1_s, hM, gt1_2_24_21, ab_op_s]
  rfl
theorem dg1_7_74_21 {M : ab_M} {K : ab_K} {Rt : ab_V → ab_S → Prop} {pc n : Nat} {L : ab_L} {r : List ab_V} {σ : ab_S} (hM : ab_own M = 7) : ab_ex ab_G1 M K Rt pc n L (.inr (.inr (.inl 21)) :: r) σ (.getfield 74) = (n = 3 ∧ K (pc + 3) L (.inr (.inr (.inl 26)) :: r) σ) := by
  rw [ex_getfield, ab_o1_s, hM, gt1_7_74_21, ab_op_s]
  rfl
theorem dg1_2_27_21 {M : ab_M} {K : ab_K} {Rt : ab_V → ab_S → Prop} {pc n : Nat} {L : ab_L} {r : List ab_V} {σ : ab_S} (hM : ab_own M = 2) : ab_ex ab_G1 M K Rt pc n L (.inr (.inr (.inl 21)) :: r) σ (.getfield 27) = (n = 3 ∧ K (pc + 3) L (.inr (.inr (.inl 27)) :: r) σ) := by
  rw [ex_getfield, ab_o1_s, hM, gt1_2_27_21, ab_op_s]
  rfl
theorem dg1_7_68_21 {M : ab_M} {K : ab_K} {Rt : ab_V → ab_S → Prop} {pc n : Nat} {L : ab_L} {r : List ab_V} {σ : ab_S} (hM : ab_own M = 7) : ab_ex ab_G1 M K Rt pc n L (.inr (.inr (.inl 21)) :: r) σ (.getfield 68) = (n = 3 ∧ K (pc + 3) L (.inr (.inr (.inl 27)) :: r) σ) := by
  rw [ex_getfield, ab_o1_s, hM, gt1_7_68_21, ab_op_s]
  rfl
theorem dg1_2_30_21 {M : ab_M} {K : ab_K} {Rt : ab_V → ab_S → Prop} {pc n : Nat} {L : ab_L} {r : List ab_V} {σ : ab_S} (hM : ab_own M = 2) : ab_ex ab_G1 M K Rt pc n L (.inr (.inr (.inl 21)) :: r) σ (.getfield 30) = (n = 3 ∧ K (pc + 3) L (.inl (σ 21 6) :: r) σ) := by
  rw [ex_getfield, ab_o1_s, hM, gt1_2_30_21, ab_op_s]
  rfl
theorem dg1_7_42_21 {M : ab_M} {K : ab_K} {Rt : ab_V → ab_S → Prop} {pc n : Nat} {L : ab_L} {r : List ab_V} {σ : ab_S} (hM : ab_own M = 7) : ab_ex ab_G1 M K Rt pc n L (.inr (.inr (.inl 21)) :: r) σ (.getfield 42) = (n = 3 ∧ K (pc + 3) L (.inl (σ 21 6) :: r) σ) := by
  rw [ex_getfield, ab_o1_s, hM, gt1_7_42_21, ab_op_s]
  rfl
theorem dg1_11_131_21 {M : ab_M} {K : ab_K} {Rt : ab_V → ab_S → Prop} {pc n : Nat} {L : ab_L} {r : List ab_V} {σ : ab_S} (hM : ab_own M = 11) : ab_ex ab_G1 M K Rt pc n L (.inr (.inr (.inl 21)) :: r) σ (.getfield 131) = (n = 3 ∧ K (pc + 3) L (.inl (σ 21 6) :: r) σ) := by
  rw [ex_getfield, ab_o1_s, hM, gt1_11_131_21, ab_op_s]
  rfl
theorem dg1_1_153_21 {M : ab_M} {K : ab_K} {Rt : ab_V → ab_S → Prop} {pc n : Nat} {L : ab_L} {r : List ab_V} {σ : ab_S} (hM : ab_own M = 1) : ab_ex ab_G1 M K Rt pc n L (.inr (.inr (.inl 21)) :: r) σ (.getfield 153) = (n = 3 ∧ K (pc + 3) L (.inl (σ 21 6) :: r) σ) := by
  rw [ex_getfield, ab_o1_s, hM, gt1_1_153_21, ab_op_s]
  rfl
theorem dg1_6_203_21 {M : ab_M} {K : ab_K} {Rt : ab_V → ab_S → Prop} {pc n : Nat} {L : ab_L} {r : List ab_V} {σ : ab_S} (hM : ab_own M = 6) : ab_ex ab_G1 M K Rt pc n L (.inr (.inr (.inl 21)) :: r) σ (.getfield 203) = (n = 3 ∧ K (pc + 3) L (.inl (σ 21 6) :: r) σ) := by
  rw [ex_getfield, ab_o1_s, hM, gt1_6_203_21, ab_op_s]
  rfl
theorem dg1_7_38_28 {M : ab_M} {K : ab_K} {Rt : ab_V → ab_S → Prop} {pc n : Nat} {L : ab_L} {r : List ab_V} {σ : ab_S} (hM : ab_own M = 7) : ab_ex ab_G1 M K Rt pc n L (.inr (.inr (.inl 28)) :: r) σ (.getfield 38) = (n = 3 ∧ K (pc + 3) L (.inr (.inr (.inl 3)) :: r) σ) := by
  rw [ex_getfield, ab_o1_s, hM, gt1_7_38_28, ab_op_s]
  rfl
theorem dg1_7_9_28 {M : ab_M} {K : ab_K} {Rt : ab_V → ab_S → Prop} {pc n : Nat} {L : ab_L} {r : List ab_V} {σ : ab_S} (hM : ab_own M = 7) : ab_ex ab_G1 M K Rt pc n L (.inr (.inr (.inl 28)) :: r) σ (.getfield 9) = (n = 3 ∧ K (pc + 3) L (.inr (.inr (.inl 29)) :: r) σ) := by
  rw [ex_getfield, ab_o1_s, hM, gt1_7_9_28, ab_op_s]
  rfl
theorem dg1_7_15_28 {M : ab_M} {K : ab_K} {Rt : ab_V → ab_S → Prop} {pc n : Nat} {L : ab_L} {r : List ab_V} {σ : ab_S} (hM : ab_own M = 7) : ab_ex ab_G1 M K Rt pc n L (.inr (.inr (.inl 28)) :: r) σ (.getfield 15) = (n = 3 ∧ K (pc + 3) L (.inr (.inr (.inl 30)) :: r) σ) := by
  rw [ex_getfield, ab_o1_s, hM, gt1_7_15_28, ab_op_s]
  rfl
theorem dg1_4_115_28 {M : ab_M} {K : ab_K} {Rt : ab_V → ab_S → Prop} {pc n : Nat} {L : ab_L} {r : List ab_V} {σ : ab_S} (hM : ab_own M = 4) : ab_ex ab_G1 M K Rt pc n L (.inr (.inr (.inl 28)) :: r) σ (.getfield 115) = (n = 3 ∧ K (pc + 3) L (.inr (.inr (.inl 30)) :: r) σ) := by
  rw [ex_getfield, ab_o1_s, hM, gt1_4_115_28, ab_op_s]
  rfl
theorem dg1_8_72_28 {M : ab_M} {K : ab_K} {Rt : ab_V → ab_S → Prop} {pc n : Nat} {L : ab_L} {r : List ab_V} {σ : ab_S} (hM : ab_own M = 8) : ab_ex ab_G1 M K Rt pc n L (.inr (.inr (.inl 28)) :: r) σ (.getfield 72) = (n = 3 ∧ K (pc + 3) L (.inr (.inr (.inl 30)) :: r) σ) := by
  rw [ex_getfield, ab_o1_s, hM, gt1_8_72_28, ab_op_s]
  rfl
theorem dg1_7_19_28 {M : ab_M} {K : ab_K} {Rt : ab_V → ab_S → Prop} {pc n : Nat} {L : ab_L} {r : List ab_V} {σ : ab_S} (hM : ab_own M = 7) : ab_ex ab_G1 M K Rt pc n L (.inr (.inr (.inl 28)) :: r) σ (.getfield 19) = (n = 3 ∧ K (pc + 3) L (.inr (.inr (.inl 31)) :: r) σ) := by
  rw [ex_getfield, ab_o1_s, hM, gt1_7_19_28, ab_op_s]
  rfl
theorem dg1_7_22_28 {M : ab_M} {K : ab_K} {Rt : ab_V → ab_S → Prop} {pc n : Nat} {L : ab_L} {r : List ab_V} {σ : ab_S} (hM : ab_own M = 7) : ab_ex ab_G1 M K Rt pc n L (.inr (.inr (.inl 28)) :: r) σ (.getfield 22) = (n = 3 ∧ K (pc + 3) L (.inr (.inr (.inl 32)) :: r) σ) := by
  rw [ex_getfield, ab_o1_s, hM, gt1_7_22_28, ab_op_s]
  rfl
theorem dg1_7_25_28 {M : ab_M} {K : ab_K} {Rt : ab_V → ab_S → Prop} {pc n : Nat} {L : ab_L} {r : List ab_V} {σ : ab_S} (hM : ab_own M = 7) : ab_ex ab_G1 M K Rt pc n L (.inr (.inr (.inl 28)) :: r) σ (.getfield 25) = (n = 3 ∧ K (pc + 3) L (.inr (.inr (.inl 33)) :: r) σ) := by
  rw [ex_getfield, ab_o1_s, hM, gt1_7_25_28, ab_op_s]
  rfl
theorem dg1_7_28_28 {M : ab_M} {K : ab_K} {Rt : ab_V → ab_S → Prop} {pc n : Nat} {L : ab_L} {r : List ab_V} {σ : ab_S} (hM : ab_own M = 7) : ab_ex ab_G1 M K Rt pc n L (.inr (.inr (.inl 28)) :: r) σ (.getfield 28) = (n = 3 ∧ K (pc + 3) L (.inl (σ 28 6) :: r) σ) := by
  rw [ex_getfield, ab_o1_s, hM, gt1_7_28_28, ab_op_s]
  rfl
theorem dg1_7_32_28 {M : ab_M} {K : ab_K} {Rt : ab_V → ab_S → Prop} {pc n : Nat} {L : ab_L} {r : List ab_V} {σ : ab_S} (hM : ab_own M = 7) : ab_ex ab_G1 M K Rt pc n L (.inr (.inr (.inl 28)) :: r) σ (.getfield 32) = (n = 3 ∧ K (pc + 3) L (.inl (σ 28 7) :: r) σ) := by
  rw [ex_getfield, ab_o1_s, hM, gt1_7_32_28, ab_op_s]
  rfl
theorem dg1_3_104_28 {M : ab_M} {K : ab_K} {Rt : ab_V → ab_S → Prop} {pc n : Nat} {L : ab_L} {r : List ab_V} {σ : ab_S} (hM : ab_own M = 3) : ab_ex ab_G1 M K Rt pc n L (.inr (.inr (.inl 28)) :: r) σ (.getfield 104) = (n = 3 ∧ K (pc + 3) L (.inl (σ 28 7) :: r) σ) := by
  rw [ex_getfield, ab_o1_s, hM, gt1_3_104_28, ab_op_s]
  rfl
theorem dg1_7_35_28 {M : ab_M} {K : ab_K} {Rt : ab_V → ab_S → Prop} {pc n : Nat} {L : ab_L} {r : List ab_V} {σ : ab_S} (hM : ab_own M = 7) : ab_ex ab_G1 M K Rt pc n L (.inr (.inr (.inl 28)) :: r) σ (.getfield 35) = (n = 3 ∧ K (pc + 3) L (.inl (σ 28 8) :: r) σ) := by
  rw [ex_getfield, ab_o1_s, hM, gt1_7_35_28, ab_op_s]
  rfl
theorem dg1_3_60_28 {M : ab_M} {K : ab_K} {Rt : ab_V → ab_S → Prop} {pc n : Nat} {L : ab_L} {r : List ab_V} {σ : ab_S} (hM : ab_own M = 3) : ab_ex ab_G1 M K Rt pc n L (.inr (.inr (.inl 28)) :: r) σ (.getfield 60) = (n = 3 ∧ K (pc + 3) L (.inl (σ 28 8) :: r) σ) := by
  rw [ex_getfield, ab_o1_s, hM, gt1_3_60_28, ab_op_s]
  rfl
theorem dg1_5_76_28 {M : ab_M} {K : ab_K} {Rt : ab_V → ab_S → Prop} {pc n : Nat} {L : ab_L} {r : List ab_V} {σ : ab_S} (hM : ab_own M = 5) : ab_ex ab_G1 M K Rt pc n L (.inr (.inr (.inl 28)) :: r) σ (.getfield 76) = (n = 3 ∧ K (pc + 3) L (.inl (σ 28 8) :: r) σ) := by
  rw [ex_getfield, ab_o1_s, hM, gt1_5_76_28, ab_op_s]
  rfl
theorem dg1_4_82_28 {M : ab_M} {K : ab_K} {Rt : ab_V → ab_S → Prop} {pc n : Nat} {L : ab_L} {r : List ab_V} {σ : ab_S} (hM : ab_own M = 4) : ab_ex ab_G1 M K Rt pc n L (.inr (.inr (.inl 28)) :: r) σ (.getfield 82) = (n = 3 ∧ K (pc + 3) L (.inl (σ 28 8) :: r) σ) := by
  rw [ex_getfield, ab_o1_s, hM, gt1_4_82_28, ab_op_s]
  rfl
theorem dg1_11_205_28 {M : ab_M} {K : ab_K} {Rt : ab_V → ab_S → Prop} {pc n : Nat} {L : ab_L} {r : List ab_V} {σ : ab_S} (hM : ab_own M = 11) : ab_ex ab_G1 M K Rt pc n L (.inr (.inr (.inl 28)) :: r) σ (.getfield 205) = (n = 3 ∧ K (pc + 3) L (.inl (σ 28 8) :: r) σ) := by
  rw [ex_getfield, ab_o1_s, hM, gt1_11_205_28, ab_op_s]
  rfl
theorem dg1_0_9_34 {M : ab_M} {K : ab_K} {Rt : ab_V → ab_S → Prop} {pc n : Nat} {L : ab_L} {r : List ab_V} {σ : ab_S} (hM : ab_own M = 0) : ab_ex ab_G1 M K Rt pc n L (.inr (.inr (.inl 34)) :: r) σ (.getfield 9) = (n = 3 ∧ K (pc + 3) L (.inr (.inr (.inl 35)) :: r) σ) := by
  rw [ex_getfield, ab_o1_s, hM, gt1_0_9_34, ab_op_s]
  rfl
theorem dg1_0_9_41 {M : ab_M} {K : ab_K} {Rt : ab_V → ab_S → Prop} {pc n : Nat} {L : ab_L} {r : List ab_V} {σ : ab_S} (hM : ab_own M = 0) : ab_ex ab_G1 M K Rt pc n L (.inr (.inr (.inl 41)) :: r) σ (.getfield 9) = (n = 3 ∧ K (pc + 3) L (.inr (.inr (.inl 42)) :: r) σ) := by
  rw [ex_getfield, ab_o1_s, hM, gt1_0_9_41, ab_op_s]
  rfl
theorem dg1_0_9_47 {M : ab_M} {K : ab_K} {Rt : ab_V → ab_S → Prop} {pc n : Nat} {L : ab_L} {r : List ab_V} {σ : ab_S} (hM : ab_own M = 0) : ab_ex ab_G1 M K Rt pc n L (.inr (.inr (.inl 47)) :: r) σ (.getfield 9) = (n = 3 ∧ K (pc + 3) L (.inr (.inr (.inl 48)) :: r) σ) := by
  rw [ex_getfield, ab_o1_s, hM, gt1_0_9_47, ab_op_s]
  rfl
theorem dg1_0_9_53 {M : ab_M} {K : ab_K} {Rt : ab_V → ab_S → Prop} {pc n : Nat} {L : ab_L} {r : List ab_V} {σ : ab_S} (hM : ab_own M = 0) : ab_ex ab_G1 M K Rt pc n L (.inr (.inr (.inl 53)) :: r) σ (.getfield 9) = (n = 3 ∧ K (pc + 3) L (.inr (.inr (.inl 54)) :: r) σ) := by
  rw [ex_getfield, ab_o1_s, hM, gt1_0_9_53, ab_op_s]
  rfl
theorem dg1_0_9_59 {M : ab_M} {K : ab_K} {Rt : ab_V → ab_S → Prop} {pc n : Nat} {L : ab_L} {r : List ab_V} {σ : ab_S} (hM : ab_own M = 0) : ab_ex ab_G1 M K Rt pc n L (.inr (.inr (.inl 59)) :: r) σ (.getfield 9) = (n = 3 ∧ K (pc + 3) L (.inr (.inr (.inl 60)) :: r) σ) := by
  rw [ex_getfield, ab_o1_s, hM, gt1_0_9_59, ab_op_s]
  rfl
theorem dg1_3_46_34 {M : ab_M} {K : ab_K} {Rt : ab_V → ab_S → Prop} {pc n : Nat} {L : ab_L} {r : List ab_V} {σ : ab_S} (hM : ab_own M = 3) : ab_ex ab_G1 M K Rt pc n L (.inr (.inr (.inl 34)) :: r) σ (.getfield 46) = (n = 3 ∧ K (pc + 3) L (.inr (.inr (.inl 35)) :: r) σ) := by
  rw [ex_getfield, ab_o1_s, hM, gt1_3_46_34, ab_op_s]
  rfl
theorem dg1_3_46_41 {M : ab_M} {K : ab_K} {Rt : ab_V → ab_S → Prop} {pc n : Nat} {L : ab_L} {r : List ab_V} {σ : ab_S} (hM : ab_own M = 3) : ab_ex ab_G1 M K Rt pc n L (.inr (.inr (.inl 41)) :: r) σ (.getfield 46) = (n = 3 ∧ K (pc + 3) L (.inr (.inr (.inl 42)) :: r) σ) := by
  rw [ex_getfield, ab_o1_s, hM, gt1_3_46_41, ab_op_s]
  rfl
theorem dg1_3_46_47 {M : ab_M} {K : ab_K} {Rt : ab_V → ab_S → Prop} {pc n : Nat} {L : ab_L} {r : List ab_V} {σ : ab_S} (hM : ab_own M = 3) : ab_ex ab_G1 M K Rt pc n L (.inr (.inr (.inl 47)) :: r) σ (.getfield 46) = (n = 3 ∧ K (pc + 3) L (.inr (.inr (.inl 48)) :: r) σ) := by
  rw [ex_getfield, ab_o1_s, hM, gt1_3_46_47, ab_op_s]
  rfl
theorem dg1_3_46_53 {M : ab_M} {K : ab_K} {Rt : ab_V → ab_S → Prop} {pc n : Nat} {L : ab_L} {r : List ab_V} {σ : ab_S} (hM : ab_own M = 3) : ab_ex ab_G1 M K Rt pc n L (.inr (.inr (.inl 53)) :: r) σ (.getfield 46) = (n = 3 ∧ K (pc + 3) L (.inr (.inr (.inl 54)) :: r) σ) := by
  rw [ex_getfield, ab_o1_s, hM, gt1_3_46_53, ab_op_s]
  rfl
theorem dg1_3_46_59 {M : ab_M} {K : ab_K} {Rt : ab_V → ab_S → Prop} {pc n : Nat} {L : ab_L} {r : List ab_V} {σ : ab_S} (hM : ab_own M = 3) : ab_ex ab_G1 M K Rt pc n L (.inr (.inr (.inl 59)) :: r) σ (.getfield 46) = (n = 3 ∧ K (pc + 3) L (.inr (.inr (.inl 60)) :: r) σ) := by
  rw [ex_getfield, ab_o1_s, hM, gt1_3_46_59, ab_op_s]
  rfl
theorem dg1_10_67_34 {M : ab_M} {K : ab_K} {Rt : ab_V → ab_S → Prop} {pc n : Nat} {L : ab_L} {r : List ab_V} {σ : ab_S} (hM : ab_own M = 10) : ab_ex ab_G1 M K Rt pc n L (.inr (.inr (.inl 34)) :: r) σ (.getfield 67) = (n = 3 ∧ K (pc + 3) L (.inr (.inr (.inl 35)) :: r) σ) := by
  rw [ex_getfield, ab_o1_s, hM, gt1_10_67_34, ab_op_s]
  rfl
theorem dg1_10_67_41 {M : ab_M} {K : ab_K} {Rt : ab_V → ab_S → Prop} {pc n : Nat} {L : ab_L} {r : List ab_V} {σ : ab_S} (hM : ab_own M = 10) : ab_ex ab_G1 M K Rt pc n L (.inr (.inr (.inl 41)) :: r) σ (.getfield 67) = (n = 3 ∧ K (pc + 3) L (.inr (.inr (.inl 42)) :: r) σ) := by
  rw [ex_getfield, ab_o1_s, hM, gt1_10_67_41, ab_op_s]
  rfl
theorem dg1_10_67_47 {M : ab_M} {K : ab_K} {Rt : ab_V → ab_S → Prop} {pc n : Nat} {L : ab_L} {r : List ab_V} {σ : ab_S} (hM : ab_own M = 10) : ab_ex ab_G1 M K Rt pc n L (.inr (.inr (.inl 47)) :: r) σ (.getfield 67) = (n = 3 ∧ K (pc + 3) L (.inr (.inr (.inl 48)) :: r) σ) := by
  rw [ex_getfield, ab_o1_s, hM, gt1_10_67_47, ab_op_s]
  rfl
theorem dg1_10_67_53 {M : ab_M} {K : ab_K} {Rt : ab_V → ab_S → Prop} {pc n : Nat} {L : ab_L} {r : List ab_V} {σ : ab_S} (hM : ab_own M = 10) : ab_ex ab_G1 M K Rt pc n L (.inr (.inr (.inl 53)) :: r) σ (.getfield 67) = (n = 3 ∧ K (pc + 3) L (.inr (.inr (.inl 54)) :: r) σ) := by
  rw [ex_getfield, ab_o1_s, hM, gt1_10_67_53, ab_op_s]
  rfl
theorem dg1_10_67_59 {M : ab_M} {K : ab_K} {Rt : ab_V → ab_S → Prop} {pc n : Nat} {L : ab_L} {r : List ab_V} {σ : ab_S} (hM : ab_own M = 10) : ab_ex ab_G1 M K Rt pc n L (.inr (.inr (.inl 59)) :: r) σ (.getfield 67) = (n = 3 ∧ K (pc + 3) L (.inr (.inr (.inl 60)) :: r) σ) := by
  rw [ex_getfield, ab_o1_s, hM, gt1_10_67_59, ab_op_s]
  rfl
theorem dg1_11_187_34 {M : ab_M} {K : ab_K} {Rt : ab_V → ab_S → Prop} {pc n : Nat} {L : ab_L} {r : List ab_V} {σ : ab_S} (hM : ab_own M = 11) : ab_ex ab_G1 M K Rt pc n L (.inr (.inr (.inl 34)) :: r) σ (.getfield 187) = (n = 3 ∧ K (pc + 3) L (.inr (.inr (.inl 35)) :: r) σ) := by
  rw [ex_getfield, ab_o1_s, hM, gt1_11_187_34, ab_op_s]
  rfl
theorem dg1_11_187_41 {M : ab_M} {K : ab_K} {Rt : ab_V → ab_S → Prop} {pc n : Nat} {L : ab_L} {r : List ab_V} {σ : ab_S} (hM : ab_own M = 11) : ab_ex ab_G1 M K Rt pc n L (.inr (.inr (.inl 41)) :: r) σ (.getfield 187) = (n = 3 ∧ K (pc + 3) L (.inr (.inr (.inl 42)) :: r) σ) := by
  rw [ex_getfield, ab_o1_s, hM, gt1_11_187_41, ab_op_s]
  rfl
theorem dg1_11_187_47 {M : ab_M} {K : ab_K} {Rt : ab_V → ab_S → Prop} {pc n : Nat} {L : ab_L} {r : List ab_V} {σ : ab_S} (hM : ab_own M = 11) : ab_ex ab_G1 M K Rt pc n L (.inr (.inr (.inl 47)) :: r) σ (.getfield 187) = (n = 3 ∧ K (pc + 3) L (.inr (.inr (.inl 48)) :: r) σ) := by
  rw [ex_getfield, ab_o1_s, hM, gt1_11_187_47, ab_op_s]
  rfl
theorem dg1_11_187_53 {M : ab_M} {K : ab_K} {Rt : ab_V → ab_S → Prop} {pc n : Nat} {L : ab_L} {r : List ab_V} {σ : ab_S} (hM : ab_own M = 11) : ab_ex ab_G1 M K Rt pc n L (.inr (.inr (.inl 53)) :: r) σ (.getfield 187) = (n = 3 ∧ K (pc + 3) L (.inr (.inr (.inl 54)) :: r) σ) := by
  rw [ex_getfield, ab_o1_s, hM, gt1_11_187_53, ab_op_s]
  rfl
theorem dg1_11_187_59 {M : ab_M} {K : ab_K} {Rt : ab_V → ab_S → Prop} {pc n : Nat} {L : ab_L} {r : List ab_V} {σ : ab_S} (hM : ab_own M = 11) : ab_ex ab_G1 M K Rt pc n L (.inr (.inr (.inl 59)) :: r) σ (.getfield 187) = (n = 3 ∧ K (pc + 3) L (.inr (.inr (.inl 60)) :: r) σ) := by
  rw [ex_getfield, ab_o1_s, hM, gt1_11_187_59, ab_op_s]
  rfl
theorem dg1_0_15_34 {M : ab_M} {K : ab_K} {Rt : ab_V → ab_S → Prop} {pc n : Nat} {L : ab_L} {r : List ab_V} {σ : ab_S} (hM : ab_own M = 0) : ab_ex ab_G1 M K Rt pc n L (.inr (.inr (.inl 34)) :: r) σ (.getfield 15) = (n = 3 ∧ K (pc + 3) L (.inr (.inr (.inl 36)) :: r) σ) := by
  rw [ex_getfield, ab_o1_s, hM, gt1_0_15_34, ab_op_s]
  rfl
theorem dg1_0_15_41 {M : ab_M} {K : ab_K} {Rt : ab_V → ab_S → Prop} {pc n : Nat} {L : ab_L} {r : List ab_V} {σ : ab_S} (hM : ab_own M = 0) : ab_ex ab_G1 M K Rt pc n L (.inr (.inr (.inl 41)) :: r) σ (.getfield 15) = (n = 3 ∧ K (pc + 3) L (.inr (.inr (.inl 43)) :: r) σ) := by
  rw [ex_getfield, ab_o1_s, hM, gt1_0_15_41, ab_op_s]
  rfl
theorem dg1_0_15_47 {M : ab_M} {K : ab_K} {Rt : ab_V → ab_S → Prop} {pc n : Nat} {L : ab_L} {r : List ab_V} {σ : ab_S} (hM : ab_own M = 0) : ab_ex ab_G1 M K Rt pc n L (.inr (.inr (.inl 47)) :: r) σ (.getfield 15) = (n = 3 ∧ K (pc + 3) L (.inr (.inr (.inl 49)) :: r) σ) := by
  rw [ex_getfield, ab_o1_s, hM, gt1_0_15_47, ab_op_s]
  rfl
theorem dg1_0_15_53 {M : ab_M} {K : ab_K} {Rt : ab_V → ab_S → Prop} {pc n : Nat} {L : ab_L} {r : List ab_V} {σ : ab_S} (hM : ab_own M = 0) : ab_ex ab_G1 M K Rt pc n L (.inr (.inr (.inl 53)) :: r) σ (.getfield 15) = (n = 3 ∧ K (pc + 3) L (.inr (.inr (.inl 55)) :: r) σ) := by
  rw [ex_getfield, ab_o1_s, hM, gt1_0_15_53, ab_op_s]
  rfl
theorem dg1_0_15_59 {M : ab_M} {K : ab_K} {Rt : ab_V → ab_S → Prop} {pc n : Nat} {L : ab_L} {r : List ab_V} {σ : ab_S} (hM : ab_own M = 0) : ab_ex ab_G1 M K Rt pc n L (.inr (.inr (.inl 59)) :: r) σ (.getfield 15) = (n = 3 ∧ K (pc + 3) L (.inr (.inr (.inl 61)) :: r) σ) := by
  rw [ex_getfield, ab_o1_s, hM, gt1_0_15_59, ab_op_s]
  rfl
theorem dg1_3_64_34 {M : ab_M} {K : ab_K} {Rt : ab_V → ab_S → Prop} {pc n : Nat} {L : ab_L} {r : List ab_V} {σ : ab_S} (hM : ab_own M = 3) : ab_ex ab_G1 M K Rt pc n L (.inr (.inr (.inl 34)) :: r) σ (.getfield 64) = (n = 3 ∧ K (pc + 3) L (.inr (.inr (.inl 36)) :: r) σ) := by
  rw [ex_getfield, ab_o1_s, hM, gt1_3_64_34, ab_op_s]
  rfl
theorem dg1_3_64_41 {M : ab_M} {K : ab_K} {Rt : ab_V → ab_S → Prop} {pc n : Nat} {L : ab_L} {r : List ab_V} {σ : ab_S} (hM : ab_own M = 3) : ab_ex ab_G1 M K Rt pc n L (.inr (.inr (.inl 41)) :: r) σ (.getfield 64) = (n = 3 ∧ K (pc + 3) L (.inr (.inr (.inl 43)) :: r) σ) := by
  rw [ex_getfield, ab_o1_s, hM, gt1_3_64_41, ab_op_s]
  rfl
theorem dg1_3_64_47 {M : ab_M} {K : ab_K} {Rt : ab_V → ab_S → Prop} {pc n : Nat} {L : ab_L} {r : List ab_V} {σ : ab_S} (hM : ab_own M = 3) : ab_ex ab_G1 M K Rt pc n L (.inr (.inr (.inl 47)) :: r) σ (.getfield 64) = (n = 3 ∧ K (pc + 3) L (.inr (.inr (.inl 49)) :: r) σ) := by
  rw [ex_getfield, ab_o1_s, hM, gt1_3_64_47, ab_op_s]
  rfl
theorem dg1_3_64_53 {M : ab_M} {K : ab_K} {Rt : ab_V → ab_S → Prop} {pc n : Nat} {L : ab_L} {r : List ab_V} {σ : ab_S} (hM : ab_own M = 3) : ab_ex ab_G1 M K Rt pc n L (.inr (.inr (.inl 53)) :: r) σ (.getfield 64) = (n = 3 ∧ K (pc + 3) L (.inr (.inr (.inl 55)) :: r) σ) := by
  rw [ex_getfield, ab_o1_s, hM, gt1_3_64_53, ab_op_s]
  rfl
theorem dg1_3_64_59 {M : ab_M} {K : ab_K} {Rt : ab_V → ab_S → Prop} {pc n : Nat} {L : ab_L} {r : List ab_V} {σ : ab_S} (hM : ab_own M = 3) : ab_ex ab_G1 M K Rt pc n L (.inr (.inr (.inl 59)) :: r) σ (.getfield 64) = (n = 3 ∧ K (pc + 3) L (.inr (.inr (.inl 61)) :: r) σ) := by
  rw [ex_getfield, ab_o1_s, hM, gt1_3_64_59, ab_op_s]
  rfl
theorem dg1_11_190_34 {M : ab_M} {K : ab_K} {Rt : ab_V → ab_S → Prop} {pc n : Nat} {L : ab_L} {r : List ab_V} {σ : ab_S} (hM : ab_own M = 11) : ab_ex ab_G1 M K Rt pc n L (.inr (.inr (.inl 34)) :: r) σ (.getfield 190) = (n = 3 ∧ K (pc + 3) L (.inr (.inr (.inl 36)) :: r) σ) := by
  rw [ex_getfield, ab_o1_s, hM, gt1_11_190_34, ab_op_s]
  rfl
theorem dg1_11_190_41 {M : ab_M} {K : ab_K} {Rt : ab_V → ab_S → Prop} {pc n : Nat} {L : ab_L} {r : List ab_V} {σ : ab_S} (hM : ab_own M = 11) : ab_ex ab_G1 M K Rt pc n L (.inr (.inr (.inl 41)) :: r) σ (.getfield 190) = (n = 3 ∧ K (pc + 3) L (.inr (.inr (.inl 43)) :: r) σ) := by
  rw [ex_getfield, ab_o1_s, hM, gt1_11_190_41, ab_op_s]
  rfl
theorem dg1_11_190_47 {M : ab_M} {K : ab_K} {Rt : ab_V → ab_S → Prop} {pc n : Nat} {L : ab_L} {r : List ab_V} {σ : ab_S} (hM : ab_own M = 11) : ab_ex ab_G1 M K Rt pc n L (.inr (.inr (.inl 47)) :: r) σ (.getfield 190) = (n = 3 ∧ K (pc + 3) L (.inr (.inr (.inl 49)) :: r) σ) := by
  rw [ex_getfield, ab_o1_s, hM, gt1_11_190_47, ab_op_s]
  rfl
theorem dg1_11_190_53 {M : ab_M} {K : ab_K} {Rt : ab_V → ab_S → Prop} {pc n : Nat} {L : ab_L} {r : List ab_V} {σ : ab_S} (hM : ab_own M = 11) : ab_ex ab_G1 M K Rt pc n L (.inr (.inr (.inl 53)) :: r) σ (.getfield 190) = (n = 3 ∧ K (pc + 3) L (.inr (.inr (.inl 55)) :: r) σ) := by
  rw [ex_getfield, ab_o1_s, hM, gt1_11_190_53, ab_op_s]
  rfl
theorem dg1_11_190_59 {M : ab_M} {K : ab_K} {Rt : ab_V → ab_S → Prop} {pc n : Nat} {L : ab_L} {r : List ab_V} {σ : ab_S} (hM : ab_own M = 11) : ab_ex ab_G1 M K Rt pc n L (.inr (.inr (.inl 59)) :: r) σ (.getfield 190) = (n = 3 ∧ K (pc + 3) L (.inr (.inr (.inl 61)) :: r) σ) := by
  rw [ex_getfield, ab_o1_s, hM, gt1_11_190_59, ab_op_s]
  rfl
theorem dg1_0_18_34 {M : ab_M} {K : ab_K} {Rt : ab_V → ab_S → Prop} {pc n : Nat} {L : ab_L} {r : List ab_V} {σ : ab_S} (hM : ab_own M = 0) : ab_ex ab_G1 M K Rt pc n L (.inr (.inr (.inl 34)) :: r) σ (.getfield 18) = (n = 3 ∧ K (pc + 3) L (.inr (.inr (.inl 37)) :: r) σ) := by
  rw [ex_getfield, ab_o1_s, hM, gt1_0_18_34, ab_op_s]
  rfl
theorem dg1_0_18_41 {M : ab_M} {K : ab_K} {Rt : ab_V → ab_S → Prop} {pc n : Nat} {L : ab_L} {r : List ab_V} {σ : ab_S} (hM : ab_own M = 0) : ab_ex ab_G1 M K Rt pc n L (.inr (.inr (.inl 41)) :: r) σ (.getfield 18) = (n = 3 ∧ K (pc + 3) L (.inr (.inr (.inl 44)) :: r) σ) := by
  rw [ex_getfield, ab_o1_s, hM, gt1_0_18_41, ab_op_s]
  rfl
theorem dg1_0_18_47 {M : ab_M} {K : ab_K} {Rt : ab_V → ab_S → Prop} {pc n : Nat} {L : ab_L} {r : List ab_V} {σ : ab_S} (hM : ab_own M = 0) : ab_ex ab_G1 M K Rt pc n L (.inr (.inr (.inl 47)) :: r) σ (.getfield 18) = (n = 3 ∧ K (pc + 3) L (.inr (.inr (.inl 50)) :: r) σ) := by
  rw [ex_getfield, ab_o1_s, hM, gt1_0_18_47, ab_op_s]
  rfl
theorem dg1_0_18_53 {M : ab_M} {K : ab_K} {Rt : ab_V → ab_S → Prop} {pc n : Nat} {L : ab_L} {r : List ab_V} {σ : ab_S} (hM : ab_own M = 0) : ab_ex ab_G1 M K Rt pc n L (.inr (.inr (.inl 53)) :: r) σ (.getfield 18) = (n = 3 ∧ K (pc + 3) L (.inr (.inr (.inl 56)) :: r) σ) := by
  rw [ex_getfield, ab_o1_s, hM, gt1_0_18_53, ab_op_s]
  rfl
theorem dg1_0_18_59 {M : ab_M} {K : ab_K} {Rt : ab_V → ab_S → Prop} {pc n : Nat} {L : ab_L} {r : List ab_V} {σ : ab_S} (hM : ab_own M = 0) : ab_ex ab_G1 M K Rt pc n L (.inr (.inr (.inl 59)) :: r) σ (.getfield 18) = (n = 3 ∧ K (pc + 3) L (.inr (.inr (.inl 62)) :: r) σ) := by
  rw [ex_getfield, ab_o1_s, hM, gt1_0_18_59, ab_op_s]
  rfl
theorem dg1_3_65_34 {M : ab_M} {K : ab_K} {Rt : ab_V → ab_S → Prop} {pc n : Nat} {L : ab_L} {r : List ab_V} {σ : ab_S} (hM : ab_own M = 3) : ab_ex ab_G1 M K Rt pc n L (.inr (.inr (.inl 34)) :: r) σ (.getfield 65) = (n = 3 ∧ K (pc + 3) L (.inr (.inr (.inl 37)) :: r) σ) := by
  rw [ex_getfield, ab_o1_s, hM, gt1_3_65_34, ab_op_s]
  rfl
theorem dg1_3_65_41 {M : ab_M} {K : ab_K} {Rt : ab_V → ab_S → Prop} {pc n : Nat} {L : ab_L} {r : List ab_V} {σ : ab_S} (hM : ab_own M = 3) : ab_ex ab_G1 M K Rt pc n L (.inr (.inr (.inl 41)) :: r) σ (.getfield 65) = (n = 3 ∧ K (pc + 3) L (.inr (.inr (.inl 44)) :: r) σ) := by
  rw [ex_getfield, ab_o1_s, hM, gt1_3_65_41, ab_op_s]
  rfl
theorem dg1_3_65_47 {M : ab_M} {K : ab_K} {Rt : ab_V → ab_S → Prop} {pc n : Nat} {L : ab_L} {r : List ab_V} {σ : ab_S} (hM : ab_own M = 3) : ab_ex ab_G1 M K Rt pc n L (.inr (.inr (.inl 47)) :: r) σ (.getfield 65) = (n = 3 ∧ K (pc + 3) L (.inr (.inr (.inl 50)) :: r) σ) := by
  rw [ex_getfield, ab_o1_s, hM, gt1_3_65_47, ab_op_s]
  rfl
theorem dg1_3_65_53 {M : ab_M} {K : ab_K} {Rt : ab_V → ab_S → Prop} {pc n : Nat} {L : ab_L} {r : List ab_V} {σ : ab_S} (hM : ab_own M = 3) : ab_ex ab_G1 M K Rt pc n L (.inr (.inr (.inl 53)) :: r) σ (.getfield 65) = (n = 3 ∧ K (pc + 3) L (.inr (.inr (.inl 56)) :: r) σ) := by
  rw [ex_getfield, ab_o1_s, hM, gt1_3_65_53, ab_op_s]
  rfl
theorem dg1_3_65_59 {M : ab_M} {K : ab_K} {Rt : ab_V → ab_S → Prop} {pc n : Nat} {L : ab_L} {r : List ab_V} {σ : ab_S} (hM : ab_own M = 3) : ab_ex ab_G1 M K Rt pc n L (.inr (.inr (.inl 59)) :: r) σ (.getfield 65) = (n = 3 ∧ K (pc + 3) L (.inr (.inr (.inl 62)) :: r) σ) := by
  rw [ex_getfield, ab_o1_s, hM, gt1_3_65_59, ab_op_s]
  rfl
theorem dg1_11_193_34 {M : ab_M} {K : ab_K} {Rt : ab_V → ab_S → Prop} {pc n : Nat} {L : ab_L} {r : List ab_V} {σ : ab_S} (hM : ab_own M = 11) : ab_ex ab_G1 M K Rt pc n L (.inr (.inr (.inl 34)) :: r) σ (.getfield 193) = (n = 3 ∧ K (pc + 3) L (.inr (.inr (.inl 37)) :: r) σ) := by
  rw [ex_getfield, ab_o1_s, hM, gt1_11_193_34, ab_op_s]
  rfl
theorem dg1_11_193_41 {M : ab_M} {K : ab_K} {Rt : ab_V → ab_S → Prop} {pc n : Nat} {L : ab_L} {r : List ab_V} {σ : ab_S} (hM : ab_own M = 11) : ab_ex ab_G1 M K Rt pc n L (.inr (.inr (.inl 41)) :: r) σ (.getfield 193) = (n = 3 ∧ K (pc + 3) L (.inr (.inr (.inl 44)) :: r) σ) := by
  rw [ex_getfield, ab_o1_s, hM, gt1_11_193_41, ab_op_s]
  rfl
theorem dg1_11_193_47 {M : ab_M} {K : ab_K} {Rt : ab_V → ab_S → Prop} {pc n : Nat} {L : ab_L} {r : List ab_V} {σ : ab_S} (hM : ab_own M = 11) : ab_ex ab_G1 M K Rt pc n L (.inr (.inr (.inl 47)) :: r) σ (.getfield 193) = (n = 3 ∧ K (pc + 3) L (.inr (.inr (.inl 50)) :: r) σ) := by
  rw [ex_getfield, ab_o1_s, hM, gt1_11_193_47, ab_op_s]
  rfl
theorem dg1_11_193_53 {M : ab_M} {K : ab_K} {Rt : ab_V → ab_S → Prop} {pc n : Nat} {L : ab_L} {r : List ab_V} {σ : ab_S} (hM : ab_own M = 11) : ab_ex ab_G1 M K Rt pc n L (.inr (.inr (.inl 53)) :: r) σ (.getfield 193) = (n = 3 ∧ K (pc + 3) L (.inr (.inr (.inl 56)) :: r) σ) := by
  rw [ex_getfield, ab_o1_s, hM, gt1_11_193_53, ab_op_s]
  rfl
theorem dg1_11_193_59 {M : ab_M} {K : ab_K} {Rt : ab_V → ab_S → Prop} {pc n : Nat} {L : ab_L} {r : List ab_V} {σ : ab_S} (hM : ab_own M = 11) : ab_ex ab_G1 M K Rt pc n L (.inr (.inr (.inl 59)) :: r) σ (.getfield 193) = (n = 3 ∧ K (pc + 3) L (.inr (.inr (.inl 62)) :: r) σ) := by
  rw [ex_getfield, ab_o1_s, hM, gt1_11_193_59, ab_op_s]
  rfl
theorem dg1_0_21_34 {M : ab_M} {K : ab_K} {Rt : ab_V → ab_S → Prop} {pc n : Nat} {L : ab_L} {r : List ab_V} {σ : ab_S} (hM : ab_own M = 0) : ab_ex ab_G1 M K Rt pc n L (.inr (.inr (.inl 34)) :: r) σ (.getfield 21) = (n = 3 ∧ K (pc + 3) L (.inr (.inr (.inl 38)) :: r) σ) := by
  rw [ex_getfield, ab_o1_s, hM, gt1_0_21_34, ab_op_s]
  rfl
theorem dg1_0_21_41 {M : ab_M} {K : ab_K} {Rt : ab_V → ab_S → Prop} {pc n : Nat} {L : ab_L} {r : List ab_V} {σ : ab_S} (hM : ab_own M = 0) : ab_ex ab_G1 M K Rt pc n L (.inr (.inr (.inl 41)) :: r) σ (.getfield 21) = (n = 3 ∧ K (pc + 3) L (.inr (.inr (.inl 45)) :: r) σ) := by
  rw [ex_getfield, ab_o1_s, hM, gt1_0_21_41, ab_op_s]
  rfl
theorem dg1_0_21_47 {M : ab_M} {K : ab_K} {Rt : ab_V → ab_S → Prop} {pc n : Nat} {L : ab_L} {r : List ab_V} {σ : ab_S} (hM : ab_own M = 0) : ab_ex ab_G1 M K Rt pc n L (.inr (.inr (.inl 47)) :: r) σ (.getfield 21) = (n = 3 ∧ K (pc + 3) L (.inr (.inr (.inl 51)) :: r) σ) := by
  rw [ex_getfield, ab_o1_s, hM, gt1_0_21_47, ab_op_s]
  rfl
theorem dg1_0_21_53 {M : ab_M} {K : ab_K} {Rt : ab_V → ab_S → Prop} {pc n : Nat} {L : ab_L} {r : List ab_V} {σ : ab_S} (hM : ab_own M = 0) : ab_ex ab_G1 M K Rt pc n L (.inr (.inr (.inl 53)) :: r) σ (.getfield 21) = (n = 3 ∧ K (pc + 3) L (.inr (.inr (.inl 57)) :: r) σ) := by
  rw [ex_getfield, ab_o1_s, hM, gt1_0_21_53, ab_op_s]
  rfl
theorem dg1_0_21_59 {M : ab_M} {K : ab_K} {Rt : ab_V → ab_S → Prop} {pc n : Nat} {L : ab_L} {r : List ab_V} {σ : ab_S} (hM : ab_own M = 0) : ab_ex ab_G1 M K Rt pc n L (.inr (.inr (.inl 59)) :: r) σ (.getfield 21) = (n = 3 ∧ K (pc + 3) L (.inr (.inr (.inl 63)) :: r) σ) := by
  rw [ex_getfield, ab_o1_s, hM, gt1_0_21_59, ab_op_s]
  rfl
theorem dg1_3_66_34 {M : ab_M} {K : ab_K} {Rt : ab_V → ab_S → Prop} {pc n : Nat} {L : ab_L} {r : List ab_V} {σ : ab_S} (hM : ab_own M = 3) : ab_ex ab_G1 M K Rt pc n L (.inr (.inr (.inl 34)) :: r) σ (.getfield 66) = (n = 3 ∧ K (pc + 3) L (.inr (.inr (.inl 38)) :: r) σ) := by
  rw [ex_getfield, ab_o1_s, hM, gt1_3_66_34, ab_op_s]
  rfl
theorem dg1_3_66_41 {M : ab_M} {K : ab_K} {Rt : ab_V → ab_S → Prop} {pc n : Nat} {L : ab_L} {r : List ab_V} {σ : ab_S} (hM : ab_own M = 3) : ab_ex ab_G1 M K Rt pc n L (.inr (.inr (.inl 41)) :: r) σ (.getfield 66) = (n = 3 ∧ K (pc + 3) L (.inr (.inr (.inl 45)) :: r) σ) := by
  rw [ex_getfield, ab_o1_s, hM, gt1_3_66_41, ab_op_s]
  rfl
theorem dg1_3_66_47 {M : ab_M} {K : ab_K} {Rt : ab_V → ab_S → Prop} {pc n : Nat} {L : ab_L} {r : List ab_V} {σ : ab_S} (hM : ab_own M = 3) : ab_ex ab_G1 M K Rt pc n L (.inr (.inr (.inl 47)) :: r) σ (.getfield 66) = (n = 3 ∧ K (pc + 3) L (.inr (.inr (.inl 51)) :: r) σ) := by
  rw [ex_getfield, ab_o1_s, hM, gt1_3_66_47, ab_op_s]
  rfl
theorem dg1_3_66_53 {M : ab_M} {K : ab_K} {Rt : ab_V → ab_S → Prop} {pc n : Nat} {L : ab_L} {r : List ab_V} {σ : ab_S} (hM : ab_own M = 3) : ab_ex ab_G1 M K Rt pc n L (.inr (.inr (.inl 53)) :: r) σ (.getfield 66) = (n = 3 ∧ K (pc + 3) L (.inr (.inr (.inl 57)) :: r) σ) := by
  rw [ex_getfield, ab_o1_s, hM, gt1_3_66_53, ab_op_s]
  rfl
theorem dg1_3_66_59 {M : ab_M} {K : ab_K} {Rt : ab_V → ab_S → Prop} {pc n : Nat} {L : ab_L} {r : List ab_V} {σ : ab_S} (hM : ab_own M = 3) : ab_ex ab_G1 M K Rt pc n L (.inr (.inr (.inl 59)) :: r) σ (.getfield 66) = (n = 3 ∧ K (pc + 3) L (.inr (.inr (.inl 63)) :: r) σ) := by
  rw [ex_getfield, ab_o1_s, hM, gt1_3_66_59, ab_op_s]
  rfl
theorem dg1_11_196_34 {M : ab_M} {K : ab_K} {Rt : ab_V → ab_S → Prop} {pc n : Nat} {L : ab_L} {r : List ab_V} {σ : ab_S} (hM : ab_own M = 11) : ab_ex ab_G1 M K Rt pc n L (.inr (.inr (.inl 34)) :: r) σ (.getfield 196) = (n = 3 ∧ K (pc + 3) L (.inr (.inr (.inl 38)) :: r) σ) := by
  rw [ex_getfield, ab_o1_s, hM, gt1_11_196_34, ab_op_s]
  rfl
theorem dg1_11_196_41 {M : ab_M} {K : ab_K} {Rt : ab_V → ab_S → Prop} {pc n : Nat} {L : ab_L} {r : List ab_V} {σ : ab_S} (hM : ab_own M = 11) : ab_ex ab_G1 M K Rt pc n L (.inr (.inr (.inl 41)) :: r) σ (.getfield 196) = (n = 3 ∧ K (pc + 3) L (.inr (.inr (.inl 45)) :: r) σ) := by
  rw [ex_getfield, ab_o1_s, hM, gt1_11_196_41, ab_op_s]
  rfl
theorem dg1_11_196_47 {M : ab_M} {K : ab_K} {Rt : ab_V → ab_S → Prop} {pc n : Nat} {L : ab_L} {r : List ab_V} {σ : ab_S} (hM : ab_own M = 11) : ab_ex ab_G1 M K Rt pc n L (.inr (.inr (.inl 47)) :: r) σ (.getfield 196) = (n = 3 ∧ K (pc + 3) L (.inr (.inr (.inl 51)) :: r) σ) := by
  rw [ex_getfield, ab_o1_s, hM, gt1_11_196_47, ab_op_s]
  rfl
theorem dg1_11_196_53 {M : ab_M} {K : ab_K} {Rt : ab_V → ab_S → Prop} {pc n : Nat} {L : ab_L} {r : List ab_V} {σ : ab_S} (hM : ab_own M = 11) : ab_ex ab_G1 M K Rt pc n L (.inr (.inr (.inl 53)) :: r) σ (.getfield 196) = (n = 3 ∧ K (pc + 3) L (.inr (.inr (.inl 57)) :: r) σ) := by
  rw [ex_getfield, ab_o1_s, hM, gt1_11_196_53, ab_op_s]
  rfl
theorem dg1_11_196_59 {M : ab_M} {K : ab_K} {Rt : ab_V → ab_S → Prop} {pc n : Nat} {L : ab_L} {r : List ab_V} {σ : ab_S} (hM : ab_own M = 11) : ab_ex ab_G1 M K Rt pc n L (.inr (.inr (.inl 59)) :: r) σ (.getfield 196) = (n = 3 ∧ K (pc + 3) L (.inr (.inr (.inl 63)) :: r) σ) := by
  rw [ex_getfield, ab_o1_s, hM, gt1_11_196_59, ab_op_s]
  rfl
theorem dg1_0_24_34 {M : ab_M} {K : ab_K} {Rt : ab_V → ab_S → Prop} {pc n : Nat} {L : ab_L} {r : List ab_V} {σ : ab_S} (hM : ab_own M = 0) : ab_ex ab_G1 M K Rt pc n L (.inr (.inr (.inl 34)) :: r) σ (.getfield 24) = (n = 3 ∧ K (pc + 3) L (.inr (.inr (.inl 39)) :: r) σ) := by
  rw [ex_getfield, ab_o1_s, hM, gt1_0_24_34, ab_op_s]
  rfl
theorem dg1_0_24_41 {M : ab_M} {K : ab_K} {Rt : ab_V → ab_S → Prop} {pc n : Nat} {L : ab_L} {r : List ab_V} {σ : ab_S} (hM : ab_own M = 0) : ab_ex ab_G1 M K Rt pc n L (.inr (.inr (.inl 41)) :: r) σ (.getfield 24) = (n = 3 ∧ K (pc + 3) L (.inr (.inr (.inl 46)) :: r) σ) := by
  rw [ex_getfield, ab_o1_s, hM, gt1_0_24_41, ab_op_s]
  rfl
theorem dg1_0_24_47 {M : ab_M} {K : ab_K} {Rt : ab_V → ab_S → Prop} {pc n : Nat} {L : ab_L} {r : List ab_V} {σ : ab_S} (hM : ab_own M = 0) : ab_ex ab_G1 M K Rt pc n L (.inr (.inr (.inl 47)) :: r) σ (.getfield 24) = (n = 3 ∧ K (pc + 3) L (.inr (.inr (.inl 52)) :: r) σ) := by
  rw [ex_getfield, ab_o1_s, hM, gt1_0_24_47, ab_op_s]
  rfl
theorem dg1_0_24_53 {M : ab_M} {K : ab_K} {Rt : ab_V → ab_S → Prop} {pc n : Nat} {L : ab_L} {r : List ab_V} {σ : ab_S} (hM : ab_own M = 0) : ab_ex ab_G1 M K Rt pc n L (.inr (.inr (.inl 53)) :: r) σ (.getfield 24) = (n = 3 ∧ K (pc + 3) L (.inr (.inr (.inl 58)) :: r) σ) := by
  rw [ex_getfield, ab_o1_s, hM, gt1_0_24_53, ab_op_s]
  rfl
theorem dg1_0_24_59 {M : ab_M} {K : ab_K} {Rt : ab_V → ab_S → Prop} {pc n : Nat} {L : ab_L} {r : List ab_V} {σ : ab_S} (hM : ab_own M = 0) : ab_ex ab_G1 M K Rt pc n L (.inr (.inr (.inl 59)) :: r) σ (.getfield 24) = (n = 3 ∧ K (pc + 3) L (.inr (.inr (.inl 64)) :: r) σ) := by
  rw [ex_getfield, ab_o1_s, hM, gt1_0_24_59, ab_op_s]
  rfl
theorem dg1_4_61_34 {M : ab_M} {K : ab_K} {Rt : ab_V → ab_S → Prop} {pc n : Nat} {L : ab_L} {r : List ab_V} {σ : ab_S} (hM : ab_own M = 4) : ab_ex ab_G1 M K Rt pc n L (.inr (.inr (.inl 34)) :: r) σ (.getfield 61) = (n = 3 ∧ K (pc + 3) L (.inr (.inr (.inl 39)) :: r) σ) := by
  rw [ex_getfield, ab_o1_s, hM, gt1_4_61_34, ab_op_s]
  rfl
theorem dg1_4_61_41 {M : ab_M} {K : ab_K} {Rt : ab_V → ab_S → Prop} {pc n : Nat} {L : ab_L} {r : List ab_V} {σ : ab_S} (hM : ab_own M = 4) : ab_ex ab_G1 M K Rt pc n L (.inr (.inr (.inl 41)) :: r) σ (.getfield 61) = (n = 3 ∧ K (pc + 3) L (.inr (.inr (.inl 46)) :: r) σ) := by
  rw [ex_getfield, ab_o1_s, hM, gt1_4_61_41, ab_op_s]
  rfl
theorem dg1_4_61_47 {M : ab_M} {K : ab_K} {Rt : ab_V → ab_S → Prop} {pc n : Nat} {L : ab_L} {r : List ab_V} {σ : ab_S} (hM : ab_own M = 4) : ab_ex ab_G1 M K Rt pc n L (.inr (.inr (.inl 47)) :: r) σ (.getfield 61) = (n = 3 ∧ K (pc + 3) L (.inr (.inr (.inl 52)) :: r) σ) := by
  rw [ex_getfield, ab_o1_s, hM, gt1_4_61_47, ab_op_s]
  rfl
theorem dg1_4_61_53 {M : ab_M} {K : ab_K} {Rt : ab_V → ab_S → Prop} {pc n : Nat} {L : ab_L} {r : List ab_V} {σ : ab_S} (hM : ab_own M = 4) : ab_ex ab_G1 M K Rt pc n L (.inr (.inr (.inl 53)) :: r) σ (.getfield 61) = (n = 3 ∧ K (pc + 3) L (.inr (.inr (.inl 58)) :: r) σ) := by
  rw [ex_getfield, ab_o1_s, hM, gt1_4_61_53, ab_op_s]
  rfl
theorem dg1_4_61_59 {M : ab_M} {K : ab_K} {Rt : ab_V → ab_S → Prop} {pc n : Nat} {L : ab_L} {r : List ab_V} {σ : ab_S} (hM : ab_own M = 4) : ab_ex ab_G1 M K Rt pc n L (.inr (.inr (.inl 59)) :: r) σ (.getfield 61) = (n = 3 ∧ K (pc + 3) L (.inr (.inr (.inl 64)) :: r) σ) := by
  rw [ex_getfield, ab_o1_s, hM, gt1_4_61_59, ab_op_s]
  rfl
theorem dg1_11_199_34 {M : ab_M} {K : ab_K} {Rt : ab_V → ab_S → Prop} {pc n : Nat} {L : ab_L} {r : List ab_V} {σ : ab_S} (hM : ab_own M = 11) : ab_ex ab_G1 M K Rt pc n L (.inr (.inr (.inl 34)) :: r) σ (.getfield 199) = (n = 3 ∧ K (pc + 3) L (.inr (.inr (.inl 39)) :: r) σ) := by
  rw [ex_getfield, ab_o1_s, hM, gt1_11_199_34, ab_op_s]
  rfl
theorem dg1_11_199_41 {M : ab_M} {K : ab_K} {Rt : ab_V → ab_S → Prop} {pc n : Nat} {L : ab_L} {r : List ab_V} {σ : ab_S} (hM : ab_own M = 11) : ab_ex ab_G1 M K Rt pc n L (.inr (.inr (.inl 41)) :: r) σ (.getfield 199) = (n = 3 ∧ K (pc + 3) L (.inr (.inr (.inl 46)) :: r) σ) := by
  rw [ex_getfield, ab_o1_s, hM, gt1_11_199_41, ab_op_s]
  rfl
theorem dg1_11_199_47 {M : ab_M} {K : ab_K} {Rt : ab_V → ab_S → Prop} {pc n : Nat} {L : ab_L} {r : List ab_V} {σ : ab_S} (hM : ab_own M = 11) : ab_ex ab_G1 M K Rt pc n L (.inr (.inr (.inl 47)) :: r) σ (.getfield 199) = (n = 3 ∧ K (pc + 3) L (.inr (.inr (.inl 52)) :: r) σ) := by
  rw [ex_getfield, ab_o1_s, hM, gt1_11_199_47, ab_op_s]
  rfl
theorem dg1_11_199_53 {M : ab_M} {K : ab_K} {Rt : ab_V → ab_S → Prop} {pc n : Nat} {L : ab_L} {r : List ab_V} {σ : ab_S} (hM : ab_own M = 11) : ab_ex ab_G1 M K Rt pc n L (.inr (.inr (.inl 53)) :: r) σ (.getfield 199) = (n = 3 ∧ K (pc + 3) L (.inr (.inr (.inl 58)) :: r) σ) := by
  rw [ex_getfield, ab_o1_s, hM, gt1_11_199_53, ab_op_s]
  rfl
theorem dg1_11_199_59 {M : ab_M} {K : ab_K} {Rt : ab_V → ab_S → Prop} {pc n : Nat} {L : ab_L} {r : List ab_V} {σ : ab_S} (hM : ab_own M = 11) : ab_ex ab_G1 M K Rt pc n L (.inr (.inr (.inl 59)) :: r) σ (.getfield 199) = (n = 3 ∧ K (pc + 3) L (.inr (.inr (.inl 64)) :: r) σ) := by
  rw [ex_getfield, ab_o1_s, hM, gt1_11_199_59, ab_op_s]
  rfl
theorem dg1_0_27_34 {M : ab_M} {K : ab_K} {Rt : ab_V → ab_S → Prop} {pc n : Nat} {L : ab_L} {r : List ab_V} {σ : ab_S} (hM : ab_own M = 0) : ab_ex ab_G1 M K Rt pc n L (.inr (.inr (.inl 34)) :: r) σ (.getfield 27) = (n = 3 ∧ K (pc + 3) L (.inl (σ 34 5) :: r) σ) := by
  rw [ex_getfield, ab_o1_s, hM, gt1_0_27_34, ab_op_s]
  rfl
theorem dg1_0_27_41 {M : ab_M} {K : ab_K} {Rt : ab_V → ab_S → Prop} {pc n : Nat} {L : ab_L} {r : List ab_V} {σ : ab_S} (hM : ab_own M = 0) : ab_ex ab_G1 M K Rt pc n L (.inr (.inr (.inl 41)) :: r) σ (.getfield 27) = (n = 3 ∧ K (pc + 3) L (.inl (σ 41 5) :: r) σ) := by
  rw [ex_getfield, ab_o1_s, hM, gt1_0_27_41, ab_op_s]
  rfl
theorem dg1_0_27_47 {M : ab_M} {K : ab_K} {Rt : ab_V → ab_S → Prop} {pc n : Nat} {L : ab_L} {r : List ab_V} {σ : ab_S} (hM : ab_own M = 0) : ab_ex ab_G1 M K Rt pc n L (.inr (.inr (.inl 47)) :: r) σ (.getfield 27) = (n = 3 ∧ K (pc + 3) L (.inl (σ 47 5) :: r) σ) := by
  rw [ex_getfield, ab_o1_s, hM, gt1_0_27_47, ab_op_s]
  rfl
theorem dg1_0_27_53 {M : ab_M} {K : ab_K} {Rt : ab_V → ab_S → Prop} {pc n : Nat} {L : ab_L} {r : List ab_V} {σ : ab_S} (hM : ab_own M = 0) : ab_ex ab_G1 M K Rt pc n L (.inr (.inr (.inl 53)) :: r) σ (.getfield 27) = (n = 3 ∧ K (pc + 3) L (.inl (σ 53 5) :: r) σ) := by
  rw [ex_getfield, ab_o1_s, hM, gt1_0_27_53, ab_op_s]
  rfl
theorem dg1_0_27_59 {M : ab_M} {K : ab_K} {Rt : ab_V → ab_S → Prop} {pc n : Nat} {L : ab_L} {r : List ab_V} {σ : ab_S} (hM : ab_own M = 0) : ab_ex ab_G1 M K Rt pc n L (.inr (.inr (.inl 59)) :: r) σ (.getfield 27) = (n = 3 ∧ K (pc + 3) L (.inl (σ 59 5) :: r) σ) := by
  rw [ex_getfield, ab_o1_s, hM, gt1_0_27_59, ab_op_s]
  rfl
theorem dg1_3_27_34 {M : ab_M} {K : ab_K} {Rt : ab_V → ab_S → Prop} {pc n : Nat} {L : ab_L} {r : List ab_V} {σ : ab_S} (hM : ab_own M = 3) : ab_ex ab_G1 M K Rt pc n L (.inr (.inr (.inl 34)) :: r) σ (.getfield 27) = (n = 3 ∧ K (pc + 3) L (.inl (σ 34 5) :: r) σ) := by
  rw [ex_getfield, ab_o1_s, hM, gt1_3_27_34, ab_op_s]
  rfl
theorem dg1_3_27_41 {M : ab_M} {K : ab_K} {Rt : ab_V → ab_S → Prop} {pc n : Nat} {L : ab_L} {r : List ab_V} {σ : ab_S} (hM : ab_own M = 3) : ab_ex ab_G1 M K Rt pc n L (.inr (.inr (.inl 41)) :: r) σ (.getfield 27) = (n = 3 ∧ K (pc + 3) L (.inl (σ 41 5) :: r) σ) := by
  rw [ex_getfield, ab_o1_s, hM, gt1_3_27_41, ab_op_s]
  rfl
theorem dg1_3_27_47 {M : ab_M} {K : ab_K} {Rt : ab_V → ab_S → Prop} {pc n : Nat} {L : ab_L} {r : List ab_V} {σ : ab_S} (hM : ab_own M = 3) : ab_ex ab_G1 M K Rt pc n L (.inr (.inr (.inl 47)) :: r) σ (.getfield 27) = (n = 3 ∧ K (pc + 3) L (.inl (σ 47 5) :: r) σ) := by
  rw [ex_getfield, ab_o1_s, hM, gt1_3_27_47, ab_op_s]
  rfl
theorem dg1_3_27_53 {M : ab_M} {K : ab_K} {Rt : ab_V → ab_S → Prop} {pc n : Nat} {L : ab_L} {r : List ab_V} {σ : ab_S} (hM : ab_own M = 3) : ab_ex ab_G1 M K Rt pc n L (.inr (.inr (.inl 53)) :: r) σ (.getfield 27) = (n = 3 ∧ K (pc + 3) L (.inl (σ 53 5) :: r) σ) := by
  rw [ex_getfield, ab_o1_s, hM, gt1_3_27_53, ab_op_s]
  rfl
theorem dg1_3_27_59 {M : ab_M} {K : ab_K} {Rt : ab_V → ab_S → Prop} {pc n : Nat} {L : ab_L} {r : List ab_V} {σ : ab_S} (hM : ab_own M = 3) : ab_ex ab_G1 M K Rt pc n L (.inr (.inr (.inl 59)) :: r) σ (.getfield 27) = (n = 3 ∧ K (pc + 3) L (.inl (σ 59 5) :: r) σ) := by
  rw [ex_getfield, ab_o1_s, hM, gt1_3_27_59, ab_op_s]
  rfl
theorem dg1_10_64_34 {M : ab_M} {K : ab_K} {Rt : ab_V → ab_S → Prop} {pc n : Nat} {L : ab_L} {r : List ab_V} {σ : ab_S} (hM : ab_own M = 10) : ab_ex ab_G1 M K Rt pc n L (.inr (.inr (.inl 34)) :: r) σ (.getfield 64) = (n = 3 ∧ K (pc + 3) L (.inl (σ 34 5) :: r) σ) := by
  rw [ex_getfield, ab_o1_s, hM, gt1_10_64_34, ab_op_s]
  rfl
theorem dg1_10_64_41 {M : ab_M} {K : ab_K} {Rt : ab_V → ab_S → Prop} {pc n : Nat} {L : ab_L} {r : List ab_V} {σ : ab_S} (hM : ab_own M = 10) : ab_ex ab_G1 M K Rt pc n L (.inr (.inr (.inl 41)) :: r) σ (.getfield 64) = (n = 3 ∧ K (pc + 3) L (.inl (σ 41 5) :: r) σ) := by
  rw [ex_getfield, ab_o1_s, hM, gt1_10_64_41, ab_op_s]
  rfl
theorem dg1_10_64_47 {M : ab_M} {K : ab_K} {Rt : ab_V → ab_S → Prop} {pc n : Nat} {L : ab_L} {r : List ab_V} {σ : ab_S} (hM : ab_own M = 10) : ab_ex ab_G1 M K Rt pc n L (.inr (.inr (.inl 47)) :: r) σ (.getfield 64) = (n = 3 ∧ K (pc + 3) L (.inl (σ 47 5) :: r) σ) := by
  rw [ex_getfield, ab_o1_s, hM, gt1_10_64_47, ab_op_s]
  rfl
theorem dg1_10_64_53 {M : ab_M} {K : ab_K} {Rt : ab_V → ab_S → Prop} {pc n : Nat} {L : ab_L} {r : List ab_V} {σ : ab_S} (hM : ab_own M = 10) : ab_ex ab_G1 M K Rt pc n L (.inr (.inr (.inl 53)) :: r) σ (.getfield 64) = (n = 3 ∧ K (pc + 3) L (.inl (σ 53 5) :: r) σ) := by
  rw [ex_getfield, ab_o1_s, hM, gt1_10_64_53, ab_op_s]
  rfl
theorem dg1_10_64_59 {M : ab_M} {K : ab_K} {Rt : ab_V → ab_S → Prop} {pc n : Nat} {L : ab_L} {r : List ab_V} {σ : ab_S} (hM : ab_own M = 10) : ab_ex ab_G1 M K Rt pc n L (.inr (.inr (.inl 59)) :: r) σ (.getfield 64) = (n = 3 ∧ K (pc + 3) L (.inl (σ 59 5) :: r) σ) := by
  rw [ex_getfield, ab_o1_s, hM, gt1_10_64_59, ab_op_s]
  rfl
theorem dg1_11_186_34 {M : ab_M} {K : ab_K} {Rt : ab_V → ab_S → Prop} {pc n : Nat} {L : ab_L} {r : List ab_V} {σ : ab_S} (hM : ab_own M = 11) : ab_ex ab_G1 M K Rt pc n L (.inr (.inr (.inl 34)) :: r) σ (.getfield 186) = (n = 3 ∧ K (pc + 3) L (.inl (σ 34 5) :: r) σ) := by
  rw [ex_getfield, ab_o1_s, hM, gt1_11_186_34, ab_op_s]
  rfl
theorem dg1_11_186_41 {M : ab_M} {K : ab_K} {Rt : ab_V → ab_S → Prop} {pc n : Nat} {L : ab_L} {r : List ab_V} {σ : ab_S} (hM : ab_own M = 11) : ab_ex ab_G1 M K Rt pc n L (.inr (.inr (.inl 41)) :: r) σ (.getfield 186) = (n = 3 ∧ K (pc + 3) L (.inl (σ 41 5) :: r) σ) := by
  rw [ex_getfield, ab_o1_s, hM, gt1_11_186_41, ab_op_s]
  rfl
theorem dg1_11_186_47 {M : ab_M} {K : ab_K} {Rt : ab_V → ab_S → Prop} {pc n : Nat} {L : ab_L} {r : List ab_V} {σ : ab_S} (hM : ab_own M = 11) : ab_ex ab_G1 M K Rt pc n L (.inr (.inr (.inl 47)) :: r) σ (.getfield 186) = (n = 3 ∧ K (pc + 3) L (.inl (σ 47 5) :: r) σ) := by
  rw [ex_getfield, ab_o1_s, hM, gt1_11_186_47, ab_op_s]
  rfl
theorem dg1_11_186_53 {M : ab_M} {K : ab_K} {Rt : ab_V → ab_S → Prop} {pc n : Nat} {L : ab_L} {r : List ab_V} {σ : ab_S} (hM : ab_own M = 11) : ab_ex ab_G1 M K Rt pc n L (.inr (.inr (.inl 53)) :: r) σ (.getfield 186) = (n = 3 ∧ K (pc + 3) L (.inl (σ 53 5) :: r) σ) := by
  rw [ex_getfield, ab_o1_s, hM, gt1_11_186_53, ab_op_s]
  rfl
theorem dg1_11_186_59 {M : ab_M} {K : ab_K} {Rt : ab_V → ab_S → Prop} {pc n : Nat} {L : ab_L} {r : List ab_V} {σ : ab_S} (hM : ab_own M = 11) : ab_ex ab_G1 M K Rt pc n L (.inr (.inr (.inl 59)) :: r) σ (.getfield 186) = (n = 3 ∧ K (pc + 3) L (.inl (σ 59 5) :: r) σ) := by
  rw [ex_getfield, ab_o1_s, hM, gt1_11_186_59, ab_op_s]
  rfl
theorem dg1_0_31_34 {M : ab_M} {K : ab_K} {Rt : ab_V → ab_S → Prop} {pc n : Nat} {L : ab_L} {r : List ab_V} {σ : ab_S} (hM : ab_own M = 0) : ab_ex ab_G1 M K Rt pc n L (.inr (.inr (.inl 34)) :: r) σ (.getfield 31) = (n = 3 ∧ K (pc + 3) L (.inl (σ 34 6) :: r) σ) := by
  rw [ex_getfield, ab_o1_s, hM, gt1_0_31_34, ab_op_s]
  rfl
theorem dg1_0_31_41 {M : ab_M} {K : ab_K} {Rt : ab_V → ab_S → Prop} {pc n : Nat} {L : ab_L} {r : List ab_V} {σ : ab_S} (hM : ab_own M = 0) : ab_ex ab_G1 M K Rt pc n L (.inr (.inr (.inl 41)) :: r) σ (.getfield 31) = (n = 3 ∧ K (pc + 3) L (.inl (σ 41 6) :: r) σ) := by
  rw [ex_getfield, ab_o1_s, hM, gt1_0_31_41, ab_op_s]
  rfl
theorem dg1_0_31_47 {M : ab_M} {K : ab_K} {Rt : ab_V → ab_S → Prop} {pc n : Nat} {L : ab_L} {r : List ab_V} {σ : ab_S} (hM : ab_own M = 0) : ab_ex ab_G1 M K Rt pc n L (.inr (.inr (.inl 47)) :: r) σ (.getfield 31) = (n = 3 ∧ K (pc + 3) L (.inl (σ 47 6) :: r) σ) := by
  rw [ex_getfield, ab_o1_s, hM, gt1_0_31_47, ab_op_s]
  rfl
theorem dg1_0_31_53 {M : ab_M} {K : ab_K} {Rt : ab_V → ab_S → Prop} {pc n : Nat} {L : ab_L} {r : List ab_V} {σ : ab_S} (hM : ab_own M = 0) : ab_ex ab_G1 M K Rt pc n L (.inr (.inr (.inl 53)) :: r) σ (.getfield 31) = (n = 3 ∧ K (pc + 3) L (.inl (σ 53 6) :: r) σ) := by
  rw [ex_getfield, ab_o1_s, hM, gt1_0_31_53, ab_op_s]
  rfl
theorem dg1_0_31_59 {M : ab_M} {K : ab_K} {Rt : ab_V → ab_S → Prop} {pc n : Nat} {L : ab_L} {r : List ab_V} {σ : ab_S} (hM : ab_own M = 0) : ab_ex ab_G1 M K Rt pc n L (.inr (.inr (.inl 59)) :: r) σ (.getfield 31) = (n = 3 ∧ K (pc + 3) L (.inl (σ 59 6) :: r) σ) := by
  rw [ex_getfield, ab_o1_s, hM, gt1_0_31_59, ab_op_s]
  rfl
theorem dg1_11_179_34 {M : ab_M} {K : ab_K} {Rt : ab_V → ab_S → Prop} {pc n : Nat} {L : ab_L} {r : List ab_V} {σ : ab_S} (hM : ab_own M = 11) : ab_ex ab_G1 M K Rt pc n L (.inr (.inr (.inl 34)) :: r) σ (.getfield 179) = (n = 3 ∧ K (pc + 3) L (.inl (σ 34 6) :: r) σ) := by
  rw [ex_getfield, ab_o1_s, hM, gt1_11_179_34, ab_op_s]
  rfl
theorem dg1_11_179_41 {M : ab_M} {K : ab_K} {Rt : ab_V → ab_S → Prop} {pc n : Nat} {L : ab_L} {r : List ab_V} {σ : ab_S} (hM : ab_own M = 11) : ab_ex ab_G1 M K Rt pc n L (.inr (.inr (.inl 41)) :: r) σ (.getfield 179) = (n = 3 ∧ K (pc + 3) L (.inl (σ 41 6) :: r) σ) := by
  rw [ex_getfield, ab_o1_s, hM, gt1_11_179_41, ab_op_s]
  rfl
theorem dg1_11_179_47 {M : ab_M} {K : ab_K} {Rt : ab_V → ab_S → Prop} {pc n : Nat} {L : ab_L} {r : List ab_V} {σ : ab_S} (hM : ab_own M = 11) : ab_ex ab_G1 M K Rt pc n L (.inr (.inr (.inl 47)) :: r) σ (.getfield 179) = (n = 3 ∧ K (pc + 3) L (.inl (σ 47 6) :: r) σ) := by
  rw [ex_getfield, ab_o1_s, hM, gt1_11_179_47, ab_op_s]
  rfl
theorem dg1_11_179_53 {M : ab_M} {K : ab_K} {Rt : ab_V → ab_S → Prop} {pc n : Nat} {L : ab_L} {r : List ab_V} {σ : ab_S} (hM : ab_own M = 11) : ab_ex ab_G1 M K Rt pc n L (.inr (.inr (.inl 53)) :: r) σ (.getfield 179) = (n = 3 ∧ K (pc + 3) L (.inl (σ 53 6) :: r) σ) := by
  rw [ex_getfield, ab_o1_s, hM, gt1_11_179_53, ab_op_s]
  rfl
theorem dg1_11_179_59 {M : ab_M} {K : ab_K} {Rt : ab_V → ab_S → Prop} {pc n : Nat} {L : ab_L} {r : List ab_V} {σ : ab_S} (hM : ab_own M = 11) : ab_ex ab_G1 M K Rt pc n L (.inr (.inr (.inl 59)) :: r) σ (.getfield 179) = (n = 3 ∧ K (pc + 3) L (.inl (σ 59 6) :: r) σ) := by
  rw [ex_getfield, ab_o1_s, hM, gt1_11_179_59, ab_op_s]
  rfl
theorem dg1_1_174_34 {M : ab_M} {K : ab_K} {Rt : ab_V → ab_S → Prop} {pc n : Nat} {L : ab_L} {r : List ab_V} {σ : ab_S} (hM : ab_own M = 1) : ab_ex ab_G1 M K Rt pc n L (.inr (.inr (.inl 34)) :: r) σ (.getfield 174) = (n = 3 ∧ K (pc + 3) L (.inl (σ 34 6) :: r) σ) := by
  rw [ex_getfield, ab_o1_s, hM, gt1_1_174_34, ab_op_s]
  rfl
theorem dg1_1_174_41 {M : ab_M} {K : ab_K} {Rt : ab_V → ab_S → Prop} {pc n : Nat} {L : ab_L} {r : List ab_V} {σ : ab_S} (hM : ab_own M = 1) : ab_ex ab_G1 M K Rt pc n L (.inr (.inr (.inl 41)) :: r) σ (.getfield 174) = (n = 3 ∧ K (pc + 3) L (.inl (σ 41 6) :: r) σ) := by
  rw [ex_getfield, ab_o1_s, hM, gt1_1_174_41, ab_op_s]
  rfl
theorem dg1_1_174_47 {M : ab_M} {K : ab_K} {Rt : ab_V → ab_S → Prop} {pc n : Nat} {L : ab_L} {r : List ab_V} {σ : ab_S} (hM : ab_own M = 1) : ab_ex ab_G1 M K Rt pc n L (.inr (.inr (.inl 47)) :: r) σ (.getfield 174) = (n = 3 ∧ K (pc + 3) L (.inl (σ 47 6) :: r) σ) := by
  rw [ex_getfield, ab_o1_s, hM, gt1_1_174_47, ab_op_s]
  rfl
theorem dg1_1_174_53 {M : ab_M} {K : ab_K} {Rt : ab_V → ab_S → Prop} {pc n : Nat} {L : ab_L} {r : List ab_V} {σ : ab_S} (hM : ab_own M = 1) : ab_ex ab_G1 M K Rt pc n L (.inr (.inr (.inl 53)) :: r) σ (.getfield 174) = (n = 3 ∧ K (pc + 3) L (.inl (σ 53 6) :: r) σ) := by
  rw [ex_getfield, ab_o1_s, hM, gt1_1_174_53, ab_op_s]
  rfl
theorem dg1_1_174_59 {M : ab_M} {K : ab_K} {Rt : ab_V → ab_S → Prop} {pc n : Nat} {L : ab_L} {r : List ab_V} {σ : ab_S} (hM : ab_own M = 1) : ab_ex ab_G1 M K Rt pc n L (.inr (.inr (.inl 59)) :: r) σ (.getfield 174) = (n = 3 ∧ K (pc + 3) L (.inl (σ 59 6) :: r) σ) := by
  rw [ex_getfield, ab_o1_s, hM, gt1_1_174_59, ab_op_s]
  rfl
theorem dg1_3_9_65 {M : ab_M} {K : ab_K} {Rt : ab_V → ab_S → Prop} {pc n : Nat} {L : ab_L} {r : List ab_V} {σ : ab_S} (hM : ab_own M = 3) : ab_ex ab_G1 M K Rt pc n L (.inr (.inr (.inl 65)) :: r) σ (.getfield 9) = (n = 3 ∧ K (pc + 3) L (.inr (.inr (.inl 71)) :: r) σ) := by
  rw [ex_getfield, ab_o1_s, hM, gt1_3_9_65, ab_op_s]
  rfl
theorem dg1_3_15_65 {M : ab_M} {K : ab_K} {Rt : ab_V → ab_S → Prop} {pc n : Nat} {L : ab_L} {r : List ab_V} {σ : ab_S} (hM : ab_own M = 3) : ab_ex ab_G1 M K Rt pc n L (.inr (.inr (.inl 65)) :: r) σ (.getfield 15) = (n = 3 ∧ K (pc + 3) L (.inr (.inr (.inl 72)) :: r) σ) := by
  rw [ex_getfield, ab_o1_s, hM, gt1_3_15_65, ab_op_s]
  rfl
theorem dg1_4_123_65 {M : ab_M} {K : ab_K} {Rt : ab_V → ab_S → Prop} {pc n : Nat} {L : ab_L} {r : List ab_V} {σ : ab_S} (hM : ab_own M = 4) : ab_ex ab_G1 M K Rt pc n L (.inr (.inr (.inl 65)) :: r) σ (.getfield 123) = (n = 3 ∧ K (pc + 3) L (.inr (.inr (.inl 72)) :: r) σ) := by
  rw [ex_getfield, ab_o1_s, hM, gt1_4_123_65, ab_op_s]
  rfl
theorem dg1_3_18_65 {M : ab_M} {K : ab_K} {Rt : ab_V → ab_S → Prop} {pc n : Nat} {L : ab_L} {r : List ab_V} {σ : ab_S} (hM : ab_own M = 3) : ab_ex ab_G1 M K Rt pc n L (.inr (.inr (.inl 65)) :: r) σ (.getfield 18) = (n = 3 ∧ K (pc + 3) L (.inr (.inr (.inl 73)) :: r) σ) := by
  rw [ex_getfield, ab_o1_s, hM, gt1_3_18_65, ab_op_s]
  rfl
theorem dg1_11_219_65 {M : ab_M} {K : ab_K} {Rt : ab_V → ab_S → Prop} {pc n : Nat} {L : ab_L} {r : List ab_V} {σ : ab_S} (hM : ab_own M = 11) : ab_ex ab_G1 M K Rt pc n L (.inr (.inr (.inl 65)) :: r) σ (.getfield 219) = (n = 3 ∧ K (pc + 3) L (.inr (.inr (.inl 73)) :: r) σ) := by
  rw [ex_getfield, ab_o1_s, hM, gt1_11_219_65, ab_op_s]
  rfl
theorem dg1_3_21_65 {M : ab_M} {K : ab_K} {Rt : ab_V → ab_S → Prop} {pc n : Nat} {L : ab_L} {r : List ab_V} {σ : ab_S} (hM : ab_own M = 3) : ab_ex ab_G1 M K Rt pc n L (.inr (.inr (.inl 65)) :: r) σ (.getfield 21) = (n = 3 ∧ K (pc + 3) L (.inr (.inr (.inl 74)) :: r) σ) := by
  rw [ex_getfield, ab_o1_s, hM, gt1_3_21_65, ab_op_s]
  rfl
theorem dg1_11_222_65 {M : ab_M} {K : ab_K} {Rt : ab_V → ab_S → Prop} {pc n : Nat} {L : ab_L} {r : List ab_V} {σ : ab_S} (hM : ab_own M = 11) : ab_ex ab_G1 M K Rt pc n L (.inr (.inr (.inl 65)) :: r) σ (.getfield 222) = (n = 3 ∧ K (pc + 3) L (.inr (.inr (.inl 74)) :: r) σ) := by
  rw [ex_getfield, ab_o1_s, hM, gt1_11_222_65, ab_op_s]
  rfl
theorem dg1_3_24_65 {M : ab_M} {K : ab_K} {Rt : ab_V → ab_S → Prop} {pc n : Nat} {L : ab_L} {r : List ab_V} {σ : ab_S} (hM : ab_own M = 3) : ab_ex ab_G1 M K Rt pc n L (.inr (.inr (.inl 65)) :: r) σ (.getfield 24) = (n = 3 ∧ K (pc + 3) L (.inr (.inr (.inl 75)) :: r) σ) := by
  rw [ex_getfield, ab_o1_s, hM, gt1_3_24_65, ab_op_s]
  rfl
theorem dg1_11_212_65 {M : ab_M} {K : ab_K} {Rt : ab_V → ab_S → Prop} {pc n : Nat} {L : ab_L} {r : List ab_V} {σ : ab_S} (hM : ab_own M = 11) : ab_ex ab_G1 M K Rt pc n L (.inr (.inr (.inl 65)) :: r) σ (.getfield 212) = (n = 3 ∧ K (pc + 3) L (.inr (.inr (.inl 75)) :: r) σ) := by
  rw [ex_getfield, ab_o1_s, hM, gt1_11_212_65, ab_op_s]
  rfl
theorem dg1_8_34_65 {M : ab_M} {K : ab_K} {Rt : ab_V → ab_S → Prop} {pc n : Nat} {L : ab_L} {r : List ab_V} {σ : ab_S} (hM : ab_own M = 8) : ab_ex ab_G1 M K Rt pc n L (.inr (.inr (.inl 65)) :: r) σ (.getfield 34) = (n = 3 ∧ K (pc + 3) L (.inr (.inr (.inl 3)) :: r) σ) := by
  rw [ex_getfield, ab_o1_s, hM, gt1_8_34_65, ab_op_s]
  rfl
theorem dg1_8_34_76 {M : ab_M} {K : ab_K} {Rt : ab_V → ab_S → Prop} {pc n : Nat} {L : ab_L} {r : List ab_V} {σ : ab_S} (hM : ab_own M = 8) : ab_ex ab_G1 M K Rt pc n L (.inr (.inr (.inl 76)) :: r) σ (.getfield 34) = (n = 3 ∧ K (pc + 3) L (.inr (.inr (.inl 3)) :: r) σ) := by
  rw [ex_getfield, ab_o1_s, hM, gt1_8_34_76, ab_op_s]
  rfl
theorem dg1_3_34_65 {M : ab_M} {K : ab_K} {Rt : ab_V → ab_S → Prop} {pc n : Nat} {L : ab_L} {r : List ab_V} {σ : ab_S} (hM : ab_own M = 3) : ab_ex ab_G1 M K Rt pc n L (.inr (.inr (.inl 65)) :: r) σ (.getfield 34) = (n = 3 ∧ K (pc + 3) L (.inr (.inr (.inl 3)) :: r) σ) := by
  rw [ex_getfield, ab_o1_s, hM, gt1_3_34_65, ab_op_s]
  rfl
theorem dg1_10_31_76 {M : ab_M} {K : ab_K} {Rt : ab_V → ab_S → Prop} {pc n : Nat} {L : ab_L} {r : List ab_V} {σ : ab_S} (hM : ab_own M = 10) : ab_ex ab_G1 M K Rt pc n L (.inr (.inr (.inl 76)) :: r) σ (.getfield 31) = (n = 3 ∧ K (pc + 3) L (.inr (.inr (.inl 3)) :: r) σ) := by
  rw [ex_getfield, ab_o1_s, hM, gt1_10_31_76, ab_op_s]
  rfl
theorem dg1_8_38_65 {M : ab_M} {K : ab_K} {Rt : ab_V → ab_S → Prop} {pc n : Nat} {L : ab_L} {r : List ab_V} {σ : ab_S} (hM : ab_own M = 8) : ab_ex ab_G1 M K Rt pc n L (.inr (.inr (.inl 65)) :: r) σ (.getfield 38) = (n = 3 ∧ K (pc + 3) L (.inr (.inr (.inl 28)) :: r) σ) := by
  rw [ex_getfield, ab_o1_s, hM, gt1_8_38_65, ab_op_s]
  rfl
theorem dg1_8_38_76 {M : ab_M} {K : ab_K} {Rt : ab_V → ab_S → Prop} {pc n : Nat} {L : ab_L} {r : List ab_V} {σ : ab_S} (hM : ab_own M = 8) : ab_ex ab_G1 M K Rt pc n L (.inr (.inr (.inl 76)) :: r) σ (.getfield 38) = (n = 3 ∧ K (pc + 3) L (.inr (.inr (.inl 28)) :: r) σ) := by
  rw [ex_getfield, ab_o1_s, hM, gt1_8_38_76, ab_op_s]
  rfl
theorem dg1_3_56_65 {M : ab_M} {K : ab_K} {Rt : ab_V → ab_S → Prop} {pc n : Nat} {L : ab_L} {r : List ab_V} {σ : ab_S} (hM : ab_own M = 3) : ab_ex ab_G1 M K Rt pc n L (.inr (.inr (.inl 65)) :: r) σ (.getfield 56) = (n = 3 ∧ K (pc + 3) L (.inr (.inr (.inl 28)) :: r) σ) := by
  rw [ex_getfield, ab_o1_s, hM, gt1_3_56_65, ab_op_s]
  rfl
theorem dg1_5_72_65 {M : ab_M} {K : ab_K} {Rt : ab_V → ab_S → Prop} {pc n : Nat} {L : ab_L} {r : List ab_V} {σ : ab_S} (hM : ab_own M = 5) : ab_ex ab_G1 M K Rt pc n L (.inr (.inr (.inl 65)) :: r) σ (.getfield 72) = (n = 3 ∧ K (pc + 3) L (.inr (.inr (.inl 28)) :: r) σ) := by
  rw [ex_getfield, ab_o1_s, hM, gt1_5_72_65, ab_op_s]
  rfl
theorem dg1_4_78_65 {M : ab_M} {K : ab_K} {Rt : ab_V → ab_S → Prop} {pc n : Nat} {L : ab_L} {r : List ab_V} {σ : ab_S} (hM : ab_own M = 4) : ab_ex ab_G1 M K Rt pc n L (.inr (.inr (.inl 65)) :: r) σ (.getfield 78) = (n = 3 ∧ K (pc + 3) L (.inr (.inr (.inl 28)) :: r) σ) := by
  rw [ex_getfield, ab_o1_s, hM, gt1_4_78_65, ab_op_s]
  rfl
theorem dg1_1_158_65 {M : ab_M} {K : ab_K} {Rt : ab_V → ab_S → Prop} {pc n : Nat} {L : ab_L} {r : List ab_V} {σ : ab_S} (hM : ab_own M = 1) : ab_ex ab_G1 M K Rt pc n L (.inr (.inr (.inl 65)) :: r) σ (.getfield 158) = (n = 3 ∧ K (pc + 3) L (.inr (.inr (.inl 28)) :: r) σ) := by
  rw [ex_getfield, ab_o1_s, hM, gt1_1_158_65, ab_op_s]
  rfl
theorem dg1_8_9_65 {M : ab_M} {K : ab_K} {Rt : ab_V → ab_S → Prop} {pc n : Nat} {L : ab_L} {r : List ab_V} {σ : ab_S} (hM : ab_own M = 8) : ab_ex ab_G1 M K Rt pc n L (.inr (.inr (.inl 65)) :: r) σ (.getfield 9) = (n = 3 ∧ K (pc + 3) L (.inr (.inr (.inl 66)) :: r) σ) := by
  rw [ex_getfield, ab_o1_s, hM, gt1_8_9_65, ab_op_s]
  rfl
theorem dg1_8_9_76 {M : ab_M} {K : ab_K} {Rt : ab_V → ab_S → Prop} {pc n : Nat} {L : ab_L} {r : List ab_V} {σ : ab_S} (hM : ab_own M = 8) : ab_ex ab_G1 M K Rt pc n L (.inr (.inr (.inl 76)) :: r) σ (.getfield 9) = (n = 3 ∧ K (pc + 3) L (.inr (.inr (.inl 77)) :: r) σ) := by
  rw [ex_getfield, ab_o1_s, hM, gt1_8_9_76, ab_op_s]
  rfl
theorem dg1_4_71_65 {M : ab_M} {K : ab_K} {Rt : ab_V → ab_S → Prop} {pc n : Nat} {L : ab_L} {r : List ab_V} {σ : ab_S} (hM : ab_own M = 4) : ab_ex ab_G1 M K Rt pc n L (.inr (.inr (.inl 65)) :: r) σ (.getfield 71) = (n = 3 ∧ K (pc + 3) L (.inr (.inr (.inl 66)) :: r) σ) := by
  rw [ex_getfield, ab_o1_s, hM, gt1_4_71_65, ab_op_s]
  rfl
theorem dg1_1_95_65 {M : ab_M} {K : ab_K} {Rt : ab_V → ab_S → Prop} {pc n : Nat} {L : ab_L} {r : List ab_V} {σ : ab_S} (hM : ab_own M = 1) : ab_ex ab_G1 M K Rt pc n L (.inr (.inr (.inl 65)) :: r) σ (.getfield 95) = (n = 3 ∧ K (pc + 3) L (.inr (.inr (.inl 66)) :: r) σ) := by
  rw [ex_getfield, ab_o1_s, hM, gt1_1_95_65, ab_op_s]
  rfl
theorem dg1_5_121_65 {M : ab_M} {K : ab_K} {Rt : ab_V → ab_S → Prop} {pc n : Nat} {L : ab_L} {r : List ab_V} {σ : ab_S} (hM : ab_own M = 5) : ab_ex ab_G1 M K Rt pc n L (.inr (.inr (.inl 65)) :: r) σ (.getfield 121) = (n = 3 ∧ K (pc + 3) L (.inr (.inr (.inl 66)) :: r) σ) := by
  rw [ex_getfield, ab_o1_s, hM, gt1_5_121_65, ab_op_s]
  rfl
theorem dg1_8_15_65 {M : ab_M} {K : ab_K} {Rt : ab_V → ab_S → Prop} {pc n : Nat} {L : ab_L} {r : List ab_V} {σ : ab_S} (hM : ab_own M = 8) : ab_ex ab_G1 M K Rt pc n L (.inr (.inr (.inl 65)) :: r) σ (.getfield 15) = (n = 3 ∧ K (pc + 3) L (.inr (.inr (.inl 67)) :: r) σ) := by
  rw [ex_getfield, ab_o1_s, hM, gt1_8_15_65, ab_op_s]
  rfl
theorem dg1_8_15_76 {M : ab_M} {K : ab_K} {Rt : ab_V → ab_S → Prop} {pc n : Nat} {L : ab_L} {r : List ab_V} {σ : ab_S} (hM : ab_own M = 8) : ab_ex ab_G1 M K Rt pc n L (.inr (.inr (.inl 76)) :: r) σ (.getfield 15) = (n = 3 ∧ K (pc + 3) L (.inr (.inr (.inl 78)) :: r) σ) := by
  rw [ex_getfield, ab_o1_s, hM, gt1_8_15_76, ab_op_s]
  rfl
theorem dg1_4_66_65 {M : ab_M} {K : ab_K} {Rt : ab_V → ab_S → Prop} {pc n : Nat} {L : ab_L} {r : List ab_V} {σ : ab_S} (hM : ab_own M = 4) : ab_ex ab_G1 M K Rt pc n L (.inr (.inr (.inl 65)) :: r) σ (.getfield 66) = (n = 3 ∧ K (pc + 3) L (.inr (.inr (.inl 67)) :: r) σ) := by
  rw [ex_getfield, ab_o1_s, hM, gt1_4_66_65, ab_op_s]
  rfl
theorem dg1_3_53_65 {M : ab_M} {K : ab_K} {Rt : ab_V → ab_S → Prop} {pc n : Nat} {L : ab_L} {r : List ab_V} {σ : ab_S} (hM : ab_own M = 3) : ab_ex ab_G1 M K Rt pc n L (.inr (.inr (.inl 65)) :: r) σ (.getfield 53) = (n = 3 ∧ K (pc + 3) L (.inr (.inr (.inl 67)) :: r) σ) := by
  rw [ex_getfield, ab_o1_s, hM, gt1_3_53_65, ab_op_s]
  rfl
theorem dg1_5_95_65 {M : ab_M} {K : ab_K} {Rt : ab_V → ab_S → Prop} {pc n : Nat} {L : ab_L} {r : List ab_V} {σ : ab_S} (hM : ab_own M = 5) : ab_ex ab_G1 M K Rt pc n L (.inr (.inr (.inl 65)) :: r) σ (.getfield 95) = (n = 3 ∧ K (pc + 3) L (.inr (.inr (.inl 67)) :: r) σ) := by
  rw [ex_getfield, ab_o1_s, hM, gt1_5_95_65, ab_op_s]
  rfl
theorem dg1_8_18_65 {M : ab_M} {K : ab_K} {Rt : ab_V → ab_S → Prop} {pc n : Nat} {L : ab_L} {r : List ab_V} {σ : ab_S} (hM : ab_own M = 8) : ab_ex ab_G1 M K Rt pc n L (.inr (.inr (.inl 65)) :: r) σ (.getfield 18) = (n = 3 ∧ K (pc + 3) L (.inr (.inr (.inl 68)) :: r) σ) := by
  rw [ex_getfield, ab_o1_s, hM, gt1_8_18_65, ab_op_s]
  rfl
theorem dg1_8_18_76 {M : ab_M} {K : ab_K} {Rt : ab_V → ab_S → Prop} {pc n : Nat} {L : ab_L} {r : List ab_V} {σ : ab_S} (hM : ab_own M = 8) : ab_ex ab_G1 M K Rt pc n L (.inr (.inr (.inl 76)) :: r) σ (.getfield 18) = (n = 3 ∧ K (pc + 3) L (.inr (.inr (.inl 79)) :: r) σ) := by
  rw [ex_getfield, ab_o1_s, hM, gt1_8_18_76, ab_op_s]
  rfl
theorem dg1_3_76_65 {M : ab_M} {K : ab_K} {Rt : ab_V → ab_S → Prop} {pc n : Nat} {L : ab_L} {r : List ab_V} {σ : ab_S} (hM : ab_own M = 3) : ab_ex ab_G1 M K Rt pc n L (.inr (.inr (.inl 65)) :: r) σ (.getfield 76) = (n = 3 ∧ K (pc + 3) L (.inr (.inr (.inl 68)) :: r) σ) := by
  rw [ex_getfield, ab_o1_s, hM, gt1_3_76_65, ab_op_s]
  rfl
theorem dg1_8_21_65 {M : ab_M} {K : ab_K} {Rt : ab_V → ab_S → Prop} {pc n : Nat} {L : ab_L} {r : List ab_V} {σ : ab_S} (hM : ab_own M = 8) : ab_ex ab_G1 M K Rt pc n L (.inr (.inr (.inl 65)) :: r) σ (.getfield 21) = (n = 3 ∧ K (pc + 3) L (.inr (.inr (.inl 69)) :: r) σ) := by
  rw [ex_getfield, ab_o1_s, hM, gt1_8_21_65, ab_op_s]
  rfl
theorem dg1_8_21_76 {M : ab_M} {K : ab_K} {Rt : ab_V → ab_S → Prop} {pc n : Nat} {L : ab_L} {r : List ab_V} {σ : ab_S} (hM : ab_own M = 8) : ab_ex ab_G1 M K Rt pc n L (.inr (.inr (.inl 76)) :: r) σ (.getfield 21) = (n = 3 ∧ K (pc + 3) L (.inr (.inr (.inl 80)) :: r) σ) := by
  rw [ex_getfield, ab_o1_s, hM, gt1_8_21_76, ab_op_s]
  rfl
theorem dg1_10_41_76 {M : ab_M} {K : ab_K} {Rt : ab_V → ab_S → Prop} {pc n : Nat} {L : ab_L} {r : List ab_V} {σ : ab_S} (hM : ab_own M = 10) : ab_ex ab_G1 M K Rt pc n L (.inr (.inr (.inl 76)) :: r) σ (.getfield 41) = (n = 3 ∧ K (pc + 3) L (.inr (.inr (.inl 80)) :: r) σ) := by
  rw [ex_getfield, ab_o1_s, hM, gt1_10_41_76, ab_op_s]
  rfl
theorem dg1_8_24_65 {M : ab_M} {K : ab_K} {Rt : ab_V → ab_S → Prop} {pc n : Nat} {L : ab_L} {r : List ab_V} {σ : ab_S} (hM : ab_own M = 8) : ab_ex ab_G1 M K Rt pc n L (.inr (.inr (.inl 65)) :: r) σ (.getfield 24) = (n = 3 ∧ K (pc + 3) L (.inr (.inr (.inl 70)) :: r) σ) := by
  rw [ex_getfield, ab_o1_s, hM, gt1_8_24_65, ab_op_s]
  rfl
theorem dg1_8_24_76 {M : ab_M} {K : ab_K} {Rt : ab_V → ab_S → Prop} {pc n : Nat} {L : ab_L} {r : List ab_V} {σ : ab_S} (hM : ab_own M = 8) : ab_ex ab_G1 M K Rt pc n L (.inr (.inr (.inl 76)) :: r) σ (.getfield 24) = (n = 3 ∧ K (pc + 3) L (.inr (.inr (.inl 81)) :: r) σ) := by
  rw [ex_getfield, ab_o1_s, hM, gt1_8_24_76, ab_op_s]
  rfl
theorem dg1_8_27_65 {M : ab_M} {K : ab_K} {Rt : ab_V → ab_S → Prop} {pc n : Nat} {L : ab_L} {r : List ab_V} {σ : ab_S} (hM : ab_own M = 8) : ab_ex ab_G1 M K Rt pc n L (.inr (.inr (.inl 65)) :: r) σ (.getfield 27) = (n = 3 ∧ K (pc + 3) L (.inl (σ 65 7) :: r) σ) := by
  rw [ex_getfield, ab_o1_s, hM, gt1_8_27_65, ab_op_s]
  rfl
theorem dg1_8_27_76 {M : ab_M} {K : ab_K} {Rt : ab_V → ab_S → Prop} {pc n : Nat} {L : ab_L} {r : List ab_V} {σ : ab_S} (hM : ab_own M = 8) : ab_ex ab_G1 M K Rt pc n L (.inr (.inr (.inl 76)) :: r) σ (.getfield 27) = (n = 3 ∧ K (pc + 3) L (.inl (σ 76 7) :: r) σ) := by
  rw [ex_getfield, ab_o1_s, hM, gt1_8_27_76, ab_op_s]
  rfl
theorem dg1_3_33_65 {M : ab_M} {K : ab_K} {Rt : ab_V → ab_S → Prop} {pc n : Nat} {L : ab_L} {r : List ab_V} {σ : ab_S} (hM : ab_own M = 3) : ab_ex ab_G1 M K Rt pc n L (.inr (.inr (.inl 65)) :: r) σ (.getfield 33) = (n = 3 ∧ K (pc + 3) L (.inl (σ 65 7) :: r) σ) := by
  rw [ex_getfield, ab_o1_s, hM, gt1_3_33_65, ab_op_s]
  rfl
theorem dg1_10_53_76 {M : ab_M} {K : ab_K} {Rt : ab_V → ab_S → Prop} {pc n : Nat} {L : ab_L} {r : List ab_V} {σ : ab_S} (hM : ab_own M = 10) : ab_ex ab_G1 M K Rt pc n L (.inr (.inr (.inl 76)) :: r) σ (.getfield 53) = (n = 3 ∧ K (pc + 3) L (.inl (σ 76 7) :: r) σ) := by
  rw [ex_getfield, ab_o1_s, hM, gt1_10_53_76, ab_op_s]
  rfl
theorem dg1_4_140_65 {M : ab_M} {K : ab_K} {Rt : ab_V → ab_S → Prop} {pc n : Nat} {L : ab_L} {r : List ab_V} {σ : ab_S} (hM : ab_own M = 4) : ab_ex ab_G1 M K Rt pc n L (.inr (.inr (.inl 65)) :: r) σ (.getfield 140) = (n = 3 ∧ K (pc + 3) L (.inl (σ 65 7) :: r) σ) := by
  rw [ex_getfield, ab_o1_s, hM, gt1_4_140_65, ab_op_s]
  rfl
theorem dg1_8_31_65 {M : ab_M} {K : ab_K} {Rt : ab_V → ab_S → Prop} {pc n : Nat} {L : ab_L} {r : List ab_V} {σ : ab_S} (hM : ab_own M = 8) : ab_ex ab_G1 M K Rt pc n L (.inr (.inr (.inl 65)) :: r) σ (.getfield 31) = (n = 3 ∧ K (pc + 3) L (.inl (σ 65 8) :: r) σ) := by
  rw [ex_getfield, ab_o1_s, hM, gt1_8_31_65, ab_op_s]
  rfl
theorem dg1_8_31_76 {M : ab_M} {K : ab_K} {Rt : ab_V → ab_S → Prop} {pc n : Nat} {L : ab_L} {r : List ab_V} {σ : ab_S} (hM : ab_own M = 8) : ab_ex ab_G1 M K Rt pc n L (.inr (.inr (.inl 76)) :: r) σ (.getfield 31) = (n = 3 ∧ K (pc + 3) L (.inl (σ 76 8) :: r) σ) := by
  rw [ex_getfield, ab_o1_s, hM, gt1_8_31_76, ab_op_s]
  rfl
theorem dg1_3_43_65 {M : ab_M} {K : ab_K} {Rt : ab_V → ab_S → Prop} {pc n : Nat} {L : ab_L} {r : List ab_V} {σ : ab_S} (hM : ab_own M = 3) : ab_ex ab_G1 M K Rt pc n L (.inr (.inr (.inl 65)) :: r) σ (.getfield 43) = (n = 3 ∧ K (pc + 3) L (.inl (σ 65 8) :: r) σ) := by
  rw [ex_getfield, ab_o1_s, hM, gt1_3_43_65, ab_op_s]
  rfl
theorem dg1_10_9_76 {M : ab_M} {K : ab_K} {Rt : ab_V → ab_S → Prop} {pc n : Nat} {L : ab_L} {r : List ab_V} {σ : ab_S} (hM : ab_own M = 10) : ab_ex ab_G1 M K Rt pc n L (.inr (.inr (.inl 76)) :: r) σ (.getfield 9) = (n = 3 ∧ K (pc + 3) L (.inr (.inl (σ 76 9)) :: r) σ) := by
  rw [ex_getfield, ab_o1_s, hM, gt1_10_9_76, ab_op_s]
  rfl
theorem dg1_10_15_76 {M : ab_M} {K : ab_K} {Rt : ab_V → ab_S → Prop} {pc n : Nat} {L : ab_L} {r : List ab_V} {σ : ab_S} (hM : ab_own M = 10) : ab_ex ab_G1 M K Rt pc n L (.inr (.inr (.inl 76)) :: r) σ (.getfield 15) = (n = 3 ∧ K (pc + 3) L (.inl (σ 76 10) :: r) σ) := by
  rw [ex_getfield, ab_o1_s, hM, gt1_10_15_76, ab_op_s]
  rfl
theorem dg1_10_21_76 {M : ab_M} {K : ab_K} {Rt : ab_V → ab_S → Prop} {pc n : Nat} {L : ab_L} {r : List ab_V} {σ : ab_S} (hM : ab_own M = 10) : ab_ex ab_G1 M K Rt pc n L (.inr (.inr (.inl 76)) :: r) σ (.getfield 21) = (n = 3 ∧ K (pc + 3) L (.inr (.inl (σ 76 11)) :: r) σ) := by
  rw [ex_getfield, ab_o1_s, hM, gt1_10_21_76, ab_op_s]
  rfl
theorem dg1_11_315_76 {M : ab_M} {K : ab_K} {Rt : ab_V → ab_S → Prop} {pc n : Nat} {L : ab_L} {r : List ab_V} {σ : ab_S} (hM : ab_own M = 11) : ab_ex ab_G1 M K Rt pc n L (.inr (.inr (.inl 76)) :: r) σ (.getfield 315) = (n = 3 ∧ K (pc + 3) L (.inr (.inl (σ 76 11)) :: r) σ) := by
  rw [ex_getfield, ab_o1_s, hM, gt1_11_315_76, ab_op_s]
  rfl
theorem dg1_10_24_76 {M : ab_M} {K : ab_K} {Rt : ab_V → ab_S → Prop} {pc n : Nat} {L : ab_L} {r : List ab_V} {σ : ab_S} (hM : ab_own M = 10) : ab_ex ab_G1 M K Rt pc n L (.inr (.inr (.inl 76)) :: r) σ (.getfield 24) = (n = 3 ∧ K (pc + 3) L (.inl (σ 76 12) :: r) σ) := by
  rw [ex_getfield, ab_o1_s, hM, gt1_10_24_76, ab_op_s]
  rfl
theorem dg1_11_318_76 {M : ab_M} {K : ab_K} {Rt : ab_V → ab_S → Prop} {pc n : Nat} {L : ab_L} {r : List ab_V} {σ : ab_S} (hM : ab_own M = 11) : ab_ex ab_G1 M K Rt pc n L (.inr (.inr (.inl 76)) :: r) σ (.getfield 318) = (n = 3 ∧ K (pc + 3) L (.inl (σ 76 12) :: r) σ) := by
  rw [ex_getfield, ab_o1_s, hM, gt1_11_318_76, ab_op_s]
  rfl
theorem dg1_10_28_76 {M : ab_M} {K : ab_K} {Rt : ab_V → ab_S → Prop} {pc n : Nat} {L : ab_L} {r : List ab_V} {σ : ab_S} (hM : ab_own M = 10) : ab_ex ab_G1 M K Rt pc n L (.inr (.inr (.inl 76)) :: r) σ (.getfield 28) = (n = 3 ∧ K (pc + 3) L (.inl (σ 76 13) :: r) σ) := by
  rw [ex_getfield, ab_o1_s, hM, gt1_10_28_76, ab_op_s]
  rfl
theorem dg1_11_321_76 {M : ab_M} {K : ab_K} {Rt : ab_V → ab_S → Prop} {pc n : Nat} {L : ab_L} {r : List ab_V} {σ : ab_S} (hM : ab_own M = 11) : ab_ex ab_G1 M K Rt pc n L (.inr (.inr (.inl 76)) :: r) σ (.getfield 321) = (n = 3 ∧ K (pc + 3) L (.inl (σ 76 13) :: r) σ) := by
  rw [ex_getfield, ab_o1_s, hM, gt1_11_321_76, ab_op_s]
  rfl
theorem dg1_4_49_82 {M : ab_M} {K : ab_K} {Rt : ab_V → ab_S → Prop} {pc n : Nat} {L : ab_L} {r : List ab_V} {σ : ab_S} (hM : ab_own M = 4) : ab_ex ab_G1 M K Rt pc n L (.inr (.inr (.inl 82)) :: r) σ (.getfield 49) = (n = 3 ∧ K (pc + 3) L (.inr (.inr (.inl 3)) :: r) σ) := by
  rw [ex_getfield, ab_o1_s, hM, gt1_4_49_82, ab_op_s]
  rfl
theorem dg1_4_53_82 {M : ab_M} {K : ab_K} {Rt : ab_V → ab_S → Prop} {pc n : Nat} {L : ab_L} {r : List ab_V} {σ : ab_S} (hM : ab_own M = 4) : ab_ex ab_G1 M K Rt pc n L (.inr (.inr (.inl 82)) :: r) σ (.getfield 53) = (n = 3 ∧ K (pc + 3) L (.inr (.inr (.inl 34)) :: r) σ) := by
  rw [ex_getfield, ab_o1_s, hM, gt1_4_53_82, ab_op_s]
  rfl
theorem dg1_4_57_82 {M : ab_M} {K : ab_K} {Rt : ab_V → ab_S → Prop} {pc n : Nat} {L : ab_L} {r : List ab_V} {σ : ab_S} (hM : ab_own M = 4) : ab_ex ab_G1 M K Rt pc n L (.inr (.inr (.inl 82)) :: r) σ (.getfield 57) = (n = 3 ∧ K (pc + 3) L (.inr (.inr (.inl 65)) :: r) σ) := by
  rw [ex_getfield, ab_o1_s, hM, gt1_4_57_82, ab_op_s]
  rfl
theorem dg1_4_11_82 {M : ab_M} {K : ab_K} {Rt : ab_V → ab_S → Prop} {pc n : Nat} {L : ab_L} {r : List ab_V} {σ : ab_S} (hM : ab_own M = 4) : ab_ex ab_G1 M K Rt pc n L (.inr (.inr (.inl 82)) :: r) σ (.getfield 11) = (n = 3 ∧ K (pc + 3) L (.inr (.inr (.inl 83)) :: r) σ) := by
  rw [ex_getfield, ab_o1_s, hM, gt1_4_11_82, ab_op_s]
  rfl
theorem dg1_4_15_82 {M : ab_M} {K : ab_K} {Rt : ab_V → ab_S → Prop} {pc n : Nat} {L : ab_L} {r : List ab_V} {σ : ab_S} (hM : ab_own M = 4) : ab_ex ab_G1 M K Rt pc n L (.inr (.inr (.inl 82)) :: r) σ (.getfield 15) = (n = 3 ∧ K (pc + 3) L (.inr (.inr (.inl 84)) :: r) σ) := by
  rw [ex_getfield, ab_o1_s, hM, gt1_4_15_82, ab_op_s]
  rfl
theorem dg1_4_19_82 {M : ab_M} {K : ab_K} {Rt : ab_V → ab_S → Prop} {pc n : Nat} {L : ab_L} {r : List ab_V} {σ : ab_S} (hM : ab_own M = 4) : ab_ex ab_G1 M K Rt pc n L (.inr (.inr (.inl 82)) :: r) σ (.getfield 19) = (n = 3 ∧ K (pc + 3) L (.inr (.inr (.inl 85)) :: r) σ) := by
  rw [ex_getfield, ab_o1_s, hM, gt1_4_19_82, ab_op_s]
  rfl
theorem dg1_11_251_82 {M : ab_M} {K : ab_K} {Rt : ab_V → ab_S → Prop} {pc n : Nat} {L : ab_L} {r : List ab_V} {σ : ab_S} (hM : ab_own M = 11) : ab_ex ab_G1 M K Rt pc n L (.inr (.inr (.inl 82)) :: r) σ (.getfield 251) = (n = 3 ∧ K (pc + 3) L (.inr (.inr (.inl 85)) :: r) σ) := by
  rw [ex_getfield, ab_o1_s, hM, gt1_11_251_82, ab_op_s]
  rfl
theorem dg1_4_22_82 {M : ab_M} {K : ab_K} {Rt : ab_V → ab_S → Prop} {pc n : Nat} {L : ab_L} {r : List ab_V} {σ : ab_S} (hM : ab_own M = 4) : ab_ex ab_G1 M K Rt pc n L (.inr (.inr (.inl 82)) :: r) σ (.getfield 22) = (n = 3 ∧ K (pc + 3) L (.inr (.inr (.inl 86)) :: r) σ) := by
  rw [ex_getfield, ab_o1_s, hM, gt1_4_22_82, ab_op_s]
  rfl
theorem dg1_11_254_82 {M : ab_M} {K : ab_K} {Rt : ab_V → ab_S → Prop} {pc n : Nat} {L : ab_L} {r : List ab_V} {σ : ab_S} (hM : ab_own M = 11) : ab_ex ab_G1 M K Rt pc n L (.inr (.inr (.inl 82)) :: r) σ (.getfield 254) = (n = 3 ∧ K (pc + 3) L (.inr (.inr (.inl 86)) :: r) σ) := by
  rw [ex_getfield, ab_o1_s, hM, gt1_11_254_82, ab_op_s]
  rfl
theorem dg1_4_25_82 {M : ab_M} {K : ab_K} {Rt : ab_V → ab_S → Prop} {pc n : Nat} {L : ab_L} {r : List ab_V} {σ : ab_S} (hM : ab_own M = 4) : ab_ex ab_G1 M K Rt pc n L (.inr (.inr (.inl 82)) :: r) σ (.getfield 25) = (n = 3 ∧ K (pc + 3) L (.inr (.inr (.inl 87)) :: r) σ) := by
  rw [ex_getfield, ab_o1_s, hM, gt1_4_25_82, ab_op_s]
  rfl
theorem dg1_11_257_82 {M : ab_M} {K : ab_K} {Rt : ab_V → ab_S → Prop} {pc n : Nat} {L : ab_L} {r : List ab_V} {σ : ab_S} (hM : ab_own M = 11) : ab_ex ab_G1 M K Rt pc n L (.inr (.inr (.inl 82)) :: r) σ (.getfield 257) = (n = 3 ∧ K (pc + 3) L (.inr (.inr (.inl 87)) :: r) σ) := by
  rw [ex_getfield, ab_o1_s, hM, gt1_11_257_82, ab_op_s]
  rfl
theorem dg1_4_28_82 {M : ab_M} {K : ab_K} {Rt : ab_V → ab_S → Prop} {pc n : Nat} {L : ab_L} {r : List ab_V} {σ : ab_S} (hM : ab_own M = 4) : ab_ex ab_G1 M K Rt pc n L (.inr (.inr (.inl 82)) :: r) σ (.getfield 28) = (n = 3 ∧ K (pc + 3) L (.inl (σ 82 8) :: r) σ) := by
  rw [ex_getfield, ab_o1_s, hM, gt1_4_28_82, ab_op_s]
  rfl
theorem dg1_4_32_82 {M : ab_M} {K : ab_K} {Rt : ab_V → ab_S → Prop} {pc n : Nat} {L : ab_L} {r : List ab_V} {σ : ab_S} (hM : ab_own M = 4) : ab_ex ab_G1 M K Rt pc n L (.inr (.inr (.inl 82)) :: r) σ (.getfield 32) = (n = 3 ∧ K (pc + 3) L (.inl (σ 82 9) :: r) σ) := by
  rw [ex_getfield, ab_o1_s, hM, gt1_4_32_82, ab_op_s]
  rfl
theorem dg1_11_232_82 {M : ab_M} {K : ab_K} {Rt : ab_V → ab_S → Prop} {pc n : Nat} {L : ab_L} {r : List ab_V} {σ : ab_S} (hM : ab_own M = 11) : ab_ex ab_G1 M K Rt pc n L (.inr (.inr (.inl 82)) :: r) σ (.getfield 232) = (n = 3 ∧ K (pc + 3) L (.inl (σ 82 9) :: r) σ) := by
  rw [ex_getfield, ab_o1_s, hM, gt1_11_232_82, ab_op_s]
  rfl
theorem dg1_4_35_82 {M : ab_M} {K : ab_K} {Rt : ab_V → ab_S → Prop} {pc n : Nat} {L : ab_L} {r : List ab_V} {σ : ab_S} (hM : ab_own M = 4) : ab_ex ab_G1 M K Rt pc n L (.inr (.inr (.inl 82)) :: r) σ (.getfield 35) = (n = 3 ∧ K (pc + 3) L (.inr (.inl (σ 82 10)) :: r) σ) := by
  rw [ex_getfield, ab_o1_s, hM, gt1_4_35_82, ab_op_s]
  rfl
theorem dg1_11_235_82 {M : ab_M} {K : ab_K} {Rt : ab_V → ab_S → Prop} {pc n : Nat} {L : ab_L} {r : List ab_V} {σ : ab_S} (hM : ab_own M = 11) : ab_ex ab_G1 M K Rt pc n L (.inr (.inr (.inl 82)) :: r) σ (.getfield 235) = (n = 3 ∧ K (pc + 3) L (.inr (.inl (σ 82 10)) :: r) σ) := by
  rw [ex_getfield, ab_o1_s, hM, gt1_11_235_82, ab_op_s]
  rfl
theorem dg1_4_39_82 {M : ab_M} {K : ab_K} {Rt : ab_V → ab_S → Prop} {pc n : Nat} {L : ab_L} {r : List ab_V} {σ : ab_S} (hM : ab_own M = 4) : ab_ex ab_G1 M K Rt pc n L (.inr (.inr (.inl 82)) :: r) σ (.getfield 39) = (n = 3 ∧ K (pc + 3) L (.inl (σ 82 11) :: r) σ) := by
  rw [ex_getfield, ab_o1_s, hM, gt1_4_39_82, ab_op_s]
  rfl
theorem dg1_11_239_82 {M : ab_M} {K : ab_K} {Rt : ab_V → ab_S → Prop} {pc n : Nat} {L : ab_L} {r : List ab_V} {σ : ab_S} (hM : ab_own M = 11) : ab_ex ab_G1 M K Rt pc n L (.inr (.inr (.inl 82)) :: r) σ (.getfield 239) = (n = 3 ∧ K (pc + 3) L (.inl (σ 82 11) :: r) σ) := by
  rw [ex_getfield, ab_o1_s, hM, gt1_11_239_82, ab_op_s]
  rfl
theorem dg1_4_43_82 {M : ab_M} {K : ab_K} {Rt : ab_V → ab_S → Prop} {pc n : Nat} {L : ab_L} {r : List ab_V} {σ : ab_S} (hM : ab_own M = 4) : ab_ex ab_G1 M K Rt pc n L (.inr (.inr (.inl 82)) :: r) σ (.getfield 43) = (n = 3 ∧ K (pc + 3) L (.inl (σ 82 12) :: r) σ) := by
  rw [ex_getfield, ab_o1_s, hM, gt1_4_43_82, ab_op_s]
  rfl
theorem dg1_4_46_82 {M : ab_M} {K : ab_K} {Rt : ab_V → ab_S → Prop} {pc n : Nat} {L : ab_L} {r : List ab_V} {σ : ab_S} (hM : ab_own M = 4) : ab_ex ab_G1 M K Rt pc n L (.inr (.inr (.inl 82)) :: r) σ (.getfield 46) = (n = 3 ∧ K (pc + 3) L (.inl (σ 82 13) :: r) σ) := by
  rw [ex_getfield, ab_o1_s, hM, gt1_4_46_82, ab_op_s]
  rfl
theorem dg1_1_53_88 {M : ab_M} {K : ab_K} {Rt : ab_V → ab_S → Prop} {pc n : Nat} {L : ab_L} {r : List ab_V} {σ : ab_S} (hM : ab_own M = 1) : ab_ex ab_G1 M K Rt pc n L (.inr (.inr (.inl 88)) :: r) σ (.getfield 53) = (n = 3 ∧ K (pc + 3) L (.inr (.inr (.inl 3)) :: r) σ) := by
  rw [ex_getfield, ab_o1_s, hM, gt1_1_53_88, ab_op_s]
  rfl
theorem dg1_1_57_88 {M : ab_M} {K : ab_K} {Rt : ab_V → ab_S → Prop} {pc n : Nat} {L : ab_L} {r : List ab_V} {σ : ab_S} (hM : ab_own M = 1) : ab_ex ab_G1 M K Rt pc n L (.inr (.inr (.inl 88)) :: r) σ (.getfield 57) = (n = 3 ∧ K (pc + 3) L (.inr (.inr (.inl 34)) :: r) σ) := by
  rw [ex_getfield, ab_o1_s, hM, gt1_1_57_88, ab_op_s]
  rfl
theorem dg1_1_61_88 {M : ab_M} {K : ab_K} {Rt : ab_V → ab_S → Prop} {pc n : Nat} {L : ab_L} {r : List ab_V} {σ : ab_S} (hM : ab_own M = 1) : ab_ex ab_G1 M K Rt pc n L (.inr (.inr (.inl 88)) :: r) σ (.getfield 61) = (n = 3 ∧ K (pc + 3) L (.inr (.inr (.inl 65)) :: r) σ) := by
  rw [ex_getfield, ab_o1_s, hM, gt1_1_61_88, ab_op_s]
  rfl
theorem dg1_1_65_88 {M : ab_M} {K : ab_K} {Rt : ab_V → ab_S → Prop} {pc n : Nat} {L : ab_L} {r : List ab_V} {σ : ab_S} (hM : ab_own M = 1) : ab_ex ab_G1 M K Rt pc n L (.inr (.inr (.inl 88)) :: r) σ (.getfield 65) = (n = 3 ∧ K (pc + 3) L (.inr (.inr (.inl 76)) :: r) σ) := by
  rw [ex_getfield, ab_o1_s, hM, gt1_1_65_88, ab_op_s]
  rfl
theorem dg1_1_11_88 {M : ab_M} {K : ab_K} {Rt : ab_V → ab_S → Prop} {pc n : Nat} {L : ab_L} {r : List ab_V} {σ : ab_S} (hM : ab_own M = 1) : ab_ex ab_G1 M K Rt pc n L (.inr (.inr (.inl 88)) :: r) σ (.getfield 11) = (n = 3 ∧ K (pc + 3) L (.inr (.inr (.inl 89)) :: r) σ) := by
  rw [ex_getfield, ab_o1_s, hM, gt1_1_11_88, ab_op_s]
  rfl
theorem dg1_1_15_88 {M : ab_M} {K : ab_K} {Rt : ab_V → ab_S → Prop} {pc n : Nat} {L : ab_L} {r : List ab_V} {σ : ab_S} (hM : ab_own M = 1) : ab_ex ab_G1 M K Rt pc n L (.inr (.inr (.inl 88)) :: r) σ (.getfield 15) = (n = 3 ∧ K (pc + 3) L (.inr (.inr (.inl 90)) :: r) σ) := by
  rw [ex_getfield, ab_o1_s, hM, gt1_1_15_88, ab_op_s]
  rfl
theorem dg1_11_270_88 {M : ab_M} {K : ab_K} {Rt : ab_V → ab_S → Prop} {pc n : Nat} {L : ab_L} {r : List ab_V} {σ : ab_S} (hM : ab_own M = 11) : ab_ex ab_G1 M K Rt pc n L (.inr (.inr (.inl 88)) :: r) σ (.getfield 270) = (n = 3 ∧ K (pc + 3) L (.inr (.inr (.inl 90)) :: r) σ) := by
  rw [ex_getfield, ab_o1_s, hM, gt1_11_270_88, ab_op_s]
  rfl
theorem dg1_1_19_88 {M : ab_M} {K : ab_K} {Rt : ab_V → ab_S → Prop} {pc n : Nat} {L : ab_L} {r : List ab_V} {σ : ab_S} (hM : ab_own M = 1) : ab_ex ab_G1 M K Rt pc n L (.inr (.inr (.inl 88)) :: r) σ (.getfield 19) = (n = 3 ∧ K (pc + 3) L (.inr (.inr (.inl 91)) :: r) σ) := by
  rw [ex_getfield, ab_o1_s, hM, gt1_1_19_88, ab_op_s]
  rfl
theorem dg1_1_22_88 {M : ab_M} {K : ab_K} {Rt : ab_V → ab_S → Prop} {pc n : Nat} {L : ab_L} {r : List ab_V} {σ : ab_S} (hM : ab_own M = 1) : ab_ex ab_G1 M K Rt pc n L (.inr (.inr (.inl 88)) :: r) σ (.getfield 22) = (n = 3 ∧ K (pc + 3) L (.inr (.inr (.inl 92)) :: r) σ) := by
  rw [ex_getfield, ab_o1_s, hM, gt1_1_22_88, ab_op_s]
  rfl
theorem dg1_1_25_88 {M : ab_M} {K : ab_K} {Rt : ab_V → ab_S → Prop} {pc n : Nat} {L : ab_L} {r : List ab_V} {σ : ab_S} (hM : ab_own M = 1) : ab_ex ab_G1 M K Rt pc n L (.inr (.inr (.inl 88)) :: r) σ (.getfield 25) = (n = 3 ∧ K (pc + 3) L (.inr (.inr (.inl 93)) :: r) σ) := by
  rw [ex_getfield, ab_o1_s, hM, gt1_1_25_88, ab_op_s]
  rfl
theorem dg1_1_28_88 {M : ab_M} {K : ab_K} {Rt : ab_V → ab_S → Prop} {pc n : Nat} {L : ab_L} {r : List ab_V} {σ : ab_S} (hM : ab_own M = 1) : ab_ex ab_G1 M K Rt pc n L (.inr (.inr (.inl 88)) :: r) σ (.getfield 28) = (n = 3 ∧ K (pc + 3) L (.inr (.inr (.inl 94)) :: r) σ) := by
  rw [ex_getfield, ab_o1_s, hM, gt1_1_28_88, ab_op_s]
  rfl
theorem dg1_1_31_88 {M : ab_M} {K : ab_K} {Rt : ab_V → ab_S → Prop} {pc n : Nat} {L : ab_L} {r : List ab_V} {σ : ab_S} (hM : ab_own M = 1) : ab_ex ab_G1 M K Rt pc n L (.inr (.inr (.inl 88)) :: r) σ (.getfield 31) = (n = 3 ∧ K (pc + 3) L (.inr (.inr (.inl 95)) :: r) σ) := by
  rw [ex_getfield, ab_o1_s, hM, gt1_1_31_88, ab_op_s]
  rfl
theorem dg1_11_332_88 {M : ab_M} {K : ab_K} {Rt : ab_V → ab_S → Prop} {pc n : Nat} {L : ab_L} {r : List ab_V} {σ : ab_S} (hM : ab_own M = 11) : ab_ex ab_G1 M K Rt pc n L (.inr (.inr (.inl 88)) :: r) σ (.getfield 332) = (n = 3 ∧ K (pc + 3) L (.inr (.inr (.inl 95)) :: r) σ) := by
  rw [ex_getfield, ab_o1_s, hM, gt1_11_332_88, ab_op_s]
  rfl
theorem dg1_1_34_88 {M : ab_M} {K : ab_K} {Rt : ab_V → ab_S → Prop} {pc n : Nat} {L : ab_L} {r : List ab_V} {σ : ab_S} (hM : ab_own M = 1) : ab_ex ab_G1 M K Rt pc n L (.inr (.inr (.inl 88)) :: r) σ (.getfield 34) = (n = 3 ∧ K (pc + 3) L (.inl (σ 88 11) :: r) σ) := by
  rw [ex_getfield, ab_o1_s, hM, gt1_1_34_88, ab_op_s]
  rfl
theorem dg1_1_38_88 {M : ab_M} {K : ab_K} {Rt : ab_V → ab_S → Prop} {pc n : Nat} {L : ab_L} {r : List ab_V} {σ : ab_S} (hM : ab_own M = 1) : ab_ex ab_G1 M K Rt pc n L (.inr (.inr (.inl 88)) :: r) σ (.getfield 38) = (n = 3 ∧ K (pc + 3) L (.inl (σ 88 12) :: r) σ) := by
  rw [ex_getfield, ab_o1_s, hM, gt1_1_38_88, ab_op_s]
  rfl
theorem dg1_11_267_88 {M : ab_M} {K : ab_K} {Rt : ab_V → ab_S → Prop} {pc n : Nat} {L : ab_L} {r : List ab_V} {σ : ab_S} (hM : ab_own M = 11) : ab_ex ab_G1 M K Rt pc n L (.inr (.inr (.inl 88)) :: r) σ (.getfield 267) = (n = 3 ∧ K (pc + 3) L (.inl (σ 88 12) :: r) σ) := by
  rw [ex_getfield, ab_o1_s, hM, gt1_11_267_88, ab_op_s]
  rfl
theorem dg1_1_41_88 {M : ab_M} {K : ab_K} {Rt : ab_V → ab_S → Prop} {pc n : Nat} {L : ab_L} {r : List ab_V} {σ : ab_S} (hM : ab_own M = 1) : ab_ex ab_G1 M K Rt pc n L (.inr (.inr (.inl 88)) :: r) σ (.getfield 41) = (n = 3 ∧ K (pc + 3) L (.inl (σ 88 13) :: r) σ) := by
  rw [ex_getfield, ab_o1_s, hM, gt1_1_41_88, ab_op_s]
  rfl
theorem dg1_1_44_88 {M : ab_M} {K : ab_K} {Rt : ab_V → ab_S → Prop} {pc n : Nat} {L : ab_L} {r : List ab_V} {σ : ab_S} (hM : ab_own M = 1) : ab_ex ab_G1 M K Rt pc n L (.inr (.inr (.inl 88)) :: r) σ (.getfield 44) = (n = 3 ∧ K (pc + 3) L (.inl (σ 88 14) :: r) σ) := by
  rw [ex_getfield, ab_o1_s, hM, gt1_1_44_88, ab_op_s]
  rfl
theorem dg1_1_47_88 {M : ab_M} {K : ab_K} {Rt : ab_V → ab_S → Prop} {pc n : Nat} {L : ab_L} {r : List ab_V} {σ : ab_S} (hM : ab_own M = 1) : ab_ex ab_G1 M K Rt pc n L (.inr (.inr (.inl 88)) :: r) σ (.getfield 47) = (n = 3 ∧ K (pc + 3) L (.inl (σ 88 15) :: r) σ) := by
  rw [ex_getfield, ab_o1_s, hM, gt1_1_47_88, ab_op_s]
  rfl
theorem dg1_1_50_88 {M : ab_M} {K : ab_K} {Rt : ab_V → ab_S → Prop} {pc n : Nat} {L : ab_L} {r : List ab_V} {σ : ab_S} (hM : ab_own M = 1) : ab_ex ab_G1 M K Rt pc n L (.inr (.inr (.inl 88)) :: r) σ (.getfield 50) = (n = 3 ∧ K (pc + 3) L (.inl (σ 88 16) :: r) σ) := by
  rw [ex_getfield, ab_o1_s, hM, gt1_1_50_88, ab_op_s]
  rfl
theorem dg1_5_50_96 {M : ab_M} {K : ab_K} {Rt : ab_V → ab_S → Prop} {pc n : Nat} {L : ab_L} {r : List ab_V} {σ : ab_S} (hM : ab_own M = 5) : ab_ex ab_G1 M K Rt pc n L (.inr (.inr (.inl 96)) :: r) σ (.getfield 50) = (n = 3 ∧ K (pc + 3) L (.inr (.inr (.inl 3)) :: r) σ) := by
  rw [ex_getfield, ab_o1_s, hM, gt1_5_50_96, ab_op_s]
  rfl
theorem dg1_5_54_96 {M : ab_M} {K : ab_K} {Rt : ab_V → ab_S → Prop} {pc n : Nat} {L : ab_L} {r : List ab_V} {σ : ab_S} (hM : ab_own M = 5) : ab_ex ab_G1 M K Rt pc n L (.inr (.inr (.inl 96)) :: r) σ (.getfield 54) = (n = 3 ∧ K (pc + 3) L (.inr (.inr (.inl 34)) :: r) σ) := by
  rw [ex_getfield, ab_o1_s, hM, gt1_5_54_96, ab_op_s]
  rfl
theorem dg1_5_58_96 {M : ab_M} {K : ab_K} {Rt : ab_V → ab_S → Prop} {pc n : Nat} {L : ab_L} {r : List ab_V} {σ : ab_S} (hM : ab_own M = 5) : ab_ex ab_G1 M K Rt pc n L (.inr (.inr (.inl 96)) :: r) σ (.getfield 58) = (n = 3 ∧ K (pc + 3) L (.inr (.inr (.inl 65)) :: r) σ) := by
  rw [ex_getfield, ab_o1_s, hM, gt1_5_58_96, ab_op_s]
  rfl
theorem dg1_5_11_96 {M : ab_M} {K : ab_K} {Rt : ab_V → ab_S → Prop} {pc n : Nat} {L : ab_L} {r : List ab_V} {σ : ab_S} (hM : ab_own M = 5) : ab_ex ab_G1 M K Rt pc n L (.inr (.inr (.inl 96)) :: r) σ (.getfield 11) = (n = 3 ∧ K (pc + 3) L (.inr (.inr (.inl 97)) :: r) σ) := by
  rw [ex_getfield, ab_o1_s, hM, gt1_5_11_96, ab_op_s]
  rfl
theorem dg1_5_15_96 {M : ab_M} {K : ab_K} {Rt : ab_V → ab_S → Prop} {pc n : Nat} {L : ab_L} {r : List ab_V} {σ : ab_S} (hM : ab_own M = 5) : ab_ex ab_G1 M K Rt pc n L (.inr (.inr (.inl 96)) :: r) σ (.getfield 15) = (n = 3 ∧ K (pc + 3) L (.inr (.inr (.inl 98)) :: r) σ) := by
  rw [ex_getfield, ab_o1_s, hM, gt1_5_15_96, ab_op_s]
  rfl
theorem dg1_5_18_96 {M : ab_M} {K : ab_K} {Rt : ab_V → ab_S → Prop} {pc n : Nat} {L : ab_L} {r : List ab_V} {σ : ab_S} (hM : ab_own M = 5) : ab_ex ab_G1 M K Rt pc n L (.inr (.inr (.inl 96)) :: r) σ (.getfield 18) = (n = 3 ∧ K (pc + 3) L (.inr (.inr (.inl 99)) :: r) σ) := by
  rw [ex_getfield, ab_o1_s, hM, gt1_5_18_96, ab_op_s]
  rfl
theorem dg1_5_22_96 {M : ab_M} {K : ab_K} {Rt : ab_V → ab_S → Prop} {pc n : Nat} {L : ab_L} {r : List ab_V} {σ : ab_S} (hM : ab_own M = 5) : ab_ex ab_G1 M K Rt pc n L (.inr (.inr (.inl 96)) :: r) σ (.getfield 22) = (n = 3 ∧ K (pc + 3) L (.inr (.inr (.inl 100)) :: r) σ) := by
  rw [ex_getfield, ab_o1_s, hM, gt1_5_22_96, ab_op_s]
  rfl
theorem dg1_5_25_96 {M : ab_M} {K : ab_K} {Rt : ab_V → ab_S → Prop} {pc n : Nat} {L : ab_L} {r : List ab_V} {σ : ab_S} (hM : ab_own M = 5) : ab_ex ab_G1 M K Rt pc n L (.inr (.inr (.inl 96)) :: r) σ (.getfield 25) = (n = 3 ∧ K (pc + 3) L (.inr (.inr (.inl 101)) :: r) σ) := by
  rw [ex_getfield, ab_o1_s, hM, gt1_5_25_96, ab_op_s]
  rfl
theorem dg1_5_28_96 {M : ab_M} {K : ab_K} {Rt : ab_V → ab_S → Prop} {pc n : Nat} {L : ab_L} {r : List ab_V} {σ : ab_S} (hM : ab_own M = 5) : ab_ex ab_G1 M K Rt pc n L (.inr (.inr (.inl 96)) :: r) σ (.getfield 28) = (n = 3 ∧ K (pc + 3) L (.inr (.inr (.inl 102)) :: r) σ) := by
  rw [ex_getfield, ab_o1_s, hM, gt1_5_28_96, ab_op_s]
  rfl
theorem dg1_11_306_96 {M : ab_M} {K : ab_K} {Rt : ab_V → ab_S → Prop} {pc n : Nat} {L : ab_L} {r : List ab_V} {σ : ab_S} (hM : ab_own M = 11) : ab_ex ab_G1 M K Rt pc n L (.inr (.inr (.inl 96)) :: r) σ (.getfield 306) = (n = 3 ∧ K (pc + 3) L (.inr (.inr (.inl 102)) :: r) σ) := by
  rw [ex_getfield, ab_o1_s, hM, gt1_11_306_96, ab_op_s]
  rfl
theorem dg1_5_31_96 {M : ab_M} {K : ab_K} {Rt : ab_V → ab_S → Prop} {pc n : Nat} {L : ab_L} {r : List ab_V} {σ : ab_S} (hM : ab_own M = 5) : ab_ex ab_G1 M K Rt pc n L (.inr (.inr (.inl 96)) :: r) σ (.getfield 31) = (n = 3 ∧ K (pc + 3) L (.inl (σ 96 9) :: r) σ) := by
  rw [ex_getfield, ab_o1_s, hM, gt1_5_31_96, ab_op_s]
  rfl
theorem dg1_11_298_96 {M : ab_M} {K : ab_K} {Rt : ab_V → ab_S → Prop} {pc n : Nat} {L : ab_L} {r : List ab_V} {σ : ab_S} (hM : ab_own M = 11) : ab_ex ab_G1 M K Rt pc n L (.inr (.inr (.inl 96)) :: r) σ (.getfield 298) = (n = 3 ∧ K (pc + 3) L (.inl (σ 96 9) :: r) σ) := by
  rw [ex_getfield, ab_o1_s, hM, gt1_11_298_96, ab_op_s]
  rfl
theorem dg1_5_35_96 {M : ab_M} {K : ab_K} {Rt : ab_V → ab_S → Prop} {pc n : Nat} {L : ab_L} {r : List ab_V} {σ : ab_S} (hM : ab_own M = 5) : ab_ex ab_G1 M K Rt pc n L (.inr (.inr (.inl 96)) :: r) σ (.getfield 35) = (n = 3 ∧ K (pc + 3) L (.inl (σ 96 10) :: r) σ) := by
  rw [ex_getfield, ab_o1_s, hM, gt1_5_35_96, ab_op_s]
  rfl
theorem dg1_5_38_96 {M : ab_M} {K : ab_K} {Rt : ab_V → ab_S → Prop} {pc n : Nat} {L : ab_L} {r : List ab_V} {σ : ab_S} (hM : ab_own M = 5) : ab_ex ab_G1 M K Rt pc n L (.inr (.inr (.inl 96)) :: r) σ (.getfield 38) = (n = 3 ∧ K (pc + 3) L (.inl (σ 96 11) :: r) σ) := by
  rw [ex_getfield, ab_o1_s, hM, gt1_5_38_96, ab_op_s]
  rfl
theorem dg1_5_41_96 {M : ab_M} {K : ab_K} {Rt : ab_V → ab_S → Prop} {pc n : Nat} {L : ab_L} {r : List ab_V} {σ : ab_S} (hM : ab_own M = 5) : ab_ex ab_G1 M K Rt pc n L (.inr (.inr (.inl 96)) :: r) σ (.getfield 41) = (n = 3 ∧ K (pc + 3) L (.inl (σ 96 12) :: r) σ) := by
  rw [ex_getfield, ab_o1_s, hM, gt1_5_41_96, ab_op_s]
  rfl
theorem dg1_5_44_96 {M : ab_M} {K : ab_K} {Rt : ab_V → ab_S → Prop} {pc n : Nat} {L : ab_L} {r : List ab_V} {σ : ab_S} (hM : ab_own M = 5) : ab_ex ab_G1 M K Rt pc n L (.inr (.inr (.inl 96)) :: r) σ (.getfield 44) = (n = 3 ∧ K (pc + 3) L (.inl (σ 96 13) :: r) σ) := by
  rw [ex_getfield, ab_o1_s, hM, gt1_5_44_96, ab_op_s]
  rfl
theorem dg1_5_47_96 {M : ab_M} {K : ab_K} {Rt : ab_V → ab_S → Prop} {pc n : Nat} {L : ab_L} {r : List ab_V} {σ : ab_S} (hM : ab_own M = 5) : ab_ex ab_G1 M K Rt pc n L (.inr (.inr (.inl 96)) :: r) σ (.getfield 47) = (n = 3 ∧ K (pc + 3) L (.inl (σ 96 14) :: r) σ) := by
  rw [ex_getfield, ab_o1_s, hM, gt1_5_47_96, ab_op_s]
  rfl
theorem dg1_11_10_0 {M : ab_M} {K : ab_K} {Rt : ab_V → ab_S → Prop} {pc n : Nat} {L : ab_L} {r : List ab_V} {σ : ab_S} (hM : ab_own M = 11) : ab_ex ab_G1 M K Rt pc n L (.inr (.inr (.inl 0)) :: r) σ (.getfield 10) = (n = 3 ∧ K (pc + 3) L (.inr (.inr (.inl 1)) :: r) σ) := by
  rw [ex_getfield, ab_o1_s, hM, gt1_11_10_0, ab_op_s]
  rfl
theorem dg1_11_19_0 {M : ab_M} {K : ab_K} {Rt : ab_V → ab_S → Prop} {pc n : Nat} {L : ab_L} {r : List ab_V} {σ : ab_S} (hM : ab_own M = 11) : ab_ex ab_G1 M K Rt pc n L (.inr (.inr (.inl 0)) :: r) σ (.getfield 19) = (n = 3 ∧ K (pc + 3) L (.inr (.inr (.inl 3)) :: r) σ) := by
  rw [ex_getfield, ab_o1_s, hM, gt1_11_19_0, ab_op_s]
  rfl
theorem dg1_11_23_0 {M : ab_M} {K : ab_K} {Rt : ab_V → ab_S → Prop} {pc n : Nat} {L : ab_L} {r : List ab_V} {σ : ab_S} (hM : ab_own M = 11) : ab_ex ab_G1 M K Rt pc n L (.inr (.inr (.inl 0)) :: r) σ (.getfield 23) = (n = 3 ∧ K (pc + 3) L (.inr (.inr (.inl 12)) :: r) σ) := by
  rw [ex_getfield, ab_o1_s, hM, gt1_11_23_0, ab_op_s]
  rfl
theorem dg1_11_29_0 {M : ab_M} {K : ab_K} {Rt : ab_V → ab_S → Prop} {pc n : Nat} {L : ab_L} {r : List ab_V} {σ : ab_S} (hM : ab_own M = 11) : ab_ex ab_G1 M K Rt pc n L (.inr (.inr (.inl 0)) :: r) σ (.getfield 29) = (n = 3 ∧ K (pc + 3) L (.inr (.inr (.inl 21)) :: r) σ) := by
  rw [ex_getfield, ab_o1_s, hM, gt1_11_29_0, ab_op_s]
  rfl
theorem dg1_11_38_0 {M : ab_M} {K : ab_K} {Rt : ab_V → ab_S → Prop} {pc n : Nat} {L : ab_L} {r : List ab_V} {σ : ab_S} (hM : ab_own M = 11) : ab_ex ab_G1 M K Rt pc n L (.inr (.inr (.inl 0)) :: r) σ (.getfield 38) = (n = 3 ∧ K (pc + 3) L (.inr (.inr (.inl 28)) :: r) σ) := by
  rw [ex_getfield, ab_o1_s, hM, gt1_11_38_0, ab_op_s]
  rfl
theorem dg1_11_45_0 {M : ab_M} {K : ab_K} {Rt : ab_V → ab_S → Prop} {pc n : Nat} {L : ab_L} {r : List ab_V} {σ : ab_S} (hM : ab_own M = 11) : ab_ex ab_G1 M K Rt pc n L (.inr (.inr (.inl 0)) :: r) σ (.getfield 45) = (n = 3 ∧ K (pc + 3) L (.inr (.inr (.inl 34)) :: r) σ) := by
  rw [ex_getfield, ab_o1_s, hM, gt1_11_45_0, ab_op_s]
  rfl
theorem dg1_11_49_0 {M : ab_M} {K : ab_K} {Rt : ab_V → ab_S → Prop} {pc n : Nat} {L : ab_L} {r : List ab_V} {σ : ab_S} (hM : ab_own M = 11) : ab_ex ab_G1 M K Rt pc n L (.inr (.inr (.inl 0)) :: r) σ (.getfield 49) = (n = 3 ∧ K (pc + 3) L (.inr (.inr (.inl 40)) :: r) σ) := by
  rw [ex_getfield, ab_o1_s, hM, gt1_11_49_0, ab_op_s]
  rfl
theorem dg1_11_58_0 {M : ab_M} {K : ab_K} {Rt : ab_V → ab_S → Prop} {pc n : Nat} {L : ab_L} {r : List ab_V} {σ : ab_S} (hM : ab_own M = 11) : ab_ex ab_G1 M K Rt pc n L (.inr (.inr (.inl 0)) :: r) σ (.getfield 58) = (n = 3 ∧ K (pc + 3) L (.inr (.inr (.inl 65)) :: r) σ) := by
  rw [ex_getfield, ab_o1_s, hM, gt1_11_58_0, ab_op_s]
  rfl
theorem dg1_11_65_0 {M : ab_M} {K : ab_K} {Rt : ab_V → ab_S → Prop} {pc n : Nat} {L : ab_L} {r : List ab_V} {σ : ab_S} (hM : ab_own M = 11) : ab_ex ab_G1 M K Rt pc n L (.inr (.inr (.inl 0)) :: r) σ (.getfield 65) = (n = 3 ∧ K (pc + 3) L (.inr (.inr (.inl 76)) :: r) σ) := by
  rw [ex_getfield, ab_o1_s, hM, gt1_11_65_0, ab_op_s]
  rfl
theorem dg1_11_74_0 {M : ab_M} {K : ab_K} {Rt : ab_V → ab_S → Prop} {pc n : Nat} {L : ab_L} {r : List ab_V} {σ : ab_S} (hM : ab_own M = 11) : ab_ex ab_G1 M K Rt pc n L (.inr (.inr (.inl 0)) :: r) σ (.getfield 74) = (n = 3 ∧ K (pc + 3) L (.inr (.inr (.inl 82)) :: r) σ) := by
  rw [ex_getfield, ab_o1_s, hM, gt1_11_74_0, ab_op_s]
  rfl
theorem dg1_11_83_0 {M : ab_M} {K : ab_K} {Rt : ab_V → ab_S → Prop} {pc n : Nat} {L : ab_L} {r : List ab_V} {σ : ab_S} (hM : ab_own M = 11) : ab_ex ab_G1 M K Rt pc n L (.inr (.inr (.inl 0)) :: r) σ (.getfield 83) = (n = 3 ∧ K (pc + 3) L (.inr (.inr (.inl 88)) :: r) σ) := by
  rw [ex_getfield, ab_o1_s, hM, gt1_11_83_0, ab_op_s]
  rfl
theorem dg1_11_90_0 {M : ab_M} {K : ab_K} {Rt : ab_V → ab_S → Prop} {pc n : Nat} {L : ab_L} {r : List ab_V} {σ : ab_S} (hM : ab_own M = 11) : ab_ex ab_G1 M K Rt pc n L (.inr (.inr (.inl 0)) :: r) σ (.getfield 90) = (n = 3 ∧ K (pc + 3) L (.inr (.inr (.inl 96)) :: r) σ) := by
  rw [ex_getfield, ab_o1_s, hM, gt1_11_90_0, ab_op_s]
  rfl
theorem dg1_11_94_0 {M : ab_M} {K : ab_K} {Rt : ab_V → ab_S → Prop} {pc n : Nat} {L : ab_L} {r : List ab_V} {σ : ab_S} (hM : ab_own M = 11) : ab_ex ab_G1 M K Rt pc n L (.inr (.inr (.inl 0)) :: r) σ (.getfield 94) = (n = 3 ∧ K (pc + 3) L (.inl (σ 0 12) :: r) σ) := by
  rw [ex_getfield, ab_o1_s, hM, gt1_11_94_0, ab_op_s]
  rfl
theorem dg1_11_98_0 {M : ab_M} {K : ab_K} {Rt : ab_V → ab_S → Prop} {pc n : Nat} {L : ab_L} {r : List ab_V} {σ : ab_S} (hM : ab_own M = 11) : ab_ex ab_G1 M K Rt pc n L (.inr (.inr (.inl 0)) :: r) σ (.getfield 98) = (n = 3 ∧ K (pc + 3) L (.inl (σ 0 13) :: r) σ) := by
  rw [ex_getfield, ab_o1_s, hM, gt1_11_98_0, ab_op_s]
  rfl
theorem dg1_11_101_0 {M : ab_M} {K : ab_K} {Rt : ab_V → ab_S → Prop} {pc n : Nat} {L : ab_L} {r : List ab_V} {σ : ab_S} (hM : ab_own M = 11) : ab_ex ab_G1 M K Rt pc n L (.inr (.inr (.inl 0)) :: r) σ (.getfield 101) = (n = 3 ∧ K (pc + 3) L (.inl (σ 0 14) :: r) σ) := by
  rw [ex_getfield, ab_o1_s, hM, gt1_11_101_0, ab_op_s]
  rfl
theorem dg1_11_104_0 {M : ab_M} {K : ab_K} {Rt : ab_V → ab_S → Prop} {pc n : Nat} {L : ab_L} {r : List ab_V} {σ : ab_S} (hM : ab_own M = 11) : ab_ex ab_G1 M K Rt pc n L (.inr (.inr (.inl 0)) :: r) σ (.getfield 104) = (n = 3 ∧ K (pc + 3) L (.inl (σ 0 15) :: r) σ) := by
  rw [ex_getfield, ab_o1_s, hM, gt1_11_104_0, ab_op_s]
  rfl
theorem dg2_12_326_0 {M : ab_M} {K : ab_K} {Rt : ab_V → ab_S → Prop} {pc n : Nat} {L : ab_L} {r : List ab_V} {σ : ab_S} (hM : ab_own M = 12) : ab_ex ab_G2 M K Rt pc n L (.inr (.inr (.inl 0)) :: r) σ (.getfield 326) = (n = 3 ∧ K (pc + 3) L (.inl (σ 0 0) :: r) σ) := by
  rw [ex_getfield, ab_o1_s, hM, gt2_12_326_0, ab_op_s]
  rfl
theorem dg2_12_272_0 {M : ab_M} {K : ab_K} {Rt : ab_V → ab_S → Prop} {pc n : Nat} {L : ab_L} {r : List ab_V} {σ : ab_S} (hM : ab_own M = 12) : ab_ex ab_G2 M K Rt pc n L (.inr (.inr (.inl 0)) :: r) σ (.getfield 272) = (n = 3 ∧ K (pc + 3) L (.inl (σ 0 1) :: r) σ) := by
  rw [ex_getfield, ab_o1_s, hM, gt2_12_272_0, ab_op_s]
  rfl
theorem dg2_12_320_0 {M : ab_M} {K : ab_K} {Rt : ab_V → ab_S → Prop} {pc n : Nat} {L : ab_L} {r : List ab_V} {σ : ab_S} (hM : ab_own M = 12) : ab_ex ab_G2 M K Rt pc n L (.inr (.inr (.inl 0)) :: r) σ (.getfield 320) = (n = 3 ∧ K (pc + 3) L (.inl (σ 0 2) :: r) σ) := by
  rw [ex_getfield, ab_o1_s, hM, gt2_12_320_0, ab_op_s]
  rfl
theorem dg2_12_323_0 {M : ab_M} {K : ab_K} {Rt : ab_V → ab_S → Prop} {pc n : Nat} {L : ab_L} {r : List ab_V} {σ : ab_S} (hM : ab_own M = 12) : ab_ex ab_G2 M K Rt pc n L (.inr (.inr (.inl 0)) :: r) σ (.getfield 323) = (n = 3 ∧ K (pc + 3) L (.inl (σ 0 3) :: r) σ) := by
  rw [ex_getfield, ab_o1_s, hM, gt2_12_323_0, ab_op_s]
  rfl
theorem dg2_12_7_0 {M : ab_M} {K : ab_K} {Rt : ab_V → ab_S → Prop} {pc n : Nat} {L : ab_L} {r : List ab_V} {σ : ab_S} (hM : ab_own M = 12) : ab_ex ab_G2 M K Rt pc n L (.inr (.inr (.inl 0)) :: r) σ (.getfield 7) = (n = 3 ∧ K (pc + 3) L (.inl (σ 0 4) :: r) σ) := by
  rw [ex_getfield, ab_o1_s, hM, gt2_12_7_0, ab_op_s]
  rfl
theorem dg2_12_13_0 {M : ab_M} {K : ab_K} {Rt : ab_V → ab_S → Prop} {pc n : Nat} {L : ab_L} {r : List ab_V} {σ : ab_S} (hM : ab_own M = 12) : ab_ex ab_G2 M K Rt pc n L (.inr (.inr (.inl 0)) :: r) σ (.getfield 13) = (n = 3 ∧ K (pc + 3) L (.inl (σ 0 5) :: r) σ) := by
  rw [ex_getfield, ab_o1_s, hM, gt2_12_13_0, ab_op_s]
  rfl
theorem dg2_12_16_0 {M : ab_M} {K : ab_K} {Rt : ab_V → ab_S → Prop} {pc n : Nat} {L : ab_L} {r : List ab_V} {σ : ab_S} (hM : ab_own M = 12) : ab_ex ab_G2 M K Rt pc n L (.inr (.inr (.inl 0)) :: r) σ (.getfield 16) = (n = 3 ∧ K (pc + 3) L (.inl (σ 0 6) :: r) σ) := by
  rw [ex_getfield, ab_o1_s, hM, gt2_12_16_0, ab_op_s]
  rfl
theorem dg2_12_19_0 {M : ab_M} {K : ab_K} {Rt : ab_V → ab_S → Prop} {pc n : Nat} {L : ab_L} {r : List ab_V} {σ : ab_S} (hM : ab_own M = 12) : ab_ex ab_G2 M K Rt pc n L (.inr (.inr (.inl 0)) :: r) σ (.getfield 19) = (n = 3 ∧ K (pc + 3) L (.inl (σ 0 7) :: r) σ) := by
  rw [ex_getfield, ab_o1_s, hM, gt2_12_19_0, ab_op_s]
  rfl
theorem dg2_12_22_0 {M : ab_M} {K : ab_K} {Rt : ab_V → ab_S → Prop} {pc n : Nat} {L : ab_L} {r : List ab_V} {σ : ab_S} (hM : ab_own M = 12) : ab_ex ab_G2 M K Rt pc n L (.inr (.inr (.inl 0)) :: r) σ (.getfield 22) = (n = 3 ∧ K (pc + 3) L (.inr (.inr (.inl 1)) :: r) σ) := by
  rw [ex_getfield, ab_o1_s, hM, gt2_12_22_0, ab_op_s]
  rfl
theorem dg2_12_26_0 {M : ab_M} {K : ab_K} {Rt : ab_V → ab_S → Prop} {pc n : Nat} {L : ab_L} {r : List ab_V} {σ : ab_S} (hM : ab_own M = 12) : ab_ex ab_G2 M K Rt pc n L (.inr (.inr (.inl 0)) :: r) σ (.getfield 26) = (n = 3 ∧ K (pc + 3) L (.inr (.inr (.inl 2)) :: r) σ) := by
  rw [ex_getfield, ab_o1_s, hM, gt2_12_26_0, ab_op_s]
  rfl
theorem dg2_12_29_0 {M : ab_M} {K : ab_K} {Rt : ab_V → ab_S → Prop} {pc n : Nat} {L : ab_L} {r : List ab_V} {σ : ab_S} (hM : ab_own M = 12) : ab_ex ab_G2 M K Rt pc n L (.inr (.inr (.inl 0)) :: r) σ (.getfield 29) = (n = 3 ∧ K (pc + 3) L (.inr (.inr (.inl 3)) :: r) σ) := by
  rw [ex_getfield, ab_o1_s, hM, gt2_12_29_0, ab_op_s]
  rfl
theorem dg2_12_33_0 {M : ab_M} {K : ab_K} {Rt : ab_V → ab_S → Prop} {pc n : Nat} {L : ab_L} {r : List ab_V} {σ : ab_S} (hM : ab_own M = 12) : ab_ex ab_G2 M K Rt pc n L (.inr (.inr (.inl 0)) :: r) σ (.getfield 33) = (n = 3 ∧ K (pc + 3) L (.inr (.inr (.inl 4)) :: r) σ) := by
  rw [ex_getfield, ab_o1_s, hM, gt2_12_33_0, ab_op_s]
  rfl
theorem dg2_12_36_0 {M : ab_M} {K : ab_K} {Rt : ab_V → ab_S → Prop} {pc n : Nat} {L : ab_L} {r : List ab_V} {σ : ab_S} (hM : ab_own M = 12) : ab_ex ab_G2 M K Rt pc n L (.inr (.inr (.inl 0)) :: r) σ (.getfield 36) = (n = 3 ∧ K (pc + 3) L (.inr (.inr (.inl 5)) :: r) σ) := by
  rw [ex_getfield, ab_o1_s, hM, gt2_12_36_0, ab_op_s]
  rfl
theorem dg2_12_39_0 {M : ab_M} {K : ab_K} {Rt : ab_V → ab_S → Prop} {pc n : Nat} {L : ab_L} {r : List ab_V} {σ : ab_S} (hM : ab_own M = 12) : ab_ex ab_G2 M K Rt pc n L (.inr (.inr (.inl 0)) :: r) σ (.getfield 39) = (n = 3 ∧ K (pc + 3) L (.inr (.inr (.inl 6)) :: r) σ) := by
  rw [ex_getfield, ab_o1_s, hM, gt2_12_39_0, ab_op_s]
  rfl
theorem dg2_12_42_0 {M : ab_M} {K : ab_K} {Rt : ab_V → ab_S → Prop} {pc n : Nat} {L : ab_L} {r : List ab_V} {σ : ab_S} (hM : ab_own M = 12) : ab_ex ab_G2 M K Rt pc n L (.inr (.inr (.inl 0)) :: r) σ (.getfield 42) = (n = 3 ∧ K (pc + 3) L (.inr (.inr (.inl 7)) :: r) σ) := by
  rw [ex_getfield, ab_o1_s, hM, gt2_12_42_0, ab_op_s]
  rfl
theorem dg2_12_45_0 {M : ab_M} {K : ab_K} {Rt : ab_V → ab_S → Prop} {pc n : Nat} {L : ab_L} {r : List ab_V} {σ : ab_S} (hM : ab_own M = 12) : ab_ex ab_G2 M K Rt pc n L (.inr (.inr (.inl 0)) :: r) σ (.getfield 45) = (n = 3 ∧ K (pc + 3) L (.inr (.inr (.inl 8)) :: r) σ) := by
  rw [ex_getfield, ab_o1_s, hM, gt2_12_45_0, ab_op_s]
  rfl
theorem dg2_12_48_0 {M : ab_M} {K : ab_K} {Rt : ab_V → ab_S → Prop} {pc n : Nat} {L : ab_L} {r : List ab_V} {σ : ab_S} (hM : ab_own M = 12) : ab_ex ab_G2 M K Rt pc n L (.inr (.inr (.inl 0)) :: r) σ (.getfield 48) = (n = 3 ∧ K (pc + 3) L (.inr (.inr (.inl 9)) :: r) σ) := by
  rw [ex_getfield, ab_o1_s, hM, gt2_12_48_0, ab_op_s]
  rfl
theorem dg2_12_51_0 {M : ab_M} {K : ab_K} {Rt : ab_V → ab_S → Prop} {pc n : Nat} {L : ab_L} {r : List ab_V} {σ : ab_S} (hM : ab_own M = 12) : ab_ex ab_G2 M K Rt pc n L (.inr (.inr (.inl 0)) :: r) σ (.getfield 51) = (n = 3 ∧ K (pc + 3) L (.inr (.inr (.inl 10)) :: r) σ) := by
  rw [ex_getfield, ab_o1_s, hM, gt2_12_51_0, ab_op_s]
  rfl
theorem dg2_12_54_0 {M : ab_M} {K : ab_K} {Rt : ab_V → ab_S → Prop} {pc n : Nat} {L : ab_L} {r : List ab_V} {σ : ab_S} (hM : ab_own M = 12) : ab_ex ab_G2 M K Rt pc n L (.inr (.inr (.inl 0)) :: r) σ (.getfield 54) = (n = 3 ∧ K (pc + 3) L (.inr (.inr (.inl 11)) :: r) σ) := by
  rw [ex_getfield, ab_o1_s, hM, gt2_12_54_0, ab_op_s]
  rfl
theorem dg2_12_57_0 {M : ab_M} {K : ab_K} {Rt : ab_V → ab_S → Prop} {pc n : Nat} {L : ab_L} {r : List ab_V} {σ : ab_S} (hM : ab_own M = 12) : ab_ex ab_G2 M K Rt pc n L (.inr (.inr (.inl 0)) :: r) σ (.getfield 57) = (n = 3 ∧ K (pc + 3) L (.inr (.inr (.inl 12)) :: r) σ) := by
  rw [ex_getfield, ab_o1_s, hM, gt2_12_57_0, ab_op_s]
  rfl
theorem dg2_12_60_0 {M : ab_M} {K : ab_K} {Rt : ab_V → ab_S → Prop} {pc n : Nat} {L : ab_L} {r : List ab_V} {σ : ab_S} (hM : ab_own M = 12) : ab_ex ab_G2 M K Rt pc n L (.inr (.inr (.inl 0)) :: r) σ (.getfield 60) = (n = 3 ∧ K (pc + 3) L (.inr (.inr (.inl 13)) :: r) σ) := by
  rw [ex_getfield, ab_o1_s, hM, gt2_12_60_0, ab_op_s]
  rfl
theorem dg2_12_63_0 {M : ab_M} {K : ab_K} {Rt : ab_V → ab_S → Prop} {pc n : Nat} {L : ab_L} {r : List ab_V} {σ : ab_S} (hM : ab_own M = 12) : ab_ex ab_G2 M K Rt pc n L (.inr (.inr (.inl 0)) :: r) σ (.getfield 63) = (n = 3 ∧ K (pc + 3) L (.inr (.inr (.inl 14)) :: r) σ) := by
  rw [ex_getfield, ab_o1_s, hM, gt2_12_63_0, ab_op_s]
  rfl
theorem dg2_12_269_0 {M : ab_M} {K : ab_K} {Rt : ab_V → ab_S → Prop} {pc n : Nat} {L : ab_L} {r : List ab_V} {σ : ab_S} (hM : ab_own M = 12) : ab_ex ab_G2 M K Rt pc n L (.inr (.inr (.inl 0)) :: r) σ (.getfield 269) = (n = 3 ∧ K (pc + 3) L (.inl (σ 0 22) :: r) σ) := by
  rw [ex_getfield, ab_o1_s, hM, gt2_12_269_0, ab_op_s]
  rfl
theorem dg2_12_285_0 {M : ab_M} {K : ab_K} {Rt : ab_V → ab_S → Prop} {pc n : Nat} {L : ab_L} {r : List ab_V} {σ : ab_S} (hM : ab_own M = 12) : ab_ex ab_G2 M K Rt pc n L (.inr (.inr (.inl 0)) :: r) σ (.getfield 285) = (n = 3 ∧ K (pc + 3) L (.inl (σ 0 23) :: r) σ) := by
  rw [ex_getfield, ab_o1_s, hM, gt2_12_285_0, ab_op_s]
  rfl
theorem dg2_12_298_0 {M : ab_M} {K : ab_K} {Rt : ab_V → ab_S → Prop} {pc n : Nat} {L : ab_L} {r : List ab_V} {σ : ab_S} (hM : ab_own M = 12) : ab_ex ab_G2 M K Rt pc n L (.inr (.inr (.inl 0)) :: r) σ (.getfield 298) = (n = 3 ∧ K (pc + 3) L (.inl (σ 0 24) :: r) σ) := by
  rw [ex_getfield, ab_o1_s, hM, gt2_12_298_0, ab_op_s]
  rfl
theorem dg2_12_301_0 {M : ab_M} {K : ab_K} {Rt : ab_V → ab_S → Prop} {pc n : Nat} {L : ab_L} {r : List ab_V} {σ : ab_S} (hM : ab_own M = 12) : ab_ex ab_G2 M K Rt pc n L (.inr (.inr (.inl 0)) :: r) σ (.getfield 301) = (n = 3 ∧ K (pc + 3) L (.inl (σ 0 25) :: r) σ) := by
  rw [ex_getfield, ab_o1_s, hM, gt2_12_301_0, ab_op_s]
  rfl
theorem dg2_12_304_0 {M : ab_M} {K : ab_K} {Rt : ab_V → ab_S → Prop} {pc n : Nat} {L : ab_L} {r : List ab_V} {σ : ab_S} (hM : ab_own M = 12) : ab_ex ab_G2 M K Rt pc n L (.inr (.inr (.inl 0)) :: r) σ (.getfield 304) = (n = 3 ∧ K (pc + 3) L (.inl (σ 0 26) :: r) σ) := by
  rw [ex_getfield, ab_o1_s, hM, gt2_12_304_0, ab_op_s]
  rfl
theorem dg2_12_307_0 {M : ab_M} {K : ab_K} {Rt : ab_V → ab_S → Prop} {pc n : Nat} {L : ab_L} {r : List ab_V} {σ : ab_S} (hM : ab_own M = 12) : ab_ex ab_G2 M K Rt pc n L (.inr (.inr (.inl 0)) :: r) σ (.getfield 307) = (n = 3 ∧ K (pc + 3) L (.inl (σ 0 27) :: r) σ) := by
  rw [ex_getfield, ab_o1_s, hM, gt2_12_307_0, ab_op_s]
  rfl
theorem dg2_12_66_0 {M : ab_M} {K : ab_K} {Rt : ab_V → ab_S → Prop} {pc n : Nat} {L : ab_L} {r : List ab_V} {σ : ab_S} (hM : ab_own M = 12) : ab_ex ab_G2 M K Rt pc n L (.inr (.inr (.inl 0)) :: r) σ (.getfield 66) = (n = 3 ∧ K (pc + 3) L (.inr (.inr (.inl 15)) :: r) σ) := by
  rw [ex_getfield, ab_o1_s, hM, gt2_12_66_0, ab_op_s]
  rfl
theorem dg2_12_188_0 {M : ab_M} {K : ab_K} {Rt : ab_V → ab_S → Prop} {pc n : Nat} {L : ab_L} {r : List ab_V} {σ : ab_S} (hM : ab_own M = 12) : ab_ex ab_G2 M K Rt pc n L (.inr (.inr (.inl 0)) :: r) σ (.getfield 188) = (n = 3 ∧ K (pc + 3) L (.inl (σ 0 29) :: r) σ) := by
  rw [ex_getfield, ab_o1_s, hM, gt2_12_188_0, ab_op_s]
  rfl
theorem dg2_12_70_0 {M : ab_M} {K : ab_K} {Rt : ab_V → ab_S → Prop} {pc n : Nat} {L : ab_L} {r : List ab_V} {σ : ab_S} (hM : ab_own M = 12) : ab_ex ab_G2 M K Rt pc n L (.inr (.inr (.inl 0)) :: r) σ (.getfield 70) = (n = 3 ∧ K (pc + 3) L (.inl (σ 0 30) :: r) σ) := by
  rw [ex_getfield, ab_o1_s, hM, gt2_12_70_0, ab_op_s]
  rfl
theorem dg2_12_194_0 {M : ab_M} {K : ab_K} {Rt : ab_V → ab_S → Prop} {pc n : Nat} {L : ab_L} {r : List ab_V} {σ : ab_S} (hM : ab_own M = 12) : ab_ex ab_G2 M K Rt pc n L (.inr (.inr (.inl 0)) :: r) σ (.getfield 194) = (n = 3 ∧ K (pc + 3) L (.inl (σ 0 31) :: r) σ) := by
  rw [ex_getfield, ab_o1_s, hM, gt2_12_194_0, ab_op_s]
  rfl
theorem dg2_12_191_0 {M : ab_M} {K : ab_K} {Rt : ab_V → ab_S → Prop} {pc n : Nat} {L : ab_L} {r : List ab_V} {σ : ab_S} (hM : ab_own M = 12) : ab_ex ab_G2 M K Rt pc n L (.inr (.inr (.inl 0)) :: r) σ (.getfield 191) = (n = 3 ∧ K (pc + 3) L (.inl (σ 0 32) :: r) σ) := by
  rw [ex_getfield, ab_o1_s, hM, gt2_12_191_0, ab_op_s]
  rfl
theorem dg2_12_201_0 {M : ab_M} {K : ab_K} {Rt : ab_V → ab_S → Prop} {pc n : Nat} {L : ab_L} {r : List ab_V} {σ : ab_S} (hM : ab_own M = 12) : ab_ex ab_G2 M K Rt pc n L (.inr (.inr (.inl 0)) :: r) σ (.getfield 201) = (n = 3 ∧ K (pc + 3) L (.inl (σ 0 33) :: r) σ) := by
  rw [ex_getfield, ab_o1_s, hM, gt2_12_201_0, ab_op_s]
  rfl
theorem dg2_12_213_0 {M : ab_M} {K : ab_K} {Rt : ab_V → ab_S → Prop} {pc n : Nat} {L : ab_L} {r : List ab_V} {σ : ab_S} (hM : ab_own M = 12) : ab_ex ab_G2 M K Rt pc n L (.inr (.inr (.inl 0)) :: r) σ (.getfield 213) = (n = 3 ∧ K (pc + 3) L (.inl (σ 0 34) :: r) σ) := by
  rw [ex_getfield, ab_o1_s, hM, gt2_12_213_0, ab_op_s]
  rfl
theorem dg2_12_210_0 {M : ab_M} {K : ab_K} {Rt : ab_V → ab_S → Prop} {pc n : Nat} {L : ab_L} {r : List ab_V} {σ : ab_S} (hM : ab_own M = 12) : ab_ex ab_G2 M K Rt pc n L (.inr (.inr (.inl 0)) :: r) σ (.getfield 210) = (n = 3 ∧ K (pc + 3) L (.inl (σ 0 35) :: r) σ) := by
  rw [ex_getfield, ab_o1_s, hM, gt2_12_210_0, ab_op_s]
  rfl
theorem dg2_12_206_0 {M : ab_M} {K : ab_K} {Rt : ab_V → ab_S → Prop} {pc n : Nat} {L : ab_L} {r : List ab_V} {σ : ab_S} (hM : ab_own M = 12) : ab_ex ab_G2 M K Rt pc n L (.inr (.inr (.inl 0)) :: r) σ (.getfield 206) = (n = 3 ∧ K (pc + 3) L (.inr (.inl (σ 0 36)) :: r) σ) := by
  rw [ex_getfield, ab_o1_s, hM, gt2_12_206_0, ab_op_s]
  rfl
theorem dg2_12_227_0 {M : ab_M} {K : ab_K} {Rt : ab_V → ab_S → Prop} {pc n : Nat} {L : ab_L} {r : List ab_V} {σ : ab_S} (hM : ab_own M = 12) : ab_ex ab_G2 M K Rt pc n L (.inr (.inr (.inl 0)) :: r) σ (.getfield 227) = (n = 3 ∧ K (pc + 3) L (.inl (σ 0 37) :: r) σ) := by
  rw [ex_getfield, ab_o1_s, hM, gt2_12_227_0, ab_op_s]
  rfl
theorem dg2_12_332_0 {M : ab_M} {K : ab_K} {Rt : ab_V → ab_S → Prop} {pc n : Nat} {L : ab_L} {r : List ab_V} {σ : ab_S} (hM : ab_own M = 12) : ab_ex ab_G2 M K Rt pc n L (.inr (.inr (.inl 0)) :: r) σ (.getfield 332) = (n = 3 ∧ K (pc + 3) L (.inl (σ 0 38) :: r) σ) := by
  rw [ex_getfield, ab_o1_s, hM, gt2_12_332_0, ab_op_s]
  rfl
theorem dg2_12_73_0 {M : ab_M} {K : ab_K} {Rt : ab_V → ab_S → Prop} {pc n : Nat} {L : ab_L} {r : List ab_V} {σ : ab_S} (hM : ab_own M = 12) : ab_ex ab_G2 M K Rt pc n L (.inr (.inr (.inl 0)) :: r) σ (.getfield 73) = (n = 3 ∧ K (pc + 3) L (.inl (σ 0 39) :: r) σ) := by
  rw [ex_getfield, ab_o1_s, hM, gt2_12_73_0, ab_op_s]
  rfl
theorem dg2_12_76_0 {M : ab_M} {K : ab_K} {Rt : ab_V → ab_S → Prop} {pc n : Nat} {L : ab_L} {r : List ab_V} {σ : ab_S} (hM : ab_own M = 12) : ab_ex ab_G2 M K Rt pc n L (.inr (.inr (.inl 0)) :: r) σ (.getfield 76) = (n = 3 ∧ K (pc + 3) L (.inr (.inr (.inl 16)) :: r) σ) := by
  rw [ex_getfield, ab_o1_s, hM, gt2_12_76_0, ab_op_s]
  rfl
theorem dg2_12_79_0 {M : ab_M} {K : ab_K} {Rt : ab_V → ab_S → Prop} {pc n : Nat} {L : ab_L} {r : List ab_V} {σ : ab_S} (hM : ab_own M = 12) : ab_ex ab_G2 M K Rt pc n L (.inr (.inr (.inl 0)) :: r) σ (.getfield 79) = (n = 3 ∧ K (pc + 3) L (.inr (.inr (.inl 17)) :: r) σ) := by
  rw [ex_getfield, ab_o1_s, hM, gt2_12_79_0, ab_op_s]
  rfl
theorem dg2_12_82_0 {M : ab_M} {K : ab_K} {Rt : ab_V → ab_S → Prop} {pc n : Nat} {L : ab_L} {r : List ab_V} {σ : ab_S} (hM : ab_own M = 12) : ab_ex ab_G2 M K Rt pc n L (.inr (.inr (.inl 0)) :: r) σ (.getfield 82) = (n = 3 ∧ K (pc + 3) L (.inr (.inr (.inl 18)) :: r) σ) := by
  rw [ex_getfield, ab_o1_s, hM, gt2_12_82_0, ab_op_s]
  rfl
theorem dg2_12_85_0 {M : ab_M} {K : ab_K} {Rt : ab_V → ab_S → Prop} {pc n : Nat} {L : ab_L} {r : List ab_V} {σ : ab_S} (hM : ab_own M = 12) : ab_ex ab_G2 M K Rt pc n L (.inr (.inr (.inl 0)) :: r) σ (.getfield 85) = (n = 3 ∧ K (pc + 3) L (.inr (.inr (.inl 19)) :: r) σ) := by
  rw [ex_getfield, ab_o1_s, hM, gt2_12_85_0, ab_op_s]
  rfl
theorem dg2_12_88_0 {M : ab_M} {K : ab_K} {Rt : ab_V → ab_S → Prop} {pc n : Nat} {L : ab_L} {r : List ab_V} {σ : ab_S} (hM : ab_own M = 12) : ab_ex ab_G2 M K Rt pc n L (.inr (.inr (.inl 0)) :: r) σ (.getfield 88) = (n = 3 ∧ K (pc + 3) L (.inr (.inr (.inl 20)) :: r) σ) := by
  rw [ex_getfield, ab_o1_s, hM, gt2_12_88_0, ab_op_s]
  rfl
theorem dg2_12_345_0 {M : ab_M} {K : ab_K} {Rt : ab_V → ab_S → Prop} {pc n : Nat} {L : ab_L} {r : List ab_V} {σ : ab_S} (hM : ab_own M = 12) : ab_ex ab_G2 M K Rt pc n L (.inr (.inr (.inl 0)) :: r) σ (.getfield 345) = (n = 3 ∧ K (pc + 3) L (.inl (σ 0 45) :: r) σ) := by
  rw [ex_getfield, ab_o1_s, hM, gt2_12_345_0, ab_op_s]
  rfl
theorem dg2_12_348_0 {M : ab_M} {K : ab_K} {Rt : ab_V → ab_S → Prop} {pc n : Nat} {L : ab_L} {r : List ab_V} {σ : ab_S} (hM : ab_own M = 12) : ab_ex ab_G2 M K Rt pc n L (.inr (.inr (.inl 0)) :: r) σ (.getfield 348) = (n = 3 ∧ K (pc + 3) L (.inl (σ 0 46) :: r) σ) := by
  rw [ex_getfield, ab_o1_s, hM, gt2_12_348_0, ab_op_s]
  rfl
theorem dg2_12_351_0 {M : ab_M} {K : ab_K} {Rt : ab_V → ab_S → Prop} {pc n : Nat} {L : ab_L} {r : List ab_V} {σ : ab_S} (hM : ab_own M = 12) : ab_ex ab_G2 M K Rt pc n L (.inr (.inr (.inl 0)) :: r) σ (.getfield 351) = (n = 3 ∧ K (pc + 3) L (.inl (σ 0 47) :: r) σ) := by
  rw [ex_getfield, ab_o1_s, hM, gt2_12_351_0, ab_op_s]
  rfl
theorem dg2_12_91_0 {M : ab_M} {K : ab_K} {Rt : ab_V → ab_S → Prop} {pc n : Nat} {L : ab_L} {r : List ab_V} {σ : ab_S} (hM : ab_own M = 12) : ab_ex ab_G2 M K Rt pc n L (.inr (.inr (.inl 0)) :: r) σ (.getfield 91) = (n = 3 ∧ K (pc + 3) L (.inr (.inr (.inl 21)) :: r) σ) := by
  rw [ex_getfield, ab_o1_s, hM, gt2_12_91_0, ab_op_s]
  rfl
theorem dg2_12_94_0 {M : ab_M} {K : ab_K} {Rt : ab_V → ab_S → Prop} {pc n : Nat} {L : ab_L} {r : List ab_V} {σ : ab_S} (hM : ab_own M = 12) : ab_ex ab_G2 M K Rt pc n L (.inr (.inr (.inl 0)) :: r) σ (.getfield 94) = (n = 3 ∧ K (pc + 3) L (.inr (.inr (.inl 22)) :: r) σ) := by
  rw [ex_getfield, ab_o1_s, hM, gt2_12_94_0, ab_op_s]
  rfl
theorem dg2_12_97_0 {M : ab_M} {K : ab_K} {Rt : ab_V → ab_S → Prop} {pc n : Nat} {L : ab_L} {r : List ab_V} {σ : ab_S} (hM : ab_own M = 12) : ab_ex ab_G2 M K Rt pc n L (.inr (.inr (.inl 0)) :: r) σ (.getfield 97) = (n = 3 ∧ K (pc + 3) L (.inr (.inr (.inl 23)) :: r) σ) := by
  rw [ex_getfield, ab_o1_s, hM, gt2_12_97_0, ab_op_s]
  rfl
theorem dg2_12_100_0 {M : ab_M} {K : ab_K} {Rt : ab_V → ab_S → Prop} {pc n : Nat} {L : ab_L} {r : List ab_V} {σ : ab_S} (hM : ab_own M = 12) : ab_ex ab_G2 M K Rt pc n L (.inr (.inr (.inl 0)) :: r) σ (.getfield 100) = (n = 3 ∧ K (pc + 3) L (.inr (.inr (.inl 24)) :: r) σ) := by
  rw [ex_getfield, ab_o1_s, hM, gt2_12_100_0, ab_op_s]
  rfl
theorem dg2_12_103_0 {M : ab_M} {K : ab_K} {Rt : ab_V → ab_S → Prop} {pc n : Nat} {L : ab_L} {r : List ab_V} {σ : ab_S} (hM : ab_own M = 12) : ab_ex ab_G2 M K Rt pc n L (.inr (.inr (.inl 0)) :: r) σ (.getfield 103) = (n = 3 ∧ K (pc + 3) L (.inr (.inr (.inl 25)) :: r) σ) := by
  rw [ex_getfield, ab_o1_s, hM, gt2_12_103_0, ab_op_s]
  rfl
theorem dg2_12_329_0 {M : ab_M} {K : ab_K} {Rt : ab_V → ab_S → Prop} {pc n : Nat} {L : ab_L} {r : List ab_V} {σ : ab_S} (hM : ab_own M = 12) : ab_ex ab_G2 M K Rt pc n L (.inr (.inr (.inl 0)) :: r) σ (.getfield 329) = (n = 3 ∧ K (pc + 3) L (.inl (σ 0 53) :: r) σ) := by
  rw [ex_getfield, ab_o1_s, hM, gt2_12_329_0, ab_op_s]
  rfl
theorem dg2_12_107_0 {M : ab_M} {K : ab_K} {Rt : ab_V → ab_S → Prop} {pc n : Nat} {L : ab_L} {r : List ab_V} {σ : ab_S} (hM : ab_own M = 12) : ab_ex ab_G2 M K Rt pc n L (.inr (.inr (.inl 0)) :: r) σ (.getfield 107) = (n = 3 ∧ K (pc + 3) L (.inr (.inr (.inl 26)) :: r) σ) := by
  rw [ex_getfield, ab_o1_s, hM, gt2_12_107_0, ab_op_s]
  rfl
theorem dg2_12_110_0 {M : ab_M} {K : ab_K} {Rt : ab_V → ab_S → Prop} {pc n : Nat} {L : ab_L} {r : List ab_V} {σ : ab_S} (hM : ab_own M = 12) : ab_ex ab_G2 M K Rt pc n L (.inr (.inr (.inl 0)) :: r) σ (.getfield 110) = (n = 3 ∧ K (pc + 3) L (.inr (.inr (.inl 27)) :: r) σ) := by
  rw [ex_getfield, ab_o1_s, hM, gt2_12_110_0, ab_op_s]
  rfl
theorem dg2_12_113_0 {M : ab_M} {K : ab_K} {Rt : ab_V → ab_S → Prop} {pc n : Nat} {L : ab_L} {r : List ab_V} {σ : ab_S} (hM : ab_own M = 12) : ab_ex ab_G2 M K Rt pc n L (.inr (.inr (.inl 0)) :: r) σ (.getfield 113) = (n = 3 ∧ K (pc + 3) L (.inr (.inr (.inl 28)) :: r) σ) := by
  rw [ex_getfield, ab_o1_s, hM, gt2_12_113_0, ab_op_s]
  rfl
theorem dg2_12_116_0 {M : ab_M} {K : ab_K} {Rt : ab_V → ab_S → Prop} {pc n : Nat} {L : ab_L} {r : List ab_V} {σ : ab_S} (hM : ab_own M = 12) : ab_ex ab_G2 M K Rt pc n L (.inr (.inr (.inl 0)) :: r) σ (.getfield 116) = (n = 3 ∧ K (pc + 3) L (.inr (.inr (.inl 29)) :: r) σ) := by
  rw [ex_getfield, ab_o1_s, hM, gt2_12_116_0, ab_op_s]
  rfl
theorem dg2_12_119_0 {M : ab_M} {K : ab_K} {Rt : ab_V → ab_S → Prop} {pc n : Nat} {L : ab_L} {r : List ab_V} {σ : ab_S} (hM : ab_own M = 12) : ab_ex ab_G2 M K Rt pc n L (.inr (.inr (.inl 0)) :: r) σ (.getfield 119) = (n = 3 ∧ K (pc + 3) L (.inr (.inr (.inl 30)) :: r) σ) := by
  rw [ex_getfield, ab_o1_s, hM, gt2_12_119_0, ab_op_s]
  rfl
theorem dg2_12_122_0 {M : ab_M} {K : ab_K} {Rt : ab_V → ab_S → Prop} {pc n : Nat} {L : ab_L} {r : List ab_V} {σ : ab_S} (hM : ab_own M = 12) : ab_ex ab_G2 M K Rt pc n L (.inr (.inr (.inl 0)) :: r) σ (.getfield 122) = (n = 3 ∧ K (pc + 3) L (.inr (.inr (.inl 31)) :: r) σ) := by
  rw [ex_getfield, ab_o1_s, hM, gt2_12_122_0, ab_op_s]
  rfl
theorem dg2_12_377_0 {M : ab_M} {K : ab_K} {Rt : ab_V → ab_S → Prop} {pc n : Nat} {L : ab_L} {r : List ab_V} {σ : ab_S} (hM : ab_own M = 12) : ab_ex ab_G2 M K Rt pc n L (.inr (.inr (.inl 0)) :: r) σ (.getfield 377) = (n = 3 ∧ K (pc + 3) L (.inr (.inl (σ 0 60)) :: r) σ) := by
  rw [ex_getfield, ab_o1_s, hM, gt2_12_377_0, ab_op_s]
  rfl
theorem dg2_12_125_0 {M : ab_M} {K : ab_K} {Rt : ab_V → ab_S → Prop} {pc n : Nat} {L : ab_L} {r : List ab_V} {σ : ab_S} (hM : ab_own M = 12) : ab_ex ab_G2 M K Rt pc n L (.inr (.inr (.inl 0)) :: r) σ (.getfield 125) = (n = 3 ∧ K (pc + 3) L (.inr (.inr (.inl 32)) :: r) σ) := by
  rw [ex_getfield, ab_o1_s, hM, gt2_12_125_0, ab_op_s]
  rfl
theorem dg2_12_413_0 {M : ab_M} {K : ab_K} {Rt : ab_V → ab_S → Prop} {pc n : Nat} {L : ab_L} {r : List ab_V} {σ : ab_S} (hM : ab_own M = 12) : ab_ex ab_G2 M K Rt pc n L (.inr (.inr (.inl 0)) :: r) σ (.getfield 413) = (n = 3 ∧ K (pc + 3) L (.inr (.inl (σ 0 63)) :: r) σ) := by
  rw [ex_getfield, ab_o1_s, hM, gt2_12_413_0, ab_op_s]
  rfl
theorem dg2_12_416_0 {M : ab_M} {K : ab_K} {Rt : ab_V → ab_S → Prop} {pc n : Nat} {L : ab_L} {r : List ab_V} {σ : ab_S} (hM : ab_own M = 12) : ab_ex ab_G2 M K Rt pc n L (.inr (.inr (.inl 0)) :: r) σ (.getfield 416) = (n = 3 ∧ K (pc + 3) L (.inl (σ 0 64) :: r) σ) := by
  rw [ex_getfield, ab_o1_s, hM, gt2_12_416_0, ab_op_s]
  rfl
theorem dg2_12_419_0 {M : ab_M} {K : ab_K} {Rt : ab_V → ab_S → Prop} {pc n : Nat} {L : ab_L} {r : List ab_V} {σ : ab_S} (hM : ab_own M = 12) : ab_ex ab_G2 M K Rt pc n L (.inr (.inr (.inl 0)) :: r) σ (.getfield 419) = (n = 3 ∧ K (pc + 3) L (.inl (σ 0 65) :: r) σ) := by
  rw [ex_getfield, ab_o1_s, hM, gt2_12_419_0, ab_op_s]
  rfl
theorem dg2_12_128_0 {M : ab_M} {K : ab_K} {Rt : ab_V → ab_S → Prop} {pc n : Nat} {L : ab_L} {r : List ab_V} {σ : ab_S} (hM : ab_own M = 12) : ab_ex ab_G2 M K Rt pc n L (.inr (.inr (.inl 0)) :: r) σ (.getfield 128) = (n = 3 ∧ K (pc + 3) L (.inr (.inr (.inl 33)) :: r) σ) := by
  rw [ex_getfield, ab_o1_s, hM, gt2_12_128_0, ab_op_s]
  rfl
theorem dg2_12_131_0 {M : ab_M} {K : ab_K} {Rt : ab_V → ab_S → Prop} {pc n : Nat} {L : ab_L} {r : List ab_V} {σ : ab_S} (hM : ab_own M = 12) : ab_ex ab_G2 M K Rt pc n L (.inr (.inr (.inl 0)) :: r) σ (.getfield 131) = (n = 3 ∧ K (pc + 3) L (.inr (.inr (.inl 34)) :: r) σ) := by
  rw [ex_getfield, ab_o1_s, hM, gt2_12_131_0, ab_op_s]
  rfl
theorem dg2_12_134_0 {M : ab_M} {K : ab_K} {Rt : ab_V → ab_S → Prop} {pc n : Nat} {L : ab_L} {r : List ab_V} {σ : ab_S} (hM : ab_own M = 12) : ab_ex ab_G2 M K Rt pc n L (.inr (.inr (.inl 0)) :: r) σ (.getfield 134) = (n = 3 ∧ K (pc + 3) L (.inr (.inr (.inl 35)) :: r) σ) := by
  rw [ex_getfield, ab_o1_s, hM, gt2_12_134_0, ab_op_s]
  rfl
theorem dg2_12_137_0 {M : ab_M} {K : ab_K} {Rt : ab_V → ab_S → Prop} {pc n : Nat} {L : ab_L} {r : List ab_V} {σ : ab_S} (hM : ab_own M = 12) : ab_ex ab_G2 M K Rt pc n L (.inr (.inr (.inl 0)) :: r) σ (.getfield 137) = (n = 3 ∧ K (pc + 3) L (.inr (.inr (.inl 36)) :: r) σ) := by
  rw [ex_getfield, ab_o1_s, hM, gt2_12_137_0, ab_op_s]
  rfl
theorem dg2_12_140_0 {M : ab_M} {K : ab_K} {Rt : ab_V → ab_S → Prop} {pc n : Nat} {L : ab_L} {r : List ab_V} {σ : ab_S} (hM : ab_own M = 12) : ab_ex ab_G2 M K Rt pc n L (.inr (.inr (.inl 0)) :: r) σ (.getfield 140) = (n = 3 ∧ K (pc + 3) L (.inr (.inr (.inl 37)) :: r) σ) := by
  rw [ex_getfield, ab_o1_s, hM, gt2_12_140_0, ab_op_s]
  rfl
theorem dg2_12_143_0 {M : ab_M} {K : ab_K} {Rt : ab_V → ab_S → Prop} {pc n : Nat} {L : ab_L} {r : List ab_V} {σ : ab_S} (hM : ab_own M = 12) : ab_ex ab_G2 M K Rt pc n L (.inr (.inr (.inl 0)) :: r) σ (.getfield 143) = (n = 3 ∧ K (pc + 3) L (.inr (.inr (.inl 38)) :: r) σ) := by
  rw [ex_getfield, ab_o1_s, hM, gt2_12_143_0, ab_op_s]
  rfl
theorem dg2_12_445_0 {M : ab_M} {K : ab_K} {Rt : ab_V → ab_S → Prop} {pc n : Nat} {L : ab_L} {r : List ab_V} {σ : ab_S} (hM : ab_own M = 12) : ab_ex ab_G2 M K Rt pc n L (.inr (.inr (.inl 0)) :: r) σ (.getfield 445) = (n = 3 ∧ K (pc + 3) L (.inl (σ 0 72) :: r) σ) := by
  rw [ex_getfield, ab_o1_s, hM, gt2_12_445_0, ab_op_s]
  rfl
theorem dg2_12_448_0 {M : ab_M} {K : ab_K} {Rt : ab_V → ab_S → Prop} {pc n : Nat} {L : ab_L} {r : List ab_V} {σ : ab_S} (hM : ab_own M = 12) : ab_ex ab_G2 M K Rt pc n L (.inr (.inr (.inl 0)) :: r) σ (.getfield 448) = (n = 3 ∧ K (pc + 3) L (.inl (σ 0 73) :: r) σ) := by
  rw [ex_getfield, ab_o1_s, hM, gt2_12_448_0, ab_op_s]
  rfl
theorem dg2_12_451_0 {M : ab_M} {K : ab_K} {Rt : ab_V → ab_S → Prop} {pc n : Nat} {L : ab_L} {r : List ab_V} {σ : ab_S} (hM : ab_own M = 12) : ab_ex ab_G2 M K Rt pc n L (.inr (.inr (.inl 0)) :: r) σ (.getfield 451) = (n = 3 ∧ K (pc + 3) L (.inl (σ 0 74) :: r) σ) := by
  rw [ex_getfield, ab_o1_s, hM, gt2_12_451_0, ab_op_s]
  rfl
theorem dg2_12_482_0 {M : ab_M} {K : ab_K} {Rt : ab_V → ab_S → Prop} {pc n : Nat} {L : ab_L} {r : List ab_V} {σ : ab_S} (hM : ab_own M = 12) : ab_ex ab_G2 M K Rt pc n L (.inr (.inr (.inl 0)) :: r) σ (.getfield 482) = (n = 3 ∧ K (pc + 3) L (.inl (σ 0 75) :: r) σ) := by
  rw [ex_getfield, ab_o1_s, hM, gt2_12_482_0, ab_op_s]
  rfl
theorem dg2_12_489_0 {M : ab_M} {K : ab_K} {Rt : ab_V → ab_S → Prop} {pc n : Nat} {L : ab_L} {r : List ab_V} {σ : ab_S} (hM : ab_own M = 12) : ab_ex ab_G2 M K Rt pc n L (.inr (.inr (.inl 0)) :: r) σ (.getfield 489) = (n = 3 ∧ K (pc + 3) L (.inl (σ 0 76) :: r) σ) := by
  rw [ex_getfield, ab_o1_s, hM, gt2_12_489_0, ab_op_s]
  rfl
theorem dg2_12_146_0 {M : ab_M} {K : ab_K} {Rt : ab_V → ab_S → Prop} {pc n : Nat} {L : ab_L} {r : List ab_V} {σ : ab_S} (hM : ab_own M = 12) : ab_ex ab_G2 M K Rt pc n L (.inr (.inr (.inl 0)) :: r) σ (.getfield 146) = (n = 3 ∧ K (pc + 3) L (.inr (.inr (.inl 39)) :: r) σ) := by
  rw [ex_getfield, ab_o1_s, hM, gt2_12_146_0, ab_op_s]
  rfl
theorem dg2_12_149_0 {M : ab_M} {K : ab_K} {Rt : ab_V → ab_S → Prop} {pc n : Nat} {L : ab_L} {r : List ab_V} {σ : ab_S} (hM : ab_own M = 12) : ab_ex ab_G2 M K Rt pc n L (.inr (.inr (.inl 0)) :: r) σ (.getfield 149) = (n = 3 ∧ K (pc + 3) L (.inr (.inr (.inl 40)) :: r) σ) := by
  rw [ex_getfield, ab_o1_s, hM, gt2_12_149_0, ab_op_s]
  rfl
theorem dg2_12_498_0 {M : ab_M} {K : ab_K} {Rt : ab_V → ab_S → Prop} {pc n : Nat} {L : ab_L} {r : List ab_V} {σ : ab_S} (hM : ab_own M = 12) : ab_ex ab_G2 M K Rt pc n L (.inr (.inr (.inl 0)) :: r) σ (.getfield 498) = (n = 3 ∧ K (pc + 3) L (.inl (σ 0 79) :: r) σ) := by
  rw [ex_getfield, ab_o1_s, hM, gt2_12_498_0, ab_op_s]
  rfl
theorem dg2_12_501_0 {M : ab_M} {K : ab_K} {Rt : ab_V → ab_S → Prop} {pc n : Nat} {L : ab_L} {r : List ab_V} {σ : ab_S} (hM : ab_own M = 12) : ab_ex ab_G2 M K Rt pc n L (.inr (.inr (.inl 0)) :: r) σ (.getfield 501) = (n = 3 ∧ K (pc + 3) L (.inl (σ 0 80) :: r) σ) := by
  rw [ex_getfield, ab_o1_s, hM, gt2_12_501_0, ab_op_s]
  rfl
theorem dg2_12_152_0 {M : ab_M} {K : ab_K} {Rt : ab_V → ab_S → Prop} {pc n : Nat} {L : ab_L} {r : List ab_V} {σ : ab_S} (hM : ab_own M = 12) : ab_ex ab_G2 M K Rt pc n L (.inr (.inr (.inl 0)) :: r) σ (.getfield 152) = (n = 3 ∧ K (pc + 3) L (.inr (.inr (.inl 41)) :: r) σ) := by
  rw [ex_getfield, ab_o1_s, hM, gt2_12_152_0, ab_op_s]
  rfl
theorem dg2_12_155_0 {M : ab_M} {K : ab_K} {Rt : ab_V → ab_S → Prop} {pc n : Nat} {L : ab_L} {r : List ab_V} {σ : ab_S} (hM : ab_own M = 12) : ab_ex ab_G2 M K Rt pc n L (.inr (.inr (.inl 0)) :: r) σ (.getfield 155) = (n = 3 ∧ K (pc + 3) L (.inr (.inr (.inl 42)) :: r) σ) := by
  rw [ex_getfield, ab_o1_s, hM, gt2_12_155_0, ab_op_s]
  rfl
theorem dg2_12_158_0 {M : ab_M} {K : ab_K} {Rt : ab_V → ab_S → Prop} {pc n : Nat} {L : ab_L} {r : List ab_V} {σ : ab_S} (hM : ab_own M = 12) : ab_ex ab_G2 M K Rt pc n L (.inr (.inr (.inl 0)) :: r) σ (.getfield 158) = (n = 3 ∧ K (pc + 3) L (.inr (.inr (.inl 43)) :: r) σ) := by
  rw [ex_getfield, ab_o1_s, hM, gt2_12_158_0, ab_op_s]
  rfl
theorem dg2_12_161_0 {M : ab_M} {K : ab_K} {Rt : ab_V → ab_S → Prop} {pc n : Nat} {L : ab_L} {r : List ab_V} {σ : ab_S} (hM : ab_own M = 12) : ab_ex ab_G2 M K Rt pc n L (.inr (.inr (.inl 0)) :: r) σ (.getfield 161) = (n = 3 ∧ K (pc + 3) L (.inr (.inr (.inl 44)) :: r) σ) := by
  rw [ex_getfield, ab_o1_s, hM, gt2_12_161_0, ab_op_s]
  rfl
theorem dg2_12_164_0 {M : ab_M} {K : ab_K} {Rt : ab_V → ab_S → Prop} {pc n : Nat} {L : ab_L} {r : List ab_V} {σ : ab_S} (hM : ab_own M = 12) : ab_ex ab_G2 M K Rt pc n L (.inr (.inr (.inl 0)) :: r) σ (.getfield 164) = (n = 3 ∧ K (pc + 3) L (.inr (.inr (.inl 45)) :: r) σ) := by
  rw [ex_getfield, ab_o1_s, hM, gt2_12_164_0, ab_op_s]
  rfl
theorem dg2_12_513_0 {M : ab_M} {K : ab_K} {Rt : ab_V → ab_S → Prop} {pc n : Nat} {L : ab_L} {r : List ab_V} {σ : ab_S} (hM : ab_own M = 12) : ab_ex ab_G2 M K Rt pc n L (.inr (.inr (.inl 0)) :: r) σ (.getfield 513) = (n = 3 ∧ K (pc + 3) L (.inl (σ 0 86) :: r) σ) := by
  rw [ex_getfield, ab_o1_s, hM, gt2_12_513_0, ab_op_s]
  rfl
theorem dg2_12_529_0 {M : ab_M} {K : ab_K} {Rt : ab_V → ab_S → Prop} {pc n : Nat} {L : ab_L} {r : List ab_V} {σ : ab_S} (hM : ab_own M = 12) : ab_ex ab_G2 M K Rt pc n L (.inr (.inr (.inl 0)) :: r) σ (.getfield 529) = (n = 3 ∧ K (pc + 3) L (.inl (σ 0 87) :: r) σ) := by
  rw [ex_getfield, ab_o1_s, hM, gt2_12_529_0, ab_op_s]
  rfl
theorem dg2_12_532_0 {M : ab_M} {K : ab_K} {Rt : ab_V → ab_S → Prop} {pc n : Nat} {L : ab_L} {r : List ab_V} {σ : ab_S} (hM : ab_own M = 12) : ab_ex ab_G2 M K Rt pc n L (.inr (.inr (.inl 0)) :: r) σ (.getfield 532) = (n = 3 ∧ K (pc + 3) L (.inl (σ 0 88) :: r) σ) := by
  rw [ex_getfield, ab_o1_s, hM, gt2_12_532_0, ab_op_s]
  rfl
theorem dg2_12_538_0 {M : ab_M} {K : ab_K} {Rt : ab_V → ab_S → Prop} {pc n : Nat} {L : ab_L} {r : List ab_V} {σ : ab_S} (hM : ab_own M = 12) : ab_ex ab_G2 M K Rt pc n L (.inr (.inr (.inl 0)) :: r) σ (.getfield 538) = (n = 3 ∧ K (pc + 3) L (.inl (σ 0 89) :: r) σ) := by
  rw [ex_getfield, ab_o1_s, hM, gt2_12_538_0, ab_op_s]
  rfl
theorem dg2_12_335_0 {M : ab_M} {K : ab_K} {Rt : ab_V → ab_S → Prop} {pc n : Nat} {L : ab_L} {r : List ab_V} {σ : ab_S} (hM : ab_own M = 12) : ab_ex ab_G2 M K Rt pc n L (.inr (.inr (.inl 0)) :: r) σ (.getfield 335) = (n = 3 ∧ K (pc + 3) L (.inl (σ 0 90) :: r) σ) := by
  rw [ex_getfield, ab_o1_s, hM, gt2_12_335_0, ab_op_s]
  rfl
theorem dg2_12_167_0 {M : ab_M} {K : ab_K} {Rt : ab_V → ab_S → Prop} {pc n : Nat} {L : ab_L} {r : List ab_V} {σ : ab_S} (hM : ab_own M = 12) : ab_ex ab_G2 M K Rt pc n L (.inr (.inr (.inl 0)) :: r) σ (.getfield 167) = (n = 3 ∧ K (pc + 3) L (.inr (.inr (.inl 46)) :: r) σ) := by
  rw [ex_getfield, ab_o1_s, hM, gt2_12_167_0, ab_op_s]
  rfl
theorem dg2_12_170_0 {M : ab_M} {K : ab_K} {Rt : ab_V → ab_S → Prop} {pc n : Nat} {L : ab_L} {r : List ab_V} {σ : ab_S} (hM : ab_own M = 12) : ab_ex ab_G2 M K Rt pc n L (.inr (.inr (.inl 0)) :: r) σ (.getfield 170) = (n = 3 ∧ K (pc + 3) L (.inr (.inr (.inl 47)) :: r) σ) := by
  rw [ex_getfield, ab_o1_s, hM, gt2_12_170_0, ab_op_s]
  rfl
theorem dg2_12_173_0 {M : ab_M} {K : ab_K} {Rt : ab_V → ab_S → Prop} {pc n : Nat} {L : ab_L} {r : List ab_V} {σ : ab_S} (hM : ab_own M = 12) : ab_ex ab_G2 M K Rt pc n L (.inr (.inr (.inl 0)) :: r) σ (.getfield 173) = (n = 3 ∧ K (pc + 3) L (.inr (.inr (.inl 48)) :: r) σ) := by
  rw [ex_getfield, ab_o1_s, hM, gt2_12_173_0, ab_op_s]
  rfl
theorem dg2_12_176_0 {M : ab_M} {K : ab_K} {Rt : ab_V → ab_S → Prop} {pc n : Nat} {L : ab_L} {r : List ab_V} {σ : ab_S} (hM : ab_own M = 12) : ab_ex ab_G2 M K Rt pc n L (.inr (.inr (.inl 0)) :: r) σ (.getfield 176) = (n = 3 ∧ K (pc + 3) L (.inr (.inr (.inl 49)) :: r) σ) := by
  rw [ex_getfield, ab_o1_s, hM, gt2_12_176_0, ab_op_s]
  rfl
theorem dg2_12_179_0 {M : ab_M} {K : ab_K} {Rt : ab_V → ab_S → Prop} {pc n : Nat} {L : ab_L} {r : List ab_V} {σ : ab_S} (hM : ab_own M = 12) : ab_ex ab_G2 M K Rt pc n L (.inr (.inr (.inl 0)) :: r) σ (.getfield 179) = (n = 3 ∧ K (pc + 3) L (.inr (.inr (.inl 50)) :: r) σ) := by
  rw [ex_getfield, ab_o1_s, hM, gt2_12_179_0, ab_op_s]
  rfl
theorem dg2_12_182_0 {M : ab_M} {K : ab_K} {Rt : ab_V → ab_S → Prop} {pc n : Nat} {L : ab_L} {r : List ab_V} {σ : ab_S} (hM : ab_own M = 12) : ab_ex ab_G2 M K Rt pc n L (.inr (.inr (.inl 0)) :: r) σ (.getfield 182) = (n = 3 ∧ K (pc + 3) L (.inr (.inr (.inl 51)) :: r) σ) := by
  rw [ex_getfield, ab_o1_s, hM, gt2_12_182_0, ab_op_s]
  rfl
theorem dg2_12_185_0 {M : ab_M} {K : ab_K} {Rt : ab_V → ab_S → Prop} {pc n : Nat} {L : ab_L} {r : List ab_V} {σ : ab_S} (hM : ab_own M = 12) : ab_ex ab_G2 M K Rt pc n L (.inr (.inr (.inl 0)) :: r) σ (.getfield 185) = (n = 3 ∧ K (pc + 3) L (.inr (.inr (.inl 52)) :: r) σ) := by
  rw [ex_getfield, ab_o1_s, hM, gt2_12_185_0, ab_op_s]
  rfl
theorem dp1_6_15_1 {M : ab_M} {K : ab_K} {Rt : ab_V → ab_S → Prop} {pc n : Nat} {L : ab_L} {r : List ab_V} {σ : ab_S} {x : Int} (hM : ab_own M = 6) : ab_ex ab_G1 M K Rt pc n L (.inl x :: .inr (.inr (.inl 1)) :: r) σ (.putfield 15) = (n = 3 ∧ K (pc + 3) L r (ab_up σ 1 1 x)) := by
  rw [ex_putfield]
  simp [hM, pt1_6_15_1, ab_op_s]
theorem dp1_11_111_1 {M : ab_M} {K : ab_K} {Rt : ab_V → ab_S → Prop} {pc n : Nat} {L : ab_L} {r : List ab_V} {σ : ab_S} {x : Int} (hM : ab_own M = 11) : ab_ex ab_G1 M K Rt pc n L (.inl x :: .inr (.inr (.inl 1)) :: r) σ (.putfield 111) = (n = 3 ∧ K (pc + 3) L r (ab_up σ 1 1 x)) := by
  rw [ex_putfield]
  simp [hM, pt1_11_111_1, ab_op_s]
theorem dp1_6_19_1 {M : ab_M} {K : ab_K} {Rt : ab_V → ab_S → Prop} {pc n : Nat} {L : ab_L} {r : List ab_V} {σ : ab_S} {x : Int} (hM : ab_own M = 6) : ab_ex ab_G1 M K Rt pc n L (.inl x :: .inr (.inr (.inl 1)) :: r) σ (.putfield 19) = (n = 3 ∧ K (pc + 3) L r (ab_up σ 1 2 x)) := by
  rw [ex_putfield]
  simp [hM, pt1_6_19_1, ab_op_s]
theorem dp1_6_22_1 {M : ab_M} {K : ab_K} {Rt : ab_V → ab_S → Prop} {pc n : Nat} {L : ab_L} {r : List ab_V} {σ : ab_S} {x : Int} (hM : ab_own M = 6) : ab_ex ab_G1 M K Rt pc n L (.inl x :: .inr (.inr (.inl 1)) :: r) σ (.putfield 22) = (n = 3 ∧ K (pc + 3) L r (ab_up σ 1 3 x)) := by
  rw [ex_putfield]
  simp [hM, pt1_6_22_1, ab_op_s]
theorem dp1_6_25_1 {M : ab_M} {K : ab_K} {Rt : ab_V → ab_S → Prop} {pc n : Nat} {L : ab_L} {r : List ab_V} {σ : ab_S} {x : Int} (hM : ab_own M = 6) : ab_ex ab_G1 M K Rt pc n L (.inl x :: .inr (.inr (.inl 1)) :: r) σ (.putfield 25) = (n = 3 ∧ K (pc + 3) L r (ab_up σ 1 4 x)) := by
  rw [ex_putfield]
  simp [hM, pt1_6_25_1, ab_op_s]
theorem dp1_6_28_1 {M : ab_M} {K : ab_K} {Rt : ab_V → ab_S → Prop} {pc n : Nat} {L : ab_L} {r : List ab_V} {σ : ab_S} {x : Int} (hM : ab_own M = 6) : ab_ex ab_G1 M K Rt pc n L (.inl x :: .inr (.inr (.inl 1)) :: r) σ (.putfield 28) = (n = 3 ∧ K (pc + 3) L r (ab_up σ 1 5 x)) := by
  rw [ex_putfield]
  simp [hM, pt1_6_28_1, ab_op_s]
theorem dp1_11_122_1 {M : ab_M} {K : ab_K} {Rt : ab_V → ab_S → Prop} {pc n : Nat} {L : ab_L} {r : List ab_V} {σ : ab_S} {x : Int} (hM : ab_own M = 11) : ab_ex ab_G1 M K Rt pc n L (.inl x :: .inr (.inr (.inl 1)) :: r) σ (.putfield 122) = (n = 3 ∧ K (pc + 3) L r (ab_up σ 1 5 x)) := by
  rw [ex_putfield]
  simp [hM, pt1_11_122_1, ab_op_s]
theorem dp1_6_31_1 {M : ab_M} {K : ab_K} {Rt : ab_V → ab_S → Prop} {pc n : Nat} {L : ab_L} {r : List ab_V} {σ : ab_S} {x : Int} (hM : ab_own M = 6) : ab_ex ab_G1 M K Rt pc n L (.inl x :: .inr (.inr (.inl 1)) :: r) σ (.putfield 31) = (n = 3 ∧ K (pc + 3) L r (ab_up σ 1 6 x)) := by
  rw [ex_putfield]
  simp [hM, pt1_6_31_1, ab_op_s]
theorem dp1_9_36_3 {M : ab_M} {K : ab_K} {Rt : ab_V → ab_S → Prop} {pc n : Nat} {L : ab_L} {r : List ab_V} {σ : ab_S} {x : Int} (hM : ab_own M = 9) : ab_ex ab_G1 M K Rt pc n L (.inl x :: .inr (.inr (.inl 3)) :: r) σ (.putfield 36) = (n = 3 ∧ K (pc + 3) L r (ab_up σ 3 8 x)) := by
  rw [ex_putfield]
  simp [hM, pt1_9_36_3, ab_op_s]
theorem dp1_9_36_12 {M : ab_M} {K : ab_K} {Rt : ab_V → ab_S → Prop} {pc n : Nat} {L : ab_L} {r : List ab_V} {σ : ab_S} {x : Int} (hM : ab_own M = 9) : ab_ex ab_G1 M K Rt pc n L (.inl x :: .inr (.inr (.inl 12)) :: r) σ (.putfield 36) = (n = 3 ∧ K (pc + 3) L r (ab_up σ 12 8 x)) := by
  rw [ex_putfield]
  simp [hM, pt1_9_36_12, ab_op_s]
theorem dp1_1_76_3 {M : ab_M} {K : ab_K} {Rt : ab_V → ab_S → Prop} {pc n : Nat} {L : ab_L} {r : List ab_V} {σ : ab_S} {x : Int} (hM : ab_own M = 1) : ab_ex ab_G1 M K Rt pc n L (.inl x :: .inr (.inr (.inl 3)) :: r) σ (.putfield 76) = (n = 3 ∧ K (pc + 3) L r (ab_up σ 3 8 x)) := by
  rw [ex_putfield]
  simp [hM, pt1_1_76_3, ab_op_s]
theorem dp1_1_76_12 {M : ab_M} {K : ab_K} {Rt : ab_V → ab_S → Prop} {pc n : Nat} {L : ab_L} {r : List ab_V} {σ : ab_S} {x : Int} (hM : ab_own M = 1) : ab_ex ab_G1 M K Rt pc n L (.inl x :: .inr (.inr (.inl 12)) :: r) σ (.putfield 76) = (n = 3 ∧ K (pc + 3) L r (ab_up σ 12 8 x)) := by
  rw [ex_putfield]
  simp [hM, pt1_1_76_12, ab_op_s]
theorem dp1_6_43_3 {M : ab_M} {K : ab_K} {Rt : ab_V → ab_S → Prop} {pc n : Nat} {L : ab_L} {r : List ab_V} {σ : ab_S} {x : Int} (hM : ab_own M = 6) : ab_ex ab_G1 M K Rt pc n L (.inl x :: .inr (.inr (.inl 3)) :: r) σ (.putfield 43) = (n = 3 ∧ K (pc + 3) L r (ab_up σ 3 8 x)) := by
  rw [ex_putfield]
  simp [hM, pt1_6_43_3, ab_op_s]
theorem dp1_6_43_12 {M : ab_M} {K : ab_K} {Rt : ab_V → ab_S → Prop} {pc n : Nat} {L : ab_L} {r : List ab_V} {σ : ab_S} {x : Int} (hM : ab_own M = 6) : ab_ex ab_G1 M K Rt pc n L (.inl x :: .inr (.inr (.inl 12)) :: r) σ (.putfield 43) = (n = 3 ∧ K (pc + 3) L r (ab_up σ 12 8 x)) := by
  rw [ex_putfield]
  simp [hM, pt1_6_43_12, ab_op_s]
theorem dp1_11_137_3 {M : ab_M} {K : ab_K} {Rt : ab_V → ab_S → Prop} {pc n : Nat} {L : ab_L} {r : List ab_V} {σ : ab_S} {x : Int} (hM : ab_own M = 11) : ab_ex ab_G1 M K Rt pc n L (.inl x :: .inr (.inr (.inl 3)) :: r) σ (.putfield 137) = (n = 3 ∧ K (pc + 3) L r (ab_up σ 3 8 x)) := by
  rw [ex_putfield]
  simp [hM, pt1_11_137_3, ab_op_s]
theorem dp1_11_137_12 {M : ab_M} {K : ab_K} {Rt : ab_V → ab_S → Prop} {pc n : Nat} {L : ab_L} {r : List ab_V} {σ : ab_S} {x : Int} (hM : ab_own M = 11) : ab_ex ab_G1 M K Rt pc n L (.inl x :: .inr (.inr (.inl 12)) :: r) σ (.putfield 137) = (n = 3 ∧ K (pc + 3) L r (ab_up σ 12 8 x)) := by
  rw [ex_putfield]
  simp [hM, pt1_11_137_12, ab_op_s]
theorem dp1_4_102_3 {M : ab_M} {K : ab_K} {Rt : ab_V → ab_S → Prop} {pc n : Nat} {L : ab_L} {r : List ab_V} {σ : ab_S} {x : Int} (hM : ab_own M = 4) : ab_ex ab_G1 M K Rt pc n L (.inl x :: .inr (.inr (.inl 3)) :: r) σ (.putfield 102) = (n = 3 ∧ K (pc + 3) L r (ab_up σ 3 8 x)) := by
  rw [ex_putfield]
  simp [hM, pt1_4_102_3, ab_op_s]
theorem dp1_4_102_12 {M : ab_M} {K : ab_K} {Rt : ab_V → ab_S → Prop} {pc n : Nat} {L : ab_L} {r : List ab_V} {σ : ab_S} {x : Int} (hM : ab_own M = 4) : ab_ex ab_G1 M K Rt pc n L (.inl x :: .inr (.inr (.inl 12)) :: r) σ (.putfield 102) = (n = 3 ∧ K (pc + 3) L r (ab_up σ 12 8 x)) := by
  rw [ex_putfield]
  simp [hM, pt1_4_102_12, ab_op_s]
theorem dp1_7_97_3 {M : ab_M} {K : ab_K} {Rt : ab_V → ab_S → Prop} {pc n : Nat} {L : ab_L} {r : List ab_V} {σ : ab_S} {x : Int} (hM : ab_own M = 7) : ab_ex ab_G1 M K Rt pc n L (.inl x :: .inr (.inr (.inl 3)) :: r) σ (.putfield 97) = (n = 3 ∧ K (pc + 3) L r (ab_up σ 3 8 x)) := by
  rw [ex_putfield]
  simp [hM, pt1_7_97_3, ab_op_s]
theorem dp1_7_97_12 {M : ab_M} {K : ab_K} {Rt : ab_V → ab_S → Prop} {pc n : Nat} {L : ab_L} {r : List ab_V} {σ : ab_S} {x : Int} (hM : ab_own M = 7) : ab_ex ab_G1 M K Rt pc n L (.inl x :: .inr (.inr (.inl 12)) :: r) σ (.putfield 97) = (n = 3 ∧ K (pc + 3) L r (ab_up σ 12 8 x)) := by
  rw [ex_putfield]
  simp [hM, pt1_7_97_12, ab_op_s]
theorem dp1_8_53_3 {M : ab_M} {K : ab_K} {Rt : ab_V → ab_S → Prop} {pc n : Nat} {L : ab_L} {r : List ab_V} {σ : ab_S} {x : Int} (hM : ab_own M = 8) : ab_ex ab_G1 M K Rt pc n L (.inl x :: .inr (.inr (.inl 3)) :: r) σ (.putfield 53) = (n = 3 ∧ K (pc + 3) L r (ab_up σ 3 8 x)) := by
  rw [ex_putfield]
  simp [hM, pt1_8_53_3, ab_op_s]
theorem dp1_8_53_12 {M : ab_M} {K : ab_K} {Rt : ab_V → ab_S → Prop} {pc n : Nat} {L : ab_L} {r : List ab_V} {σ : ab_S} {x : Int} (hM : ab_own M = 8) : ab_ex ab_G1 M K Rt pc n L (.inl x :: .inr (.inr (.inl 12)) :: r) σ (.putfield 53) = (n = 3 ∧ K (pc + 3) L r (ab_up σ 12 8 x)) := by
  rw [ex_putfield]
  simp [hM, pt1_8_53_12, ab_op_s]
theorem dp1_10_70_3 {M : ab_M} {K : ab_K} {Rt : ab_V → ab_S → Prop} {pc n : Nat} {L : ab_L} {r : List ab_V} {σ : ab_S} {x : Int} (hM : ab_own M = 10) : ab_ex ab_G1 M K Rt pc n L (.inl x :: .inr (.inr (.inl 3)) :: r) σ (.putfield 70) = (n = 3 ∧ K (pc + 3) L r (ab_up σ 3 8 x)) := by
  rw [ex_putfield]
  simp [hM, pt1_10_70_3, ab_op_s]
theorem dp1_10_70_12 {M : ab_M} {K : ab_K} {Rt : ab_V → ab_S → Prop} {pc n : Nat} {L : ab_L} {r : List ab_V} {σ : ab_S} {x : Int} (hM : ab_own M = 10) : ab_ex ab_G1 M K Rt pc n L (.inl x :: .inr (.inr (.inl 12)) :: r) σ (.putfield 70) = (n = 3 ∧ K (pc + 3) L r (ab_up σ 12 8 x)) := by
  rw [ex_putfield]
  simp [hM, pt1_10_70_12, ab_op_s]
theorem dp1_9_40_3 {M : ab_M} {K : ab_K} {Rt : ab_V → ab_S → Prop} {pc n : Nat} {L : ab_L} {r : List ab_V} {σ : ab_S} {x : Int} (hM : ab_own M = 9) : ab_ex ab_G1 M K Rt pc n L (.inl x :: .inr (.inr (.inl 3)) :: r) σ (.putfield 40) = (n = 3 ∧ K (pc + 3) L r (ab_up σ 3 9 x)) := by
  rw [ex_putfield]
  simp [hM, pt1_9_40_3, ab_op_s]
theorem dp1_9_40_12 {M : ab_M} {K : ab_K} {Rt : ab_V → ab_S → Prop} {pc n : Nat} {L : ab_L} {r : List ab_V} {σ : ab_S} {x : Int} (hM : ab_own M = 9) : ab_ex ab_G1 M K Rt pc n L (.inl x :: .inr (.inr (.inl 12)) :: r) σ (.putfield 40) = (n = 3 ∧ K (pc + 3) L r (ab_up σ 12 9 x)) := by
  rw [ex_putfield]
  simp [hM, pt1_9_40_12, ab_op_s]
theorem dp1_7_81_3 {M : ab_M} {K : ab_K} {Rt : ab_V → ab_S → Prop} {pc n : Nat} {L : ab_L} {r : List ab_V} {σ : ab_S} {x : Int} (hM : ab_own M = 7) : ab_ex ab_G1 M K Rt pc n L (.inl x :: .inr (.inr (.inl 3)) :: r) σ (.putfield 81) = (n = 3 ∧ K (pc + 3) L r (ab_up σ 3 9 x)) := by
  rw [ex_putfield]
  simp [hM, pt1_7_81_3, ab_op_s]
theorem dp1_7_81_12 {M : ab_M} {K : ab_K} {Rt : ab_V → ab_S → Prop} {pc n : Nat} {L : ab_L} {r : List ab_V} {σ : ab_S} {x : Int} (hM : ab_own M = 7) : ab_ex ab_G1 M K Rt pc n L (.inl x :: .inr (.inr (.inl 12)) :: r) σ (.putfield 81) = (n = 3 ∧ K (pc + 3) L r (ab_up σ 12 9 x)) := by
  rw [ex_putfield]
  simp [hM, pt1_7_81_12, ab_op_s]
theorem dp1_4_109_3 {M : ab_M} {K : ab_K} {Rt : ab_V → ab_S → Prop} {pc n : Nat} {L : ab_L} {r : List ab_V} {σ : ab_S} {x : Int} (hM : ab_own M = 4) : ab_ex ab_G1 M K Rt pc n L (.inl x :: .inr (.inr (.inl 3)) :: r) σ (.putfield 109) = (n = 3 ∧ K (pc + 3) L r (ab_up σ 3 9 x)) := by
  rw [ex_putfield]
  simp [hM, pt1_4_109_3, ab_op_s]
theorem dp1_4_109_12 {M : ab_M} {K : ab_K} {Rt : ab_V → ab_S → Prop} {pc n : Nat} {L : ab_L} {r : List ab_V} {σ : ab_S} {x : Int} (hM : ab_own M = 4) : ab_ex ab_G1 M K Rt pc n L (.inl x :: .inr (.inr (.inl 12)) :: r) σ (.putfield 109) = (n = 3 ∧ K (pc + 3) L r (ab_up σ 12 9 x)) := by
  rw [ex_putfield]
  simp [hM, pt1_4_109_12, ab_op_s]
theorem dp1_11_151_3 {M : ab_M} {K : ab_K} {Rt : ab_V → ab_S → Prop} {pc n : Nat} {L : ab_L} {r : List ab_V} {σ : ab_S} {x : Int} (hM : ab_own M = 11) : ab_ex ab_G1 M K Rt pc n L (.inl x :: .inr (.inr (.inl 3)) :: r) σ (.putfield 151) = (n = 3 ∧ K (pc + 3) L r (ab_up σ 3 9 x)) := by
  rw [ex_putfield]
  simp [hM, pt1_11_151_3, ab_op_s]
theorem dp1_11_151_12 {M : ab_M} {K : ab_K} {Rt : ab_V → ab_S → Prop} {pc n : Nat} {L : ab_L} {r : List ab_V} {σ : ab_S} {x : Int} (hM : ab_own M = 11) : ab_ex ab_G1 M K Rt pc n L (.inl x :: .inr (.inr (.inl 12)) :: r) σ (.putfield 151) = (n = 3 ∧ K (pc + 3) L r (ab_up σ 12 9 x)) := by
  rw [ex_putfield]
  simp [hM, pt1_11_151_12, ab_op_s]
theorem dp1_8_66_3 {M : ab_M} {K : ab_K} {Rt : ab_V → ab_S → Prop} {pc n : Nat} {L : ab_L} {r : List ab_V} {σ : ab_S} {x : Int} (hM : ab_own M = 8) : ab_ex ab_G1 M K Rt pc n L (.inl x :: .inr (.inr (.inl 3)) :: r) σ (.putfield 66) = (n = 3 ∧ K (pc + 3) L r (ab_up σ 3 9 x)) := by
  rw [ex_putfield]
  simp [hM, pt1_8_66_3, ab_op_s]
theorem dp1_8_66_12 {M : ab_M} {K : ab_K} {Rt : ab_V → ab_S → Prop} {pc n : Nat} {L : ab_L} {r : List ab_V} {σ : ab_S} {x : Int} (hM : ab_own M = 8) : ab_ex ab_G1 M K Rt pc n L (.inl x :: .inr (.inr (.inl 12)) :: r) σ (.putfield 66) = (n = 3 ∧ K (pc + 3) L r (ab_up σ 12 9 x)) := by
  rw [ex_putfield]
  simp [hM, pt1_8_66_12, ab_op_s]
theorem dp1_6_183_3 {M : ab_M} {K : ab_K} {Rt : ab_V → ab_S → Prop} {pc n : Nat} {L : ab_L} {r : List ab_V} {σ : ab_S} {x : Int} (hM : ab_own M = 6) : ab_ex ab_G1 M K Rt pc n L (.inl x :: .inr (.inr (.inl 3)) :: r) σ (.putfield 183) = (n = 3 ∧ K (pc + 3) L r (ab_up σ 3 9 x)) := by
  rw [ex_putfield]
  simp [hM, pt1_6_183_3, ab_op_s]
theorem dp1_6_183_12 {M : ab_M} {K : ab_K} {Rt : ab_V → ab_S → Prop} {pc n : Nat} {L : ab_L} {r : List ab_V} {σ : ab_S} {x : Int} (hM : ab_own M = 6) : ab_ex ab_G1 M K Rt pc n L (.inl x :: .inr (.inr (.inl 12)) :: r) σ (.putfield 183) = (n = 3 ∧ K (pc + 3) L r (ab_up σ 12 9 x)) := by
  rw [ex_putfield]
  simp [hM, pt1_6_183_12, ab_op_s]
theorem dp1_9_43_3 {M : ab_M} {K : ab_K} {Rt : ab_V → ab_S → Prop} {pc n : Nat} {L : ab_L} {r : List ab_V} {σ : ab_S} {x : Int} (hM : ab_own M = 9) : ab_ex ab_G1 M K Rt pc n L (.inl x :: .inr (.inr (.inl 3)) :: r) σ (.putfield 43) = (n = 3 ∧ K (pc + 3) L r (ab_up σ 3 10 x)) := by
  rw [ex_putfield]
  simp [hM, pt1_9_43_3, ab_op_s]
theorem dp1_9_43_12 {M : ab_M} {K : ab_K} {Rt : ab_V → ab_S → Prop} {pc n : Nat} {L : ab_L} {r : List ab_V} {σ : ab_S} {x : Int} (hM : ab_own M = 9) : ab_ex ab_G1 M K Rt pc n L (.inl x :: .inr (.inr (.inl 12)) :: r) σ (.putfield 43) = (n = 3 ∧ K (pc + 3) L r (ab_up σ 12 10 x)) := by
  rw [ex_putfield]
  simp [hM, pt1_9_43_12, ab_op_s]
theorem dp1_3_38_3 {M : ab_M} {K : ab_K} {Rt : ab_V → ab_S → Prop} {pc n : Nat} {L : ab_L} {r : List ab_V} {σ : ab_S} {x : Int} (hM : ab_own M = 3) : ab_ex ab_G1 M K Rt pc n L (.inl x :: .inr (.inr (.inl 3)) :: r) σ (.putfield 38) = (n = 3 ∧ K (pc + 3) L r (ab_up σ 3 10 x)) := by
  rw [ex_putfield]
  simp [hM, pt1_3_38_3, ab_op_s]
theorem dp1_3_38_12 {M : ab_M} {K : ab_K} {Rt : ab_V → ab_S → Prop} {pc n : Nat} {L : ab_L} {r : List ab_V} {σ : ab_S} {x : Int} (hM : ab_own M = 3) : ab_ex ab_G1 M K Rt pc n L (.inl x :: .inr (.inr (.inl 12)) :: r) σ (.putfield 38) = (n = 3 ∧ K (pc + 3) L r (ab_up σ 12 10 x)) := by
  rw [ex_putfield]
  simp [hM, pt1_3_38_12, ab_op_s]
theorem dp1_6_142_3 {M : ab_M} {K : ab_K} {Rt : ab_V → ab_S → Prop} {pc n : Nat} {L : ab_L} {r : List ab_V} {σ : ab_S} {x : Int} (hM : ab_own M = 6) : ab_ex ab_G1 M K Rt pc n L (.inl x :: .inr (.inr (.inl 3)) :: r) σ (.putfield 142) = (n = 3 ∧ K (pc + 3) L r (ab_up σ 3 10 x)) := by
  rw [ex_putfield]
  simp [hM, pt1_6_142_3, ab_op_s]
theorem dp1_6_142_12 {M : ab_M} {K : ab_K} {Rt : ab_V → ab_S → Prop} {pc n : Nat} {L : ab_L} {r : List ab_V} {σ : ab_S} {x : Int} (hM : ab_own M = 6) : ab_ex ab_G1 M K Rt pc n L (.inl x :: .inr (.inr (.inl 12)) :: r) σ (.putfield 142) = (n = 3 ∧ K (pc + 3) L r (ab_up σ 12 10 x)) := by
  rw [ex_putfield]
  simp [hM, pt1_6_142_12, ab_op_s]
theorem dp1_11_344_3 {M : ab_M} {K : ab_K} {Rt : ab_V → ab_S → Prop} {pc n : Nat} {L : ab_L} {r : List ab_V} {σ : ab_S} {x : Int} (hM : ab_own M = 11) : ab_ex ab_G1 M K Rt pc n L (.inl x :: .inr (.inr (.inl 3)) :: r) σ (.putfield 344) = (n = 3 ∧ K (pc + 3) L r (ab_up σ 3 10 x)) := by
  rw [ex_putfield]
  simp [hM, pt1_11_344_3, ab_op_s]
theorem dp1_11_344_12 {M : ab_M} {K : ab_K} {Rt : ab_V → ab_S → Prop} {pc n : Nat} {L : ab_L} {r : List ab_V} {σ : ab_S} {x : Int} (hM : ab_own M = 11) : ab_ex ab_G1 M K Rt pc n L (.inl x :: .inr (.inr (.inl 12)) :: r) σ (.putfield 344) = (n = 3 ∧ K (pc + 3) L r (ab_up σ 12 10 x)) := by
  rw [ex_putfield]
  simp [hM, pt1_11_344_12, ab_op_s]
theorem dp1_9_46_3 {M : ab_M} {K : ab_K} {Rt : ab_V → ab_S → Prop} {pc n : Nat} {L : ab_L} {r : List ab_V} {σ : ab_S} {x : Int} (hM : ab_own M = 9) : ab_ex ab_G1 M K Rt pc n L (.inl x :: .inr (.inr (.inl 3)) :: r) σ (.putfield 46) = (n = 3 ∧ K (pc + 3) L r (ab_up σ 3 11 x)) := by
  rw [ex_putfield]
  simp [hM, pt1_9_46_3, ab_op_s]
theorem dp1_9_46_12 {M : ab_M} {K : ab_K} {Rt : ab_V → ab_S → Prop} {pc n : Nat} {L : ab_L} {r : List ab_V} {σ : ab_S} {x : Int} (hM : ab_own M = 9) : ab_ex ab_G1 M K Rt pc n L (.inl x :: .inr (.inr (.inl 12)) :: r) σ (.putfield 46) = (n = 3 ∧ K (pc + 3) L r (ab_up σ 12 11 x)) := by
  rw [ex_putfield]
  simp [hM, pt1_9_46_12, ab_op_s]
theorem dp1_3_73_3 {M : ab_M} {K : ab_K} {Rt : ab_V → ab_S → Prop} {pc n : Nat} {L : ab_L} {r : List ab_V} {σ : ab_S} {x : Int} (hM : ab_own M = 3) : ab_ex ab_G1 M K Rt pc n L (.inl x :: .inr (.inr (.inl 3)) :: r) σ (.putfield 73) = (n = 3 ∧ K (pc + 3) L r (ab_up σ 3 11 x)) := by
  rw [ex_putfield]
  simp [hM, pt1_3_73_3, ab_op_s]
theorem dp1_3_73_12 {M : ab_M} {K : ab_K} {Rt : ab_V → ab_S → Prop} {pc n : Nat} {L : ab_L} {r : List ab_V} {σ : ab_S} {x : Int} (hM : ab_own M = 3) : ab_ex ab_G1 M K Rt pc n L (.inl x :: .inr (.inr (.inl 12)) :: r) σ (.putfield 73) = (n = 3 ∧ K (pc + 3) L r (ab_up σ 12 11 x)) := by
  rw [ex_putfield]
  simp [hM, pt1_3_73_12, ab_op_s]
theorem dp1_6_144_3 {M : ab_M} {K : ab_K} {Rt : ab_V → ab_S → Prop} {pc n : Nat} {L : ab_L} {r : List ab_V} {σ : ab_S} {x : Int} (hM : ab_own M = 6) : ab_ex ab_G1 M K Rt pc n L (.inl x :: .inr (.inr (.inl 3)) :: r) σ (.putfield 144) = (n = 3 ∧ K (pc + 3) L r (ab_up σ 3 11 x)) := by
  rw [ex_putfield]
  simp [hM, pt1_6_144_3, ab_op_s]
theorem dp1_6_144_12 {M : ab_M} {K : ab_K} {Rt : ab_V → ab_S → Prop} {pc n : Nat} {L : ab_L} {r : List ab_V} {σ : ab_S} {x : Int} (hM : ab_own M = 6) : ab_ex ab_G1 M K Rt pc n L (.inl x :: .inr (.inr (.inl 12)) :: r) σ (.putfield 144) = (n = 3 ∧ K (pc + 3) L r (ab_up σ 12 11 x)) := by
  rw [ex_putfield]
  simp [hM, pt1_6_144_12, ab_op_s]
theorem dp1_9_49_3 {M : ab_M} {K : ab_K} {Rt : ab_V → ab_S → Prop} {pc n : Nat} {L : ab_L} {r : List ab_V} {σ : ab_S} {x : Int} (hM : ab_own M = 9) : ab_ex ab_G1 M K Rt pc n L (.inl x :: .inr (.inr (.inl 3)) :: r) σ (.putfield 49) = (n = 3 ∧ K (pc + 3) L r (ab_up σ 3 12 x)) := by
  rw [ex_putfield]
  simp [hM, pt1_9_49_3, ab_op_s]
theorem dp1_9_49_12 {M : ab_M} {K : ab_K} {Rt : ab_V → ab_S → Prop} {pc n : Nat} {L : ab_L} {r : List ab_V} {σ : ab_S} {x : Int} (hM : ab_own M = 9) : ab_ex ab_G1 M K Rt pc n L (.inl x :: .inr (.inr (.inl 12)) :: r) σ (.putfield 49) = (n = 3 ∧ K (pc + 3) L r (ab_up σ 12 12 x)) := by
  rw [ex_putfield]
  simp [hM, pt1_9_49_12, ab_op_s]
theorem dp1_5_81_3 {M : ab_M} {K : ab_K} {Rt : ab_V → ab_S → Prop} {pc n : Nat} {L : ab_L} {r : List ab_V} {σ : ab_S} {x : Int} (hM : ab_own M = 5) : ab_ex ab_G1 M K Rt pc n L (.inl x :: .inr (.inr (.inl 3)) :: r) σ (.putfield 81) = (n = 3 ∧ K (pc + 3) L r (ab_up σ 3 12 x)) := by
  rw [ex_putfield]
  simp [hM, pt1_5_81_3, ab_op_s]
theorem dp1_5_81_12 {M : ab_M} {K : ab_K} {Rt : ab_V → ab_S → Prop} {pc n : Nat} {L : ab_L} {r : List ab_V} {σ : ab_S} {x : Int} (hM : ab_own M = 5) : ab_ex ab_G1 M K Rt pc n L (.inl x :: .inr (.inr (.inl 12)) :: r) σ (.putfield 81) = (n = 3 ∧ K (pc + 3) L r (ab_up σ 12 12 x)) := by
  rw [ex_putfield]
  simp [hM, pt1_5_81_12, ab_op_s]
theorem dp1_4_90_3 {M : ab_M} {K : ab_K} {Rt : ab_V → ab_S → Prop} {pc n : Nat} {L : ab_L} {r : List ab_V} {σ : ab_S} {x : Int} (hM : ab_own M = 4) : ab_ex ab_G1 M K Rt pc n L (.inl x :: .inr (.inr (.inl 3)) :: r) σ (.putfield 90) = (n = 3 ∧ K (pc + 3) L r (ab_up σ 3 12 x)) := by
  rw [ex_putfield]
  simp [hM, pt1_4_90_3, ab_op_s]
theorem dp1_4_90_12 {M : ab_M} {K : ab_K} {Rt : ab_V → ab_S → Prop} {pc n : Nat} {L : ab_L} {r : List ab_V} {σ : ab_S} {x : Int} (hM : ab_own M = 4) : ab_ex ab_G1 M K Rt pc n L (.inl x :: .inr (.inr (.inl 12)) :: r) σ (.putfield 90) = (n = 3 ∧ K (pc + 3) L r (ab_up σ 12 12 x)) := by
  rw [ex_putfield]
  simp [hM, pt1_4_90_12, ab_op_s]
theorem dp1_6_153_3 {M : ab_M} {K : ab_K} {Rt : ab_V → ab_S → Prop} {pc n : Nat} {L : ab_L} {r : List ab_V} {σ : ab_S} {x : Int} (hM : ab_own M = 6) : ab_ex ab_G1 M K Rt pc n L (.inl x :: .inr (.inr (.inl 3)) :: r) σ (.putfield 153) = (n = 3 ∧ K (pc + 3) L r (ab_up σ 3 12 x)) := by
  rw [ex_putfield]
  simp [hM, pt1_6_153_3, ab_op_s]
theorem dp1_6_153_12 {M : ab_M} {K : ab_K} {Rt : ab_V → ab_S → Prop} {pc n : Nat} {L : ab_L} {r : List ab_V} {σ : ab_S} {x : Int} (hM : ab_own M = 6) : ab_ex ab_G1 M K Rt pc n L (.inl x :: .inr (.inr (.inl 12)) :: r) σ (.putfield 153) = (n = 3 ∧ K (pc + 3) L r (ab_up σ 12 12 x)) := by
  rw [ex_putfield]
  simp [hM, pt1_6_153_12, ab_op_s]
theorem dp1_11_353_3 {M : ab_M} {K : ab_K} {Rt : ab_V → ab_S → Prop} {pc n : Nat} {L : ab_L} {r : List ab_V} {σ : ab_S} {x : Int} (hM : ab_own M = 11) : ab_ex ab_G1 M K Rt pc n L (.inl x :: .inr (.inr (.inl 3)) :: r) σ (.putfield 353) = (n = 3 ∧ K (pc + 3) L r (ab_up σ 3 12 x)) := by
  rw [ex_putfield]
  simp [hM, pt1_11_353_3, ab_op_s]
theorem dp1_11_353_12 {M : ab_M} {K : ab_K} {Rt : ab_V → ab_S → Prop} {pc n : Nat} {L : ab_L} {r : List ab_V} {σ : ab_S} {x : Int} (hM : ab_own M = 11) : ab_ex ab_G1 M K Rt pc n L (.inl x :: .inr (.inr (.inl 12)) :: r) σ (.putfield 353) = (n = 3 ∧ K (pc + 3) L r (ab_up σ 12 12 x)) := by
  rw [ex_putfield]
  simp [hM, pt1_11_353_12, ab_op_s]
theorem dp1_9_52_3 {M : ab_M} {K : ab_K} {Rt : ab_V → ab_S → Prop} {pc n : Nat} {L : ab_L} {r : List ab_V} {σ : ab_S} {x : Int} (hM : ab_own M = 9) : ab_ex ab_G1 M K Rt pc n L (.inl x :: .inr (.inr (.inl 3)) :: r) σ (.putfield 52) = (n = 3 ∧ K (pc + 3) L r (ab_up σ 3 13 x)) := by
  rw [ex_putfield]
  simp [hM, pt1_9_52_3, ab_op_s]
theorem dp1_9_52_12 {M : ab_M} {K : ab_K} {Rt : ab_V → ab_S → Prop} {pc n : Nat} {L : ab_L} {r : List ab_V} {σ : ab_S} {x : Int} (hM : ab_own M = 9) : ab_ex ab_G1 M K Rt pc n L (.inl x :: .inr (.inr (.inl 12)) :: r) σ (.putfield 52) = (n = 3 ∧ K (pc + 3) L r (ab_up σ 12 13 x)) := by
  rw [ex_putfield]
  simp [hM, pt1_9_52_12, ab_op_s]
theorem dp1_5_86_3 {M : ab_M} {K : ab_K} {Rt : ab_V → ab_S → Prop} {pc n : Nat} {L : ab_L} {r : List ab_V} {σ : ab_S} {x : Int} (hM : ab_own M = 5) : ab_ex ab_G1 M K Rt pc n L (.inl x :: .inr (.inr (.inl 3)) :: r) σ (.putfield 86) = (n = 3 ∧ K (pc + 3) L r (ab_up σ 3 13 x)) := by
  rw [ex_putfield]
  simp [hM, pt1_5_86_3, ab_op_s]
theorem dp1_5_86_12 {M : ab_M} {K : ab_K} {Rt : ab_V → ab_S → Prop} {pc n : Nat} {L : ab_L} {r : List ab_V} {σ : ab_S} {x : Int} (hM : ab_own M = 5) : ab_ex ab_G1 M K Rt pc n L (.inl x :: .inr (.inr (.inl 12)) :: r) σ (.putfield 86) = (n = 3 ∧ K (pc + 3) L r (ab_up σ 12 13 x)) := by
  rw [ex_putfield]
  simp [hM, pt1_5_86_12, ab_op_s]
theorem dp1_4_95_3 {M : ab_M} {K : ab_K} {Rt : ab_V → ab_S → Prop} {pc n : Nat} {L : ab_L} {r : List ab_V} {σ : ab_S} {x : Int} (hM : ab_own M = 4) : ab_ex ab_G1 M K Rt pc n L (.inl x :: .inr (.inr (.inl 3)) :: r) σ (.putfield 95) = (n = 3 ∧ K (pc + 3) L r (ab_up σ 3 13 x)) := by
  rw [ex_putfield]
  simp [hM, pt1_4_95_3, ab_op_s]
theorem dp1_4_95_12 {M : ab_M} {K : ab_K} {Rt : ab_V → ab_S → Prop} {pc n : Nat} {L : ab_L} {r : List ab_V} {σ : ab_S} {x : Int} (hM : ab_own M = 4) : ab_ex ab_G1 M K Rt pc n L (.inl x :: .inr (.inr (.inl 12)) :: r) σ (.putfield 95) = (n = 3 ∧ K (pc + 3) L r (ab_up σ 12 13 x)) := by
  rw [ex_putfield]
  simp [hM, pt1_4_95_12, ab_op_s]
theorem dp1_6_156_3 {M : ab_M} {K : ab_K} {Rt : ab_V → ab_S → Prop} {pc n : Nat} {L : ab_L} {r : List ab_V} {σ : ab_S} {x : Int} (hM : ab_own M = 6) : ab_ex ab_G1 M K Rt pc n L (.inl x :: .inr (.inr (.inl 3)) :: r) σ (.putfield 156) = (n = 3 ∧ K (pc + 3) L r (ab_up σ 3 13 x)) := by
  rw [ex_putfield]
  simp [hM, pt1_6_156_3, ab_op_s]
theorem dp1_6_156_12 {M : ab_M} {K : ab_K} {Rt : ab_V → ab_S → Prop} {pc n : Nat} {L : ab_L} {r : List ab_V} {σ : ab_S} {x : Int} (hM : ab_own M = 6) : ab_ex ab_G1 M K Rt pc n L (.inl x :: .inr (.inr (.inl 12)) :: r) σ (.putfield 156) = (n = 3 ∧ K (pc + 3) L r (ab_up σ 12 13 x)) := by
  rw [ex_putfield]
  simp [hM, pt1_6_156_12, ab_op_s]
theorem dp1_11_356_3 {M : ab_M} {K : ab_K} {Rt : ab_V → ab_S → Prop} {pc n : Nat} {L : ab_L} {r : List ab_V} {σ : ab_S} {x : Int} (hM : ab_own M = 11) : ab_ex ab_G1 M K Rt pc n L (.inl x :: .inr (.inr (.inl 3)) :: r) σ (.putfield 356) = (n = 3 ∧ K (pc + 3) L r (ab_up σ 3 13 x)) := by
  rw [ex_putfield]
  simp [hM, pt1_11_356_3, ab_op_s]
theorem dp1_11_356_12 {M : ab_M} {K : ab_K} {Rt : ab_V → ab_S → Prop} {pc n : Nat} {L : ab_L} {r : List ab_V} {σ : ab_S} {x : Int} (hM : ab_own M = 11) : ab_ex ab_G1 M K Rt pc n L (.inl x :: .inr (.inr (.inl 12)) :: r) σ (.putfield 356) = (n = 3 ∧ K (pc + 3) L r (ab_up σ 12 13 x)) := by
  rw [ex_putfield]
  simp [hM, pt1_11_356_12, ab_op_s]
theorem dp1_9_55_3 {M : ab_M} {K : ab_K} {Rt : ab_V → ab_S → Prop} {pc n : Nat} {L : ab_L} {r : List ab_V} {σ : ab_S} {x : Int} (hM : ab_own M = 9) : ab_ex ab_G1 M K Rt pc n L (.inl x :: .inr (.inr (.inl 3)) :: r) σ (.putfield 55) = (n = 3 ∧ K (pc + 3) L r (ab_up σ 3 14 x)) := by
  rw [ex_putfield]
  simp [hM, pt1_9_55_3, ab_op_s]
theorem dp1_9_55_12 {M : ab_M} {K : ab_K} {Rt : ab_V → ab_S → Prop} {pc n : Nat} {L : ab_L} {r : List ab_V} {σ : ab_S} {x : Int} (hM : ab_own M = 9) : ab_ex ab_G1 M K Rt pc n L (.inl x :: .inr (.inr (.inl 12)) :: r) σ (.putfield 55) = (n = 3 ∧ K (pc + 3) L r (ab_up σ 12 14 x)) := by
  rw [ex_putfield]
  simp [hM, pt1_9_55_12, ab_op_s]
theorem dp1_6_50_3 {M : ab_M} {K : ab_K} {Rt : ab_V → ab_S → Prop} {pc n : Nat} {L : ab_L} {r : List ab_V} {σ : ab_S} {x : Int} (hM : ab_own M = 6) : ab_ex ab_G1 M K Rt pc n L (.inl x :: .inr (.inr (.inl 3)) :: r) σ (.putfield 50) = (n = 3 ∧ K (pc + 3) L r (ab_up σ 3 14 x)) := by
  rw [ex_putfield]
  simp [hM, pt1_6_50_3, ab_op_s]
theorem dp1_6_50_12 {M : ab_M} {K : ab_K} {Rt : ab_V → ab_S → Prop} {pc n : Nat} {L : ab_L} {r : List ab_V} {σ : ab_S} {x : Int} (hM : ab_own M = 6) : ab_ex ab_G1 M K Rt pc n L (.inl x :: .inr (.inr (.inl 12)) :: r) σ (.putfield 50) = (n = 3 ∧ K (pc + 3) L r (ab_up σ 12 14 x)) := by
  rw [ex_putfield]
  simp [hM, pt1_6_50_12, ab_op_s]
theorem dp1_2_30_21 {M : ab_M} {K : ab_K} {Rt : ab_V → ab_S → Prop} {pc n : Nat} {L : ab_L} {r : List ab_V} {σ : ab_S} {x : Int} (hM : ab_own M = 2) : ab_ex ab_G1 M K Rt pc n L (.inl x :: .inr (.inr (.inl 21)) :: r) σ (.putfield 30) = (n = 3 ∧ K (pc + 3) L r (ab_up σ 21 6 x)) := by
  rw [ex_putfield]
  simp [hM, pt1_2_30_21, ab_op_s]
theorem dp1_7_42_21 {M : ab_M} {K : ab_K} {Rt : ab_V → ab_S → Prop} {pc n : Nat} {L : ab_L} {r : List ab_V} {σ : ab_S} {x : Int} (hM : ab_own M = 7) : ab_ex ab_G1 M K Rt pc n L (.inl x :: .inr (.inr (.inl 21)) :: r) σ (.putfield 42) = (n = 3 ∧ K (pc + 3) L r (ab_up σ 21 6 x)) := by
  rw [ex_putfield]
  simp [hM, pt1_7_42_21, ab_op_s]
theorem dp1_11_131_21 {M : ab_M} {K : ab_K} {Rt : ab_V → ab_S → Prop} {pc n : Nat} {L : ab_L} {r : List ab_V} {σ : ab_S} {x : Int} (hM : ab_own M = 11) : ab_ex ab_G1 M K Rt pc n L (.inl x :: .inr (.inr (.inl 21)) :: r) σ (.putfield 131) = (n = 3 ∧ K (pc + 3) L r (ab_up σ 21 6 x)) := by
  rw [ex_putfield]
  simp [hM, pt1_11_131_21, ab_op_s]
theorem dp1_1_153_21 {M : ab_M} {K : ab_K} {Rt : ab_V → ab_S → Prop} {pc n : Nat} {L : ab_L} {r : List ab_V} {σ : ab_S} {x : Int} (hM : ab_own M = 1) : ab_ex ab_G1 M K Rt pc n L (.inl x :: .inr (.inr (.inl 21)) :: r) σ (.putfield 153) = (n = 3 ∧ K (pc + 3) L r (ab_up σ 21 6 x)) := by
  rw [ex_putfield]
  simp [hM, pt1_1_153_21, ab_op_s]
theorem dp1_6_203_21 {M : ab_M} {K : ab_K} {Rt : ab_V → ab_S → Prop} {pc n : Nat} {L : ab_L} {r : List ab_V} {σ : ab_S} {x : Int} (hM : ab_own M = 6) : ab_ex ab_G1 M K Rt pc n L (.inl x :: .inr (.inr (.inl 21)) :: r) σ (.putfield 203) = (n = 3 ∧ K (pc + 3) L r (ab_up σ 21 6 x)) := by
  rw [ex_putfield]
  simp [hM, pt1_6_203_21, ab_op_s]
theorem dp1_7_28_28 {M : ab_M} {K : ab_K} {Rt : ab_V → ab_S → Prop} {pc n : Nat} {L : ab_L} {r : List ab_V} {σ : ab_S} {x : Int} (hM : ab_own M = 7) : ab_ex ab_G1 M K Rt pc n L (.inl x :: .inr (.inr (.inl 28)) :: r) σ (.putfield 28) = (n = 3 ∧ K (pc + 3) L r (ab_up σ 28 6 x)) := by
  rw [ex_putfield]
  simp [hM, pt1_7_28_28, ab_op_s]
theorem dp1_7_32_28 {M : ab_M} {K : ab_K} {Rt : ab_V → ab_S → Prop} {pc n : Nat} {L : ab_L} {r : List ab_V} {σ : ab_S} {x : Int} (hM : ab_own M = 7) : ab_ex ab_G1 M K Rt pc n L (.inl x :: .inr (.inr (.inl 28)) :: r) σ (.putfield 32) = (n = 3 ∧ K (pc + 3) L r (ab_up σ 28 7 x)) := by
  rw [ex_putfield]
  simp [hM, pt1_7_32_28, ab_op_s]
theorem dp1_3_104_28 {M : ab_M} {K : ab_K} {Rt : ab_V → ab_S → Prop} {pc n : Nat} {L : ab_L} {r : List ab_V} {σ : ab_S} {x : Int} (hM : ab_own M = 3) : ab_ex ab_G1 M K Rt pc n L (.inl x :: .inr (.inr (.inl 28)) :: r) σ (.putfield 104) = (n = 3 ∧ K (pc + 3) L r (ab_up σ 28 7 x)) := by
  rw [ex_putfield]
  simp [hM, pt1_3_104_28, ab_op_s]
theorem dp1_7_35_28 {M : ab_M} {K : ab_K} {Rt : ab_V → ab_S → Prop} {pc n : Nat} {L : ab_L} {r : List ab_V} {σ : ab_S} {x : Int} (hM : ab_own M = 7) : ab_ex ab_G1 M K Rt pc n L (.inl x :: .inr (.inr (.inl 28)) :: r) σ (.putfield 35) = (n = 3 ∧ K (pc + 3) L r (ab_up σ 28 8 x)) := by
  rw [ex_putfield]
  simp [hM, pt1_7_35_28, ab_op_s]
theorem dp1_3_60_28 {M : ab_M} {K : ab_K} {Rt : ab_V → ab_S → Prop} {pc n : Nat} {L : ab_L} {r : List ab_V} {σ : ab_S} {x : Int} (hM : ab_own M = 3) : ab_ex ab_G1 M K Rt pc n L (.inl x :: .inr (.inr (.inl 28)) :: r) σ (.putfield 60) = (n = 3 ∧ K (pc + 3) L r (ab_up σ 28 8 x)) := by
  rw [ex_putfield]
  simp [hM, pt1_3_60_28, ab_op_s]
theorem dp1_5_76_28 {M : ab_M} {K : ab_K} {Rt : ab_V → ab_S → Prop} {pc n : Nat} {L : ab_L} {r : List ab_V} {σ : ab_S} {x : Int} (hM : ab_own M = 5) : ab_ex ab_G1 M K Rt pc n L (.inl x :: .inr (.inr (.inl 28)) :: r) σ (.putfield 76) = (n = 3 ∧ K (pc + 3) L r (ab_up σ 28 8 x)) := by
  rw [ex_putfield]
  simp [hM, pt1_5_76_28, ab_op_s]
theorem dp1_4_82_28 {M : ab_M} {K : ab_K} {Rt : ab_V → ab_S → Prop} {pc n : Nat} {L : ab_L} {r : List ab_V} {σ : ab_S} {x : Int} (hM : ab_own M = 4) : ab_ex ab_G1 M K Rt pc n L (.inl x :: .inr (.inr (.inl 28)) :: r) σ (.putfield 82) = (n = 3 ∧ K (pc + 3) L r (ab_up σ 28 8 x)) := by
  rw [ex_putfield]
  simp [hM, pt1_4_82_28, ab_op_s]
theorem dp1_11_205_28 {M : ab_M} {K : ab_K} {Rt : ab_V → ab_S → Prop} {pc n : Nat} {L : ab_L} {r : List ab_V} {σ : ab_S} {x : Int} (hM : ab_own M = 11) : ab_ex ab_G1 M K Rt pc n L (.inl x :: .inr (.inr (.inl 28)) :: r) σ (.putfield 205) = (n = 3 ∧ K (pc + 3) L r (ab_up σ 28 8 x)) := by
  rw [ex_putfield]
  simp [hM, pt1_11_205_28, ab_op_s]
theorem dp1_0_27_34 {M : ab_M} {K : ab_K} {Rt : ab_V → ab_S → Prop} {pc n : Nat} {L : ab_L} {r : List ab_V} {σ : ab_S} {x : Int} (hM : ab_own M = 0) : ab_ex ab_G1 M K Rt pc n L (.inl x :: .inr (.inr (.inl 34)) :: r) σ (.putfield 27) = (n = 3 ∧ K (pc + 3) L r (ab_up σ 34 5 x)) := by
  rw [ex_putfield]
  simp [hM, pt1_0_27_34, ab_op_s]
theorem dp1_0_27_41 {M : ab_M} {K : ab_K} {Rt : ab_V → ab_S → Prop} {pc n : Nat} {L : ab_L} {r : List ab_V} {σ : ab_S} {x : Int} (hM : ab_own M = 0) : ab_ex ab_G1 M K Rt pc n L (.inl x :: .inr (.inr (.inl 41)) :: r) σ (.putfield 27) = (n = 3 ∧ K (pc + 3) L r (ab_up σ 41 5 x)) := by
  rw [ex_putfield]
  simp [hM, pt1_0_27_41, ab_op_s]
theorem dp1_0_27_47 {M : ab_M} {K : ab_K} {Rt : ab_V → ab_S → Prop} {pc n : Nat} {L : ab_L} {r : List ab_V} {σ : ab_S} {x : Int} (hM : ab_own M = 0) : ab_ex ab_G1 M K Rt pc n L (.inl x :: .inr (.inr (.inl 47)) :: r) σ (.putfield 27) = (n = 3 ∧ K (pc + 3) L r (ab_up σ 47 5 x)) := by
  rw [ex_putfield]
  simp [hM, pt1_0_27_47, ab_op_s]
theorem dp1_0_27_53 {M : ab_M} {K : ab_K} {Rt : ab_V → ab_S → Prop} {pc n : Nat} {L : ab_L} {r : List ab_V} {σ : ab_S} {x : Int} (hM : ab_own M = 0) : ab_ex ab_G1 M K Rt pc n L (.inl x :: .inr (.inr (.inl 53)) :: r) σ (.putfield 27) = (n = 3 ∧ K (pc + 3) L r (ab_up σ 53 5 x)) := by
  rw [ex_putfield]
  simp [hM, pt1_0_27_53, ab_op_s]
theorem dp1_0_27_59 {M : ab_M} {K : ab_K} {Rt : ab_V → ab_S → Prop} {pc n : Nat} {L : ab_L} {r : List ab_V} {σ : ab_S} {x : Int} (hM : ab_own M = 0) : ab_ex ab_G1 M K Rt pc n L (.inl x :: .inr (.inr (.inl 59)) :: r) σ (.putfield 27) = (n = 3 ∧ K (pc + 3) L r (ab_up σ 59 5 x)) := by
  rw [ex_putfield]
  simp [hM, pt1_0_27_59, ab_op_s]
theorem dp1_3_27_34 {M : ab_M} {K : ab_K} {Rt : ab_V → ab_S → Prop} {pc n : Nat} {L : ab_L} {r : List ab_V} {σ : ab_S} {x : Int} (hM : ab_own M = 3) : ab_ex ab_G1 M K Rt pc n L (.inl x :: .inr (.inr (.inl 34)) :: r) σ (.putfield 27) = (n = 3 ∧ K (pc + 3) L r (ab_up σ 34 5 x)) := by
  rw [ex_putfield]
  simp [hM, pt1_3_27_34, ab_op_s]
theorem dp1_3_27_41 {M : ab_M} {K : ab_K} {Rt : ab_V → ab_S → Prop} {pc n : Nat} {L : ab_L} {r : List ab_V} {σ : ab_S} {x : Int} (hM : ab_own M = 3) : ab_ex ab_G1 M K Rt pc n L (.inl x :: .inr (.inr (.inl 41)) :: r) σ (.putfield 27) = (n = 3 ∧ K (pc + 3) L r (ab_up σ 41 5 x)) := by
  rw [ex_putfield]
  simp [hM, pt1_3_27_41, ab_op_s]
theorem dp1_3_27_47 {M : ab_M} {K : ab_K} {Rt : ab_V → ab_S → Prop} {pc n : Nat} {L : ab_L} {r : List ab_V} {σ : ab_S} {x : Int} (hM : ab_own M = 3) : ab_ex ab_G1 M K Rt pc n L (.inl x :: .inr (.inr (.inl 47)) :: r) σ (.putfield 27) = (n = 3 ∧ K (pc + 3) L r (ab_up σ 47 5 x)) := by
  rw [ex_putfield]
  simp [hM, pt1_3_27_47, ab_op_s]
theorem dp1_3_27_53 {M : ab_M} {K : ab_K} {Rt : ab_V → ab_S → Prop} {pc n : Nat} {L : ab_L} {r : List ab_V} {σ : ab_S} {x : Int} (hM : ab_own M = 3) : ab_ex ab_G1 M K Rt pc n L (.inl x :: .inr (.inr (.inl 53)) :: r) σ (.putfield 27) = (n = 3 ∧ K (pc + 3) L r (ab_up σ 53 5 x)) := by
  rw [ex_putfield]
  simp [hM, pt1_3_27_53, ab_op_s]
theorem dp1_3_27_59 {M : ab_M} {K : ab_K} {Rt : ab_V → ab_S → Prop} {pc n : Nat} {L : ab_L} {r : List ab_V} {σ : ab_S} {x : Int} (hM : ab_own M = 3) : ab_ex ab_G1 M K Rt pc n L (.inl x :: .inr (.inr (.inl 59)) :: r) σ (.putfield 27) = (n = 3 ∧ K (pc + 3) L r (ab_up σ 59 5 x)) := by
  rw [ex_putfield]
  simp [hM, pt1_3_27_59, ab_op_s]
theorem dp1_10_64_34 {M : ab_M} {K : ab_K} {Rt : ab_V → ab_S → Prop} {pc n : Nat} {L : ab_L} {r : List ab_V} {σ : ab_S} {x : Int} (hM : ab_own M = 10) : ab_ex ab_G1 M K Rt pc n L (.inl x :: .inr (.inr (.inl 34)) :: r) σ (.putfield 64) = (n = 3 ∧ K (pc + 3) L r (ab_up σ 34 5 x)) := by
  rw [ex_putfield]
  simp [hM, pt1_10_64_34, ab_op_s]
theorem dp1_10_64_41 {M : ab_M} {K : ab_K} {Rt : ab_V → ab_S → Prop} {pc n : Nat} {L : ab_L} {r : List ab_V} {σ : ab_S} {x : Int} (hM : ab_own M = 10) : ab_ex ab_G1 M K Rt pc n L (.inl x :: .inr (.inr (.inl 41)) :: r) σ (.putfield 64) = (n = 3 ∧ K (pc + 3) L r (ab_up σ 41 5 x)) := by
  rw [ex_putfield]
  simp [hM, pt1_10_64_41, ab_op_s]
theorem dp1_10_64_47 {M : ab_M} {K : ab_K} {Rt : ab_V → ab_S → Prop} {pc n : Nat} {L : ab_L} {r : List ab_V} {σ : ab_S} {x : Int} (hM : ab_own M = 10) : ab_ex ab_G1 M K Rt pc n L (.inl x :: .inr (.inr (.inl 47)) :: r) σ (.putfield 64) = (n = 3 ∧ K (pc + 3) L r (ab_up σ 47 5 x)) := by
  rw [ex_putfield]
  simp [hM, pt1_10_64_47, ab_op_s]
theorem dp1_10_64_53 {M : ab_M} {K : ab_K} {Rt : ab_V → ab_S → Prop} {pc n : Nat} {L : ab_L} {r : List ab_V} {σ : ab_S} {x : Int} (hM : ab_own M = 10) : ab_ex ab_G1 M K Rt pc n L (.inl x :: .inr (.inr (.inl 53)) :: r) σ (.putfield 64) = (n = 3 ∧ K (pc + 3) L r (ab_up σ 53 5 x)) := by
  rw [ex_putfield]
  simp [hM, pt1_10_64_53, ab_op_s]
theorem dp1_10_64_59 {M : ab_M} {K : ab_K} {Rt : ab_V → ab_S → Prop} {pc n : Nat} {L : ab_L} {r : List ab_V} {σ : ab_S} {x : Int} (hM : ab_own M = 10) : ab_ex ab_G1 M K Rt pc n L (.inl x :: .inr (.inr (.inl 59)) :: r) σ (.putfield 64) = (n = 3 ∧ K (pc + 3) L r (ab_up σ 59 5 x)) := by
  rw [ex_putfield]
  simp [hM, pt1_10_64_59, ab_op_s]
theorem dp1_11_186_34 {M : ab_M} {K : ab_K} {Rt : ab_V → ab_S → Prop} {pc n : Nat} {L : ab_L} {r : List ab_V} {σ : ab_S} {x : Int} (hM : ab_own M = 11) : ab_ex ab_G1 M K Rt pc n L (.inl x :: .inr (.inr (.inl 34)) :: r) σ (.putfield 186) = (n = 3 ∧ K (pc + 3) L r (ab_up σ 34 5 x)) := by
  rw [ex_putfield]
  simp [hM, pt1_11_186_34, ab_op_s]
theorem dp1_11_186_41 {M : ab_M} {K : ab_K} {Rt : ab_V → ab_S → Prop} {pc n : Nat} {L : ab_L} {r : List ab_V} {σ : ab_S} {x : Int} (hM : ab_own M = 11) : ab_ex ab_G1 M K Rt pc n L (.inl x :: .inr (.inr (.inl 41)) :: r) σ (.putfield 186) = (n = 3 ∧ K (pc + 3) L r (ab_up σ 41 5 x)) := by
  rw [ex_putfield]
  simp [hM, pt1_11_186_41, ab_op_s]
theorem dp1_11_186_47 {M : ab_M} {K : ab_K} {Rt : ab_V → ab_S → Prop} {pc n : Nat} {L : ab_L} {r : List ab_V} {σ : ab_S} {x : Int} (hM : ab_own M = 11) : ab_ex ab_G1 M K Rt pc n L (.inl x :: .inr (.inr (.inl 47)) :: r) σ (.putfield 186) = (n = 3 ∧ K (pc + 3) L r (ab_up σ 47 5 x)) := by
  rw [ex_putfield]
  simp [hM, pt1_11_186_47, ab_op_s]
theorem dp1_11_186_53 {M : ab_M} {K : ab_K} {Rt : ab_V → ab_S → Prop} {pc n : Nat} {L : ab_L} {r : List ab_V} {σ : ab_S} {x : Int} (hM : ab_own M = 11) : ab_ex ab_G1 M K Rt pc n L (.inl x :: .inr (.inr (.inl 53)) :: r) σ (.putfield 186) = (n = 3 ∧ K (pc + 3) L r (ab_up σ 53 5 x)) := by
  rw [ex_putfield]
  simp [hM, pt1_11_186_53, ab_op_s]
theorem dp1_11_186_59 {M : ab_M} {K : ab_K} {Rt : ab_V → ab_S → Prop} {pc n : Nat} {L : ab_L} {r : List ab_V} {σ : ab_S} {x : Int} (hM : ab_own M = 11) : ab_ex ab_G1 M K Rt pc n L (.inl x :: .inr (.inr (.inl 59)) :: r) σ (.putfield 186) = (n = 3 ∧ K (pc + 3) L r (ab_up σ 59 5 x)) := by
  rw [ex_putfield]
  simp [hM, pt1_11_186_59, ab_op_s]
theorem dp1_0_31_34 {M : ab_M} {K : ab_K} {Rt : ab_V → ab_S → Prop} {pc n : Nat} {L : ab_L} {r : List ab_V} {σ : ab_S} {x : Int} (hM : ab_own M = 0) : ab_ex ab_G1 M K Rt pc n L (.inl x :: .inr (.inr (.inl 34)) :: r) σ (.putfield 31) = (n = 3 ∧ K (pc + 3) L r (ab_up σ 34 6 x)) := by
  rw [ex_putfield]
  simp [hM, pt1_0_31_34, ab_op_s]
theorem dp1_0_31_41 {M : ab_M} {K : ab_K} {Rt : ab_V → ab_S → Prop} {pc n : Nat} {L : ab_L} {r : List ab_V} {σ : ab_S} {x : Int} (hM : ab_own M = 0) : ab_ex ab_G1 M K Rt pc n L (.inl x :: .inr (.inr (.inl 41)) :: r) σ (.putfield 31) = (n = 3 ∧ K (pc + 3) L r (ab_up σ 41 6 x)) := by
  rw [ex_putfield]
  simp [hM, pt1_0_31_41, ab_op_s]
theorem dp1_0_31_47 {M : ab_M} {K : ab_K} {Rt : ab_V → ab_S → Prop} {pc n : Nat} {L : ab_L} {r : List ab_V} {σ : ab_S} {x : Int} (hM : ab_own M = 0) : ab_ex ab_G1 M K Rt pc n L (.inl x :: .inr (.inr (.inl 47)) :: r) σ (.putfield 31) = (n = 3 ∧ K (pc + 3) L r (ab_up σ 47 6 x)) := by
  rw [ex_putfield]
  simp [hM, pt1_0_31_47, ab_op_s]
theorem dp1_0_31_53 {M : ab_M} {K : ab_K} {Rt : ab_V → ab_S → Prop} {pc n : Nat} {L : ab_L} {r : List ab_V} {σ : ab_S} {x : Int} (hM : ab_own M = 0) : ab_ex ab_G1 M K Rt pc n L (.inl x :: .inr (.inr (.inl 53)) :: r) σ (.putfield 31) = (n = 3 ∧ K (pc + 3) L r (ab_up σ 53 6 x)) := by
  rw [ex_putfield]
  simp [hM, pt1_0_31_53, ab_op_s]
theorem dp1_0_31_59 {M : ab_M} {K : ab_K} {Rt : ab_V → ab_S → Prop} {pc n : Nat} {L : ab_L} {r : List ab_V} {σ : ab_S} {x : Int} (hM : ab_own M = 0) : ab_ex ab_G1 M K Rt pc n L (.inl x :: .inr (.inr (.inl 59)) :: r) σ (.putfield 31) = (n = 3 ∧ K (pc + 3) L r (ab_up σ 59 6 x)) := by
  rw [ex_putfield]
  simp [hM, pt1_0_31_59, ab_op_s]
theorem dp1_11_179_34 {M : ab_M} {K : ab_K} {Rt : ab_V → ab_S → Prop} {pc n : Nat} {L : ab_L} {r : List ab_V} {σ : ab_S} {x : Int} (hM : ab_own M = 11) : ab_ex ab_G1 M K Rt pc n L (.inl x :: .inr (.inr (.inl 34)) :: r) σ (.putfield 179) = (n = 3 ∧ K (pc + 3) L r (ab_up σ 34 6 x)) := by
  rw [ex_putfield]
  simp [hM, pt1_11_179_34, ab_op_s]
theorem dp1_11_179_41 {M : ab_M} {K : ab_K} {Rt : ab_V → ab_S → Prop} {pc n : Nat} {L : ab_L} {r : List ab_V} {σ : ab_S} {x : Int} (hM : ab_own M = 11) : ab_ex ab_G1 M K Rt pc n L (.inl x :: .inr (.inr (.inl 41)) :: r) σ (.putfield 179) = (n = 3 ∧ K (pc + 3) L r (ab_up σ 41 6 x)) := by
  rw [ex_putfield]
  simp [hM, pt1_11_179_41, ab_op_s]
theorem dp1_11_179_47 {M : ab_M} {K : ab_K} {Rt : ab_V → ab_S → Prop} {pc n : Nat} {L : ab_L} {r : List ab_V} {σ : ab_S} {x : Int} (hM : ab_own M = 11) : ab_ex ab_G1 M K Rt pc n L (.inl x :: .inr (.inr (.inl 47)) :: r) σ (.putfield 179) = (n = 3 ∧ K (pc + 3) L r (ab_up σ 47 6 x)) := by
  rw [ex_putfield]
  simp [hM, pt1_11_179_47, ab_op_s]
theorem dp1_11_179_53 {M : ab_M} {K : ab_K} {Rt : ab_V → ab_S → Prop} {pc n : Nat} {L : ab_L} {r : List ab_V} {σ : ab_S} {x : Int} (hM : ab_own M = 11) : ab_ex ab_G1 M K Rt pc n L (.inl x :: .inr (.inr (.inl 53)) :: r) σ (.putfield 179) = (n = 3 ∧ K (pc + 3) L r (ab_up σ 53 6 x)) := by
  rw [ex_putfield]
  simp [hM, pt1_11_179_53, ab_op_s]
theorem dp1_11_179_59 {M : ab_M} {K : ab_K} {Rt : ab_V → ab_S → Prop} {pc n : Nat} {L : ab_L} {r : List ab_V} {σ : ab_S} {x : Int} (hM : ab_own M = 11) : ab_ex ab_G1 M K Rt pc n L (.inl x :: .inr (.inr (.inl 59)) :: r) σ (.putfield 179) = (n = 3 ∧ K (pc + 3) L r (ab_up σ 59 6 x)) := by
  rw [ex_putfield]
  simp [hM, pt1_11_179_59, ab_op_s]
theorem dp1_1_174_34 {M : ab_M} {K : ab_K} {Rt : ab_V → ab_S → Prop} {pc n : Nat} {L : ab_L} {r : List ab_V} {σ : ab_S} {x : Int} (hM : ab_own M = 1) : ab_ex ab_G1 M K Rt pc n L (.inl x :: .inr (.inr (.inl 34)) :: r) σ (.putfield 174) = (n = 3 ∧ K (pc + 3) L r (ab_up σ 34 6 x)) := by
  rw [ex_putfield]
  simp [hM, pt1_1_174_34, ab_op_s]
theorem dp1_1_174_41 {M : ab_M} {K : ab_K} {Rt : ab_V → ab_S → Prop} {pc n : Nat} {L : ab_L} {r : List ab_V} {σ : ab_S} {x : Int} (hM : ab_own M = 1) : ab_ex ab_G1 M K Rt pc n L (.inl x :: .inr (.inr (.inl 41)) :: r) σ (.putfield 174) = (n = 3 ∧ K (pc + 3) L r (ab_up σ 41 6 x)) := by
  rw [ex_putfield]
  simp [hM, pt1_1_174_41, ab_op_s]
theorem dp1_1_174_47 {M : ab_M} {K : ab_K} {Rt : ab_V → ab_S → Prop} {pc n : Nat} {L : ab_L} {r : List ab_V} {σ : ab_S} {x : Int} (hM : ab_own M = 1) : ab_ex ab_G1 M K Rt pc n L (.inl x :: .inr (.inr (.inl 47)) :: r) σ (.putfield 174) = (n = 3 ∧ K (pc + 3) L r (ab_up σ 47 6 x)) := by
  rw [ex_putfield]
  simp [hM, pt1_1_174_47, ab_op_s]
theorem dp1_1_174_53 {M : ab_M} {K : ab_K} {Rt : ab_V → ab_S → Prop} {pc n : Nat} {L : ab_L} {r : List ab_V} {σ : ab_S} {x : Int} (hM : ab_own M = 1) : ab_ex ab_G1 M K Rt pc n L (.inl x :: .inr (.inr (.inl 53)) :: r) σ (.putfield 174) = (n = 3 ∧ K (pc + 3) L r (ab_up σ 53 6 x)) := by
  rw [ex_putfield]
  simp [hM, pt1_1_174_53, ab_op_s]
theorem dp1_1_174_59 {M : ab_M} {K : ab_K} {Rt : ab_V → ab_S → Prop} {pc n : Nat} {L : ab_L} {r : List ab_V} {σ : ab_S} {x : Int} (hM : ab_own M = 1) : ab_ex ab_G1 M K Rt pc n L (.inl x :: .inr (.inr (.inl 59)) :: r) σ (.putfield 174) = (n = 3 ∧ K (pc + 3) L r (ab_up σ 59 6 x)) := by
  rw [ex_putfield]
  simp [hM, pt1_1_174_59, ab_op_s]
theorem dp1_8_27_65 {M : ab_M} {K : ab_K} {Rt : ab_V → ab_S → Prop} {pc n : Nat} {L : ab_L} {r : List ab_V} {σ : ab_S} {x : Int} (hM : ab_own M = 8) : ab_ex ab_G1 M K Rt pc n L (.inl x :: .inr (.inr (.inl 65)) :: r) σ (.putfield 27) = (n = 3 ∧ K (pc + 3) L r (ab_up σ 65 7 x)) := by
  rw [ex_putfield]
  simp [hM, pt1_8_27_65, ab_op_s]
theorem dp1_8_27_76 {M : ab_M} {K : ab_K} {Rt : ab_V → ab_S → Prop} {pc n : Nat} {L : ab_L} {r : List ab_V} {σ : ab_S} {x : Int} (hM : ab_own M = 8) : ab_ex ab_G1 M K Rt pc n L (.inl x :: .inr (.inr (.inl 76)) :: r) σ (.putfield 27) = (n = 3 ∧ K (pc + 3) L r (ab_up σ 76 7 x)) := by
  rw [ex_putfield]
  simp [hM, pt1_8_27_76, ab_op_s]
theorem dp1_3_33_65 {M : ab_M} {K : ab_K} {Rt : ab_V → ab_S → Prop} {pc n : Nat} {L : ab_L} {r : List ab_V} {σ : ab_S} {x : Int} (hM : ab_own M = 3) : ab_ex ab_G1 M K Rt pc n L (.inl x :: .inr (.inr (.inl 65)) :: r) σ (.putfield 33) = (n = 3 ∧ K (pc + 3) L r (ab_up σ 65 7 x)) := by
  rw [ex_putfield]
  simp [hM, pt1_3_33_65, ab_op_s]
theorem dp1_10_53_76 {M : ab_M} {K : ab_K} {Rt : ab_V → ab_S → Prop} {pc n : Nat} {L : ab_L} {r : List ab_V} {σ : ab_S} {x : Int} (hM : ab_own M = 10) : ab_ex ab_G1 M K Rt pc n L (.inl x :: .inr (.inr (.inl 76)) :: r) σ (.putfield 53) = (n = 3 ∧ K (pc + 3) L r (ab_up σ 76 7 x)) := by
  rw [ex_putfield]
  simp [hM, pt1_10_53_76, ab_op_s]
theorem dp1_4_140_65 {M : ab_M} {K : ab_K} {Rt : ab_V → ab_S → Prop} {pc n : Nat} {L : ab_L} {r : List ab_V} {σ : ab_S} {x : Int} (hM : ab_own M = 4) : ab_ex ab_G1 M K Rt pc n L (.inl x :: .inr (.inr (.inl 65)) :: r) σ (.putfield 140) = (n = 3 ∧ K (pc + 3) L r (ab_up σ 65 7 x)) := by
  rw [ex_putfield]
  simp [hM, pt1_4_140_65, ab_op_s]
theorem dp1_8_31_65 {M : ab_M} {K : ab_K} {Rt : ab_V → ab_S → Prop} {pc n : Nat} {L : ab_L} {r : List ab_V} {σ : ab_S} {x : Int} (hM : ab_own M = 8) : ab_ex ab_G1 M K Rt pc n L (.inl x :: .inr (.inr (.inl 65)) :: r) σ (.putfield 31) = (n = 3 ∧ K (pc + 3) L r (ab_up σ 65 8 x)) := by
  rw [ex_putfield]
  simp [hM, pt1_8_31_65, ab_op_s]
theorem dp1_8_31_76 {M : ab_M} {K : ab_K} {Rt : ab_V → ab_S → Prop} {pc n : Nat} {L : ab_L} {r : List ab_V} {σ : ab_S} {x : Int} (hM : ab_own M = 8) : ab_ex ab_G1 M K Rt pc n L (.inl x :: .inr (.inr (.inl 76)) :: r) σ (.putfield 31) = (n = 3 ∧ K (pc + 3) L r (ab_up σ 76 8 x)) := by
  rw [ex_putfield]
  simp [hM, pt1_8_31_76, ab_op_s]
theorem dp1_3_43_65 {M : ab_M} {K : ab_K} {Rt : ab_V → ab_S → Prop} {pc n : Nat} {L : ab_L} {r : List ab_V} {σ : ab_S} {x : Int} (hM : ab_own M = 3) : ab_ex ab_G1 M K Rt pc n L (.inl x :: .inr (.inr (.inl 65)) :: r) σ (.putfield 43) = (n = 3 ∧ K (pc + 3) L r (ab_up σ 65 8 x)) := by
  rw [ex_putfield]
  simp [hM, pt1_3_43_65, ab_op_s]
theorem dp1_10_9_76 {M : ab_M} {K : ab_K} {Rt : ab_V → ab_S → Prop} {pc n : Nat} {L : ab_L} {r : List ab_V} {σ : ab_S} {x : Int} (hM : ab_own M = 10) : ab_ex ab_G1 M K Rt pc n L (.inr (.inl x) :: .inr (.inr (.inl 76)) :: r) σ (.putfield 9) = (n = 3 ∧ K (pc + 3) L r (ab_up σ 76 9 x)) := by
  rw [ex_putfield]
  simp [hM, pt1_10_9_76, ab_op_s]
theorem dp1_10_15_76 {M : ab_M} {K : ab_K} {Rt : ab_V → ab_S → Prop} {pc n : Nat} {L : ab_L} {r : List ab_V} {σ : ab_S} {x : Int} (hM : ab_own M = 10) : ab_ex ab_G1 M K Rt pc n L (.inl x :: .inr (.inr (.inl 76)) :: r) σ (.putfield 15) = (n = 3 ∧ (x = 0 ∨ x = 1) ∧ K (pc + 3) L r (ab_up σ 76 10 x)) := by
  rw [ex_putfield]
  simp [hM, pt1_10_15_76, ab_op_s]
theorem dp1_10_21_76 {M : ab_M} {K : ab_K} {Rt : ab_V → ab_S → Prop} {pc n : Nat} {L : ab_L} {r : List ab_V} {σ : ab_S} {x : Int} (hM : ab_own M = 10) : ab_ex ab_G1 M K Rt pc n L (.inr (.inl x) :: .inr (.inr (.inl 76)) :: r) σ (.putfield 21) = (n = 3 ∧ K (pc + 3) L r (ab_up σ 76 11 x)) := by
  rw [ex_putfield]
  simp [hM, pt1_10_21_76, ab_op_s]
theorem dp1_11_315_76 {M : ab_M} {K : ab_K} {Rt : ab_V → ab_S → Prop} {pc n : Nat} {L : ab_L} {r : List ab_V} {σ : ab_S} {x : Int} (hM : ab_own M = 11) : ab_ex ab_G1 M K Rt pc n L (.inr (.inl x) :: .inr (.inr (.inl 76)) :: r) σ (.putfield 315) = (n = 3 ∧ K (pc + 3) L r (ab_up σ 76 11 x)) := by
  rw [ex_putfield]
  simp [hM, pt1_11_315_76, ab_op_s]
theorem dp1_10_24_76 {M : ab_M} {K : ab_K} {Rt : ab_V → ab_S → Prop} {pc n : Nat} {L : ab_L} {r : List ab_V} {σ : ab_S} {x : Int} (hM : ab_own M = 10) : ab_ex ab_G1 M K Rt pc n L (.inl x :: .inr (.inr (.inl 76)) :: r) σ (.putfield 24) = (n = 3 ∧ K (pc + 3) L r (ab_up σ 76 12 x)) := by
  rw [ex_putfield]
  simp [hM, pt1_10_24_76, ab_op_s]
theorem dp1_11_318_76 {M : ab_M} {K : ab_K} {Rt : ab_V → ab_S → Prop} {pc n : Nat} {L : ab_L} {r : List ab_V} {σ : ab_S} {x : Int} (hM : ab_own M = 11) : ab_ex ab_G1 M K Rt pc n L (.inl x :: .inr (.inr (.inl 76)) :: r) σ (.putfield 318) = (n = 3 ∧ K (pc + 3) L r (ab_up σ 76 12 x)) := by
  rw [ex_putfield]
  simp [hM, pt1_11_318_76, ab_op_s]
theorem dp1_10_28_76 {M : ab_M} {K : ab_K} {Rt : ab_V → ab_S → Prop} {pc n : Nat} {L : ab_L} {r : List ab_V} {σ : ab_S} {x : Int} (hM : ab_own M = 10) : ab_ex ab_G1 M K Rt pc n L (.inl x :: .inr (.inr (.inl 76)) :: r) σ (.putfield 28) = (n = 3 ∧ K (pc + 3) L r (ab_up σ 76 13 x)) := by
  rw [ex_putfield]
  simp [hM, pt1_10_28_76, ab_op_s]
theorem dp1_11_321_76 {M : ab_M} {K : ab_K} {Rt : ab_V → ab_S → Prop} {pc n : Nat} {L : ab_L} {r : List ab_V} {σ : ab_S} {x : Int} (hM : ab_own M = 11) : ab_ex ab_G1 M K Rt pc n L (.inl x :: .inr (.inr (.inl 76)) :: r) σ (.putfield 321) = (n = 3 ∧ K (pc + 3) L r (ab_up σ 76 13 x)) := by
  rw [ex_putfield]
  simp [hM, pt1_11_321_76, ab_op_s]
theorem dp1_4_28_82 {M : ab_M} {K : ab_K} {Rt : ab_V → ab_S → Prop} {pc n : Nat} {L : ab_L} {r : List ab_V} {σ : ab_S} {x : Int} (hM : ab_own M = 4) : ab_ex ab_G1 M K Rt pc n L (.inl x :: .inr (.inr (.inl 82)) :: r) σ (.putfield 28) = (n = 3 ∧ K (pc + 3) L r (ab_up σ 82 8 x)) := by
  rw [ex_putfield]
  simp [hM, pt1_4_28_82, ab_op_s]
theorem dp1_4_32_82 {M : ab_M} {K : ab_K} {Rt : ab_V → ab_S → Prop} {pc n : Nat} {L : ab_L} {r : List ab_V} {σ : ab_S} {x : Int} (hM : ab_own M = 4) : ab_ex ab_G1 M K Rt pc n L (.inl x :: .inr (.inr (.inl 82)) :: r) σ (.putfield 32) = (n = 3 ∧ K (pc + 3) L r (ab_up σ 82 9 x)) := by
  rw [ex_putfield]
  simp [hM, pt1_4_32_82, ab_op_s]
theorem dp1_11_232_82 {M : ab_M} {K : ab_K} {Rt : ab_V → ab_S → Prop} {pc n : Nat} {L : ab_L} {r : List ab_V} {σ : ab_S} {x : Int} (hM : ab_own M = 11) : ab_ex ab_G1 M K Rt pc n L (.inl x :: .inr (.inr (.inl 82)) :: r) σ (.putfield 232) = (n = 3 ∧ K (pc + 3) L r (ab_up σ 82 9 x)) := by
  rw [ex_putfield]
  simp [hM, pt1_11_232_82, ab_op_s]
theorem dp1_4_35_82 {M : ab_M} {K : ab_K} {Rt : ab_V → ab_S → Prop} {pc n : Nat} {L : ab_L} {r : List ab_V} {σ : ab_S} {x : Int} (hM : ab_own M = 4) : ab_ex ab_G1 M K Rt pc n L (.inr (.inl x) :: .inr (.inr (.inl 82)) :: r) σ (.putfield 35) = (n = 3 ∧ K (pc + 3) L r (ab_up σ 82 10 x)) := by
  rw [ex_putfield]
  simp [hM, pt1_4_35_82, ab_op_s]
theorem dp1_11_235_82 {M : ab_M} {K : ab_K} {Rt : ab_V → ab_S → Prop} {pc n : Nat} {L : ab_L} {r : List ab_V} {σ : ab_S} {x : Int} (hM : ab_own M = 11) : ab_ex ab_G1 M K Rt pc n L (.inr (.inl x) :: .inr (.inr (.inl 82)) :: r) σ (.putfield 235) = (n = 3 ∧ K (pc + 3) L r (ab_up σ 82 10 x)) := by
  rw [ex_putfield]
  simp [hM, pt1_11_235_82, ab_op_s]
theorem dp1_4_39_82 {M : ab_M} {K : ab_K} {Rt : ab_V → ab_S → Prop} {pc n : Nat} {L : ab_L} {r : List ab_V} {σ : ab_S} {x : Int} (hM : ab_own M = 4) : ab_ex ab_G1 M K Rt pc n L (.inl x :: .inr (.inr (.inl 82)) :: r) σ (.putfield 39) = (n = 3 ∧ (x = 0 ∨ x = 1) ∧ K (pc + 3) L r (ab_up σ 82 11 x)) := by
  rw [ex_putfield]
  simp [hM, pt1_4_39_82, ab_op_s]
theorem dp1_11_239_82 {M : ab_M} {K : ab_K} {Rt : ab_V → ab_S → Prop} {pc n : Nat} {L : ab_L} {r : List ab_V} {σ : ab_S} {x : Int} (hM : ab_own M = 11) : ab_ex ab_G1 M K Rt pc n L (.inl x :: .inr (.inr (.inl 82)) :: r) σ (.putfield 239) = (n = 3 ∧ (x = 0 ∨ x = 1) ∧ K (pc + 3) L r (ab_up σ 82 11 x)) := by
  rw [ex_putfield]
  simp [hM, pt1_11_239_82, ab_op_s]
theorem dp1_4_43_82 {M : ab_M} {K : ab_K} {Rt : ab_V → ab_S → Prop} {pc n : Nat} {L : ab_L} {r : List ab_V} {σ : ab_S} {x : Int} (hM : ab_own M = 4) : ab_ex ab_G1 M K Rt pc n L (.inl x :: .inr (.inr (.inl 82)) :: r) σ (.putfield 43) = (n = 3 ∧ K (pc + 3) L r (ab_up σ 82 12 x)) := by
  rw [ex_putfield]
  simp [hM, pt1_4_43_82, ab_op_s]
theorem dp1_4_46_82 {M : ab_M} {K : ab_K} {Rt : ab_V → ab_S → Prop} {pc n : Nat} {L : ab_L} {r : List ab_V} {σ : ab_S} {x : Int} (hM : ab_own M = 4) : ab_ex ab_G1 M K Rt pc n L (.inl x :: .inr (.inr (.inl 82)) :: r) σ (.putfield 46) = (n = 3 ∧ K (pc + 3) L r (ab_up σ 82 13 x)) := by
  rw [ex_putfield]
  simp [hM, pt1_4_46_82, ab_op_s]
theorem dp1_1_34_88 {M : ab_M} {K : ab_K} {Rt : ab_V → ab_S → Prop} {pc n : Nat} {L : ab_L} {r : List ab_V} {σ : ab_S} {x : Int} (hM : ab_own M = 1) : ab_ex ab_G1 M K Rt pc n L (.inl x :: .inr (.inr (.inl 88)) :: r) σ (.putfield 34) = (n = 3 ∧ K (pc + 3) L r (ab_up σ 88 11 x)) := by
  rw [ex_putfield]
  simp [hM, pt1_1_34_88, ab_op_s]
theorem dp1_1_38_88 {M : ab_M} {K : ab_K} {Rt : ab_V → ab_S → Prop} {pc n : Nat} {L : ab_L} {r : List ab_V} {σ : ab_S} {x : Int} (hM : ab_own M = 1) : ab_ex ab_G1 M K Rt pc n L (.inl x :: .inr (.inr (.inl 88)) :: r) σ (.putfield 38) = (n = 3 ∧ K (pc + 3) L r (ab_up σ 88 12 x)) := by
  rw [ex_putfield]
  simp [hM, pt1_1_38_88, ab_op_s]
theorem dp1_11_267_88 {M : ab_M} {K : ab_K} {Rt : ab_V → ab_S → Prop} {pc n : Nat} {L : ab_L} {r : List ab_V} {σ : ab_S} {x : Int} (hM : ab_own M = 11) : ab_ex ab_G1 M K Rt pc n L (.inl x :: .inr (.inr (.inl 88)) :: r) σ (.putfield 267) = (n = 3 ∧ K (pc + 3) L r (ab_up σ 88 12 x)) := by
  rw [ex_putfield]
  simp [hM, pt1_11_267_88, ab_op_s]
theorem dp1_1_41_88 {M : ab_M} {K : ab_K} {Rt : ab_V → ab_S → Prop} {pc n : Nat} {L : ab_L} {r : List ab_V} {σ : ab_S} {x : Int} (hM : ab_own M = 1) : ab_ex ab_G1 M K Rt pc n L (.inl x :: .inr (.inr (.inl 88)) :: r) σ (.putfield 41) = (n = 3 ∧ K (pc + 3) L r (ab_up σ 88 13 x)) := by
  rw [ex_putfield]
  simp [hM, pt1_1_41_88, ab_op_s]
theorem dp1_1_44_88 {M : ab_M} {K : ab_K} {Rt : ab_V → ab_S → Prop} {pc n : Nat} {L : ab_L} {r : List ab_V} {σ : ab_S} {x : Int} (hM : ab_own M = 1) : ab_ex ab_G1 M K Rt pc n L (.inl x :: .inr (.inr (.inl 88)) :: r) σ (.putfield 44) = (n = 3 ∧ K (pc + 3) L r (ab_up σ 88 14 x)) := by
  rw [ex_putfield]
  simp [hM, pt1_1_44_88, ab_op_s]
theorem dp1_1_47_88 {M : ab_M} {K : ab_K} {Rt : ab_V → ab_S → Prop} {pc n : Nat} {L : ab_L} {r : List ab_V} {σ : ab_S} {x : Int} (hM : ab_own M = 1) : ab_ex ab_G1 M K Rt pc n L (.inl x :: .inr (.inr (.inl 88)) :: r) σ (.putfield 47) = (n = 3 ∧ K (pc + 3) L r (ab_up σ 88 15 x)) := by
  rw [ex_putfield]
  simp [hM, pt1_1_47_88, ab_op_s]
theorem dp1_1_50_88 {M : ab_M} {K : ab_K} {Rt : ab_V → ab_S → Prop} {pc n : Nat} {L : ab_L} {r : List ab_V} {σ : ab_S} {x : Int} (hM : ab_own M = 1) : ab_ex ab_G1 M K Rt pc n L (.inl x :: .inr (.inr (.inl 88)) :: r) σ (.putfield 50) = (n = 3 ∧ K (pc + 3) L r (ab_up σ 88 16 x)) := by
  rw [ex_putfield]
  simp [hM, pt1_1_50_88, ab_op_s]
theorem dp1_5_31_96 {M : ab_M} {K : ab_K} {Rt : ab_V → ab_S → Prop} {pc n : Nat} {L : ab_L} {r : List ab_V} {σ : ab_S} {x : Int} (hM : ab_own M = 5) : ab_ex ab_G1 M K Rt pc n L (.inl x :: .inr (.inr (.inl 96)) :: r) σ (.putfield 31) = (n = 3 ∧ K (pc + 3) L r (ab_up σ 96 9 x)) := by
  rw [ex_putfield]
  simp [hM, pt1_5_31_96, ab_op_s]
theorem dp1_11_298_96 {M : ab_M} {K : ab_K} {Rt : ab_V → ab_S → Prop} {pc n : Nat} {L : ab_L} {r : List ab_V} {σ : ab_S} {x : Int} (hM : ab_own M = 11) : ab_ex ab_G1 M K Rt pc n L (.inl x :: .inr (.inr (.inl 96)) :: r) σ (.putfield 298) = (n = 3 ∧ K (pc + 3) L r (ab_up σ 96 9 x)) := by
  rw [ex_putfield]
  simp [hM, pt1_11_298_96, ab_op_s]
theorem dp1_5_35_96 {M : ab_M} {K : ab_K} {Rt : ab_V → ab_S → Prop} {pc n : Nat} {L : ab_L} {r : List ab_V} {σ : ab_S} {x : Int} (hM : ab_own M = 5) : ab_ex ab_G1 M K Rt pc n L (.inl x :: .inr (.inr (.inl 96)) :: r) σ (.putfield 35) = (n = 3 ∧ K (pc + 3) L r (ab_up σ 96 10 x)) := by
  rw [ex_putfield]
  simp [hM, pt1_5_35_96, ab_op_s]
theorem dp1_5_38_96 {M : ab_M} {K : ab_K} {Rt : ab_V → ab_S → Prop} {pc n : Nat} {L : ab_L} {r : List ab_V} {σ : ab_S} {x : Int} (hM : ab_own M = 5) : ab_ex ab_G1 M K Rt pc n L (.inl x :: .inr (.inr (.inl 96)) :: r) σ (.putfield 38) = (n = 3 ∧ K (pc + 3) L r (ab_up σ 96 11 x)) := by
  rw [ex_putfield]
  simp [hM, pt1_5_38_96, ab_op_s]
theorem dp1_5_41_96 {M : ab_M} {K : ab_K} {Rt : ab_V → ab_S → Prop} {pc n : Nat} {L : ab_L} {r : List ab_V} {σ : ab_S} {x : Int} (hM : ab_own M = 5) : ab_ex ab_G1 M K Rt pc n L (.inl x :: .inr (.inr (.inl 96)) :: r) σ (.putfield 41) = (n = 3 ∧ K (pc + 3) L r (ab_up σ 96 12 x)) := by
  rw [ex_putfield]
  simp [hM, pt1_5_41_96, ab_op_s]
theorem dp1_5_44_96 {M : ab_M} {K : ab_K} {Rt : ab_V → ab_S → Prop} {pc n : Nat} {L : ab_L} {r : List ab_V} {σ : ab_S} {x : Int} (hM : ab_own M = 5) : ab_ex ab_G1 M K Rt pc n L (.inl x :: .inr (.inr (.inl 96)) :: r) σ (.putfield 44) = (n = 3 ∧ K (pc + 3) L r (ab_up σ 96 13 x)) := by
  rw [ex_putfield]
  simp [hM, pt1_5_44_96, ab_op_s]
theorem dp1_5_47_96 {M : ab_M} {K : ab_K} {Rt : ab_V → ab_S → Prop} {pc n : Nat} {L : ab_L} {r : List ab_V} {σ : ab_S} {x : Int} (hM : ab_own M = 5) : ab_ex ab_G1 M K Rt pc n L (.inl x :: .inr (.inr (.inl 96)) :: r) σ (.putfield 47) = (n = 3 ∧ K (pc + 3) L r (ab_up σ 96 14 x)) := by
  rw [ex_putfield]
  simp [hM, pt1_5_47_96, ab_op_s]
theorem dp1_11_94_0 {M : ab_M} {K : ab_K} {Rt : ab_V → ab_S → Prop} {pc n : Nat} {L : ab_L} {r : List ab_V} {σ : ab_S} {x : Int} (hM : ab_own M = 11) : ab_ex ab_G1 M K Rt pc n L (.inl x :: .inr (.inr (.inl 0)) :: r) σ (.putfield 94) = (n = 3 ∧ K (pc + 3) L r (ab_up σ 0 12 x)) := by
  rw [ex_putfield]
  simp [hM, pt1_11_94_0, ab_op_s]
theorem dp1_11_98_0 {M : ab_M} {K : ab_K} {Rt : ab_V → ab_S → Prop} {pc n : Nat} {L : ab_L} {r : List ab_V} {σ : ab_S} {x : Int} (hM : ab_own M = 11) : ab_ex ab_G1 M K Rt pc n L (.inl x :: .inr (.inr (.inl 0)) :: r) σ (.putfield 98) = (n = 3 ∧ K (pc + 3) L r (ab_up σ 0 13 x)) := by
  rw [ex_putfield]
  simp [hM, pt1_11_98_0, ab_op_s]
theorem dp1_11_101_0 {M : ab_M} {K : ab_K} {Rt : ab_V → ab_S → Prop} {pc n : Nat} {L : ab_L} {r : List ab_V} {σ : ab_S} {x : Int} (hM : ab_own M = 11) : ab_ex ab_G1 M K Rt pc n L (.inl x :: .inr (.inr (.inl 0)) :: r) σ (.putfield 101) = (n = 3 ∧ K (pc + 3) L r (ab_up σ 0 14 x)) := by
  rw [ex_putfield]
  simp [hM, pt1_11_101_0, ab_op_s]
theorem dp1_11_104_0 {M : ab_M} {K : ab_K} {Rt : ab_V → ab_S → Prop} {pc n : Nat} {L : ab_L} {r : List ab_V} {σ : ab_S} {x : Int} (hM : ab_own M = 11) : ab_ex ab_G1 M K Rt pc n L (.inl x :: .inr (.inr (.inl 0)) :: r) σ (.putfield 104) = (n = 3 ∧ K (pc + 3) L r (ab_up σ 0 15 x)) := by
  rw [ex_putfield]
  simp [hM, pt1_11_104_0, ab_op_s]
theorem dp2_12_326_0 {M : ab_M} {K : ab_K} {Rt : ab_V → ab_S → Prop} {pc n : Nat} {L : ab_L} {r : List ab_V} {σ : ab_S} {x : Int} (hM : ab_own M = 12) : ab_ex ab_G2 M K Rt pc n L (.inl x :: .inr (.inr (.inl 0)) :: r) σ (.putfield 326) = (n = 3 ∧ K (pc + 3) L r (ab_up σ 0 0 x)) := by
  rw [ex_putfield]
  simp [hM, pt2_12_326_0, ab_op_s]
theorem dp2_12_272_0 {M : ab_M} {K : ab_K} {Rt : ab_V → ab_S → Prop} {pc n : Nat} {L : ab_L} {r : List ab_V} {σ : ab_S} {x : Int} (hM : ab_own M = 12) : ab_ex ab_G2 M K Rt pc n L (.inl x :: .inr (.inr (.inl 0)) :: r) σ (.putfield 272) = (n = 3 ∧ K (pc + 3) L r (ab_up σ 0 1 x)) := by
  rw [ex_putfield]
  simp [hM, pt2_12_272_0, ab_op_s]
theorem dp2_12_320_0 {M : ab_M} {K : ab_K} {Rt : ab_V → ab_S → Prop} {pc n : Nat} {L : ab_L} {r : List ab_V} {σ : ab_S} {x : Int} (hM : ab_own M = 12) : ab_ex ab_G2 M K Rt pc n L (.inl x :: .inr (.inr (.inl 0)) :: r) σ (.putfield 320) = (n = 3 ∧ K (pc + 3) L r (ab_up σ 0 2 x)) := by
  rw [ex_putfield]
  simp [hM, pt2_12_320_0, ab_op_s]
theorem dp2_12_323_0 {M : ab_M} {K : ab_K} {Rt : ab_V → ab_S → Prop} {pc n : Nat} {L : ab_L} {r : List ab_V} {σ : ab_S} {x : Int} (hM : ab_own M = 12) : ab_ex ab_G2 M K Rt pc n L (.inl x :: .inr (.inr (.inl 0)) :: r) σ (.putfield 323) = (n = 3 ∧ K (pc + 3) L r (ab_up σ 0 3 x)) := by
  rw [ex_putfield]
  simp [hM, pt2_12_323_0, ab_op_s]
theorem dp2_12_7_0 {M : ab_M} {K : ab_K} {Rt : ab_V → ab_S → Prop} {pc n : Nat} {L : ab_L} {r : List ab_V} {σ : ab_S} {x : Int} (hM : ab_own M = 12) : ab_ex ab_G2 M K Rt pc n L (.inl x :: .inr (.inr (.inl 0)) :: r) σ (.putfield 7) = (n = 3 ∧ K (pc + 3) L r (ab_up σ 0 4 x)) := by
  rw [ex_putfield]
  simp [hM, pt2_12_7_0, ab_op_s]
theorem dp2_12_13_0 {M : ab_M} {K : ab_K} {Rt : ab_V → ab_S → Prop} {pc n : Nat} {L : ab_L} {r : List ab_V} {σ : ab_S} {x : Int} (hM : ab_own M = 12) : ab_ex ab_G2 M K Rt pc n L (.inl x :: .inr (.inr (.inl 0)) :: r) σ (.putfield 13) = (n = 3 ∧ K (pc + 3) L r (ab_up σ 0 5 x)) := by
  rw [ex_putfield]
  simp [hM, pt2_12_13_0, ab_op_s]
theorem dp2_12_16_0 {M : ab_M} {K : ab_K} {Rt : ab_V → ab_S → Prop} {pc n : Nat} {L : ab_L} {r : List ab_V} {σ : ab_S} {x : Int} (hM : ab_own M = 12) : ab_ex ab_G2 M K Rt pc n L (.inl x :: .inr (.inr (.inl 0)) :: r) σ (.putfield 16) = (n = 3 ∧ K (pc + 3) L r (ab_up σ 0 6 x)) := by
  rw [ex_putfield]
  simp [hM, pt2_12_16_0, ab_op_s]
theorem dp2_12_19_0 {M : ab_M} {K : ab_K} {Rt : ab_V → ab_S → Prop} {pc n : Nat} {L : ab_L} {r : List ab_V} {σ : ab_S} {x : Int} (hM : ab_own M = 12) : ab_ex ab_G2 M K Rt pc n L (.inl x :: .inr (.inr (.inl 0)) :: r) σ (.putfield 19) = (n = 3 ∧ K (pc + 3) L r (ab_up σ 0 7 x)) := by
  rw [ex_putfield]
  simp [hM, pt2_12_19_0, ab_op_s]
theorem dp2_12_269_0 {M : ab_M} {K : ab_K} {Rt : ab_V → ab_S → Prop} {pc n : Nat} {L : ab_L} {r : List ab_V} {σ : ab_S} {x : Int} (hM : ab_own M = 12) : ab_ex ab_G2 M K Rt pc n L (.inl x :: .inr (.inr (.inl 0)) :: r) σ (.putfield 269) = (n = 3 ∧ K (pc + 3) L r (ab_up σ 0 22 x)) := by
  rw [ex_putfield]
  simp [hM, pt2_12_269_0, ab_op_s]
theorem dp2_12_285_0 {M : ab_M} {K : ab_K} {Rt : ab_V → ab_S → Prop} {pc n : Nat} {L : ab_L} {r : List ab_V} {σ : ab_S} {x : Int} (hM : ab_own M = 12) : ab_ex ab_G2 M K Rt pc n L (.inl x :: .inr (.inr (.inl 0)) :: r) σ (.putfield 285) = (n = 3 ∧ K (pc + 3) L r (ab_up σ 0 23 x)) := by
  rw [ex_putfield]
  simp [hM, pt2_12_285_0, ab_op_s]
theorem dp2_12_298_0 {M : ab_M} {K : ab_K} {Rt : ab_V → ab_S → Prop} {pc n : Nat} {L : ab_L} {r : List ab_V} {σ : ab_S} {x : Int} (hM : ab_own M = 12) : ab_ex ab_G2 M K Rt pc n L (.inl x :: .inr (.inr (.inl 0)) :: r) σ (.putfield 298) = (n = 3 ∧ K (pc + 3) L r (ab_up σ 0 24 x)) := by
  rw [ex_putfield]
  simp [hM, pt2_12_298_0, ab_op_s]
theorem dp2_12_301_0 {M : ab_M} {K : ab_K} {Rt : ab_V → ab_S → Prop} {pc n : Nat} {L : ab_L} {r : List ab_V} {σ : ab_S} {x : Int} (hM : ab_own M = 12) : ab_ex ab_G2 M K Rt pc n L (.inl x :: .inr (.inr (.inl 0)) :: r) σ (.putfield 301) = (n = 3 ∧ K (pc + 3) L r (ab_up σ 0 25 x)) := by
  rw [ex_putfield]
  simp [hM, pt2_12_301_0, ab_op_s]
theorem dp2_12_304_0 {M : ab_M} {K : ab_K} {Rt : ab_V → ab_S → Prop} {pc n : Nat} {L : ab_L} {r : List ab_V} {σ : ab_S} {x : Int} (hM : ab_own M = 12) : ab_ex ab_G2 M K Rt pc n L (.inl x :: .inr (.inr (.inl 0)) :: r) σ (.putfield 304) = (n = 3 ∧ K (pc + 3) L r (ab_up σ 0 26 x)) := by
  rw [ex_putfield]
  simp [hM, pt2_12_304_0, ab_op_s]
theorem dp2_12_307_0 {M : ab_M} {K : ab_K} {Rt : ab_V → ab_S → Prop} {pc n : Nat} {L : ab_L} {r : List ab_V} {σ : ab_S} {x : Int} (hM : ab_own M = 12) : ab_ex ab_G2 M K Rt pc n L (.inl x :: .inr (.inr (.inl 0)) :: r) σ (.putfield 307) = (n = 3 ∧ K (pc + 3) L r (ab_up σ 0 27 x)) := by
  rw [ex_putfield]
  simp [hM, pt2_12_307_0, ab_op_s]
theorem dp2_12_188_0 {M : ab_M} {K : ab_K} {Rt : ab_V → ab_S → Prop} {pc n : Nat} {L : ab_L} {r : List ab_V} {σ : ab_S} {x : Int} (hM : ab_own M = 12) : ab_ex ab_G2 M K Rt pc n L (.inl x :: .inr (.inr (.inl 0)) :: r) σ (.putfield 188) = (n = 3 ∧ K (pc + 3) L r (ab_up σ 0 29 x)) := by
  rw [ex_putfield]
  simp [hM, pt2_12_188_0, ab_op_s]
theorem dp2_12_70_0 {M : ab_M} {K : ab_K} {Rt : ab_V → ab_S → Prop} {pc n : Nat} {L : ab_L} {r : List ab_V} {σ : ab_S} {x : Int} (hM : ab_own M = 12) : ab_ex ab_G2 M K Rt pc n L (.inl x :: .inr (.inr (.inl 0)) :: r) σ (.putfield 70) = (n = 3 ∧ K (pc + 3) L r (ab_up σ 0 30 x)) := by
  rw [ex_putfield]
  simp [hM, pt2_12_70_0, ab_op_s]
theorem dp2_12_194_0 {M : ab_M} {K : ab_K} {Rt : ab_V → ab_S → Prop} {pc n : Nat} {L : ab_L} {r : List ab_V} {σ : ab_S} {x : Int} (hM : ab_own M = 12) : ab_ex ab_G2 M K Rt pc n L (.inl x :: .inr (.inr (.inl 0)) :: r) σ (.putfield 194) = (n = 3 ∧ K (pc + 3) L r (ab_up σ 0 31 x)) := by
  rw [ex_putfield]
  simp [hM, pt2_12_194_0, ab_op_s]
theorem dp2_12_191_0 {M : ab_M} {K : ab_K} {Rt : ab_V → ab_S → Prop} {pc n : Nat} {L : ab_L} {r : List ab_V} {σ : ab_S} {x : Int} (hM : ab_own M = 12) : ab_ex ab_G2 M K Rt pc n L (.inl x :: .inr (.inr (.inl 0)) :: r) σ (.putfield 191) = (n = 3 ∧ K (pc + 3) L r (ab_up σ 0 32 x)) := by
  rw [ex_putfield]
  simp [hM, pt2_12_191_0, ab_op_s]
theorem dp2_12_201_0 {M : ab_M} {K : ab_K} {Rt : ab_V → ab_S → Prop} {pc n : Nat} {L : ab_L} {r : List ab_V} {σ : ab_S} {x : Int} (hM : ab_own M = 12) : ab_ex ab_G2 M K Rt pc n L (.inl x :: .inr (.inr (.inl 0)) :: r) σ (.putfield 201) = (n = 3 ∧ K (pc + 3) L r (ab_up σ 0 33 x)) := by
  rw [ex_putfield]
  simp [hM, pt2_12_201_0, ab_op_s]
theorem dp2_12_213_0 {M : ab_M} {K : ab_K} {Rt : ab_V → ab_S → Prop} {pc n : Nat} {L : ab_L} {r : List ab_V} {σ : ab_S} {x : Int} (hM : ab_own M = 12) : ab_ex ab_G2 M K Rt pc n L (.inl x :: .inr (.inr (.inl 0)) :: r) σ (.putfield 213) = (n = 3 ∧ K (pc + 3) L r (ab_up σ 0 34 x)) := by
  rw [ex_putfield]
  simp [hM, pt2_12_213_0, ab_op_s]
theorem dp2_12_210_0 {M : ab_M} {K : ab_K} {Rt : ab_V → ab_S → Prop} {pc n : Nat} {L : ab_L} {r : List ab_V} {σ : ab_S} {x : Int} (hM : ab_own M = 12) : ab_ex ab_G2 M K Rt pc n L (.inl x :: .inr (.inr (.inl 0)) :: r) σ (.putfield 210) = (n = 3 ∧ K (pc + 3) L r (ab_up σ 0 35 x)) := by
  rw [ex_putfield]
  simp [hM, pt2_12_210_0, ab_op_s]
theorem dp2_12_206_0 {M : ab_M} {K : ab_K} {Rt : ab_V → ab_S → Prop} {pc n : Nat} {L : ab_L} {r : List ab_V} {σ : ab_S} {x : Int} (hM : ab_own M = 12) : ab_ex ab_G2 M K Rt pc n L (.inr (.inl x) :: .inr (.inr (.inl 0)) :: r) σ (.putfield 206) = (n = 3 ∧ K (pc + 3) L r (ab_up σ 0 36 x)) := by
  rw [ex_putfield]
  simp [hM, pt2_12_206_0, ab_op_s]
theorem dp2_12_227_0 {M : ab_M} {K : ab_K} {Rt : ab_V → ab_S → Prop} {pc n : Nat} {L : ab_L} {r : List ab_V} {σ : ab_S} {x : Int} (hM : ab_own M = 12) : ab_ex ab_G2 M K Rt pc n L (.inl x :: .inr (.inr (.inl 0)) :: r) σ (.putfield 227) = (n = 3 ∧ (x = 0 ∨ x = 1) ∧ K (pc + 3) L r (ab_up σ 0 37 x)) := by
  rw [ex_putfield]
  simp [hM, pt2_12_227_0, ab_op_s]
theorem dp2_12_332_0 {M : ab_M} {K : ab_K} {Rt : ab_V → ab_S → Prop} {pc n : Nat} {L : ab_L} {r : List ab_V} {σ : ab_S} {x : Int} (hM : ab_own M = 12) : ab_ex ab_G2 M K Rt pc n L (.inl x :: .inr (.inr (.inl 0)) :: r) σ (.putfield 332) = (n = 3 ∧ K (pc + 3) L r (ab_up σ 0 38 x)) := by
  rw [ex_putfield]
  simp [hM, pt2_12_332_0, ab_op_s]
theorem dp2_12_73_0 {M : ab_M} {K : ab_K} {Rt : ab_V → ab_S → Prop} {pc n : Nat} {L : ab_L} {r : List ab_V} {σ : ab_S} {x : Int} (hM : ab_own M = 12) : ab_ex ab_G2 M K Rt pc n L (.inl x :: .inr (.inr (.inl 0)) :: r) σ (.putfield 73) = (n = 3 ∧ K (pc + 3) L r (ab_up σ 0 39 x)) := by
  rw [ex_putfield]
  simp [hM, pt2_12_73_0, ab_op_s]
theorem dp2_12_345_0 {M : ab_M} {K : ab_K} {Rt : ab_V → ab_S → Prop} {pc n : Nat} {L : ab_L} {r : List ab_V} {σ : ab_S} {x : Int} (hM : ab_own M = 12) : ab_ex ab_G2 M K Rt pc n L (.inl x :: .inr (.inr (.inl 0)) :: r) σ (.putfield 345) = (n = 3 ∧ K (pc + 3) L r (ab_up σ 0 45 x)) := by
  rw [ex_putfield]
  simp [hM, pt2_12_345_0, ab_op_s]
theorem dp2_12_348_0 {M : ab_M} {K : ab_K} {Rt : ab_V → ab_S → Prop} {pc n : Nat} {L : ab_L} {r : List ab_V} {σ : ab_S} {x : Int} (hM : ab_own M = 12) : ab_ex ab_G2 M K Rt pc n L (.inl x :: .inr (.inr (.inl 0)) :: r) σ (.putfield 348) = (n = 3 ∧ K (pc + 3) L r (ab_up σ 0 46 x)) := by
  rw [ex_putfield]
  simp [hM, pt2_12_348_0, ab_op_s]
theorem dp2_12_351_0 {M : ab_M} {K : ab_K} {Rt : ab_V → ab_S → Prop} {pc n : Nat} {L : ab_L} {r : List ab_V} {σ : ab_S} {x : Int} (hM : ab_own M = 12) : ab_ex ab_G2 M K Rt pc n L (.inl x :: .inr (.inr (.inl 0)) :: r) σ (.putfield 351) = (n = 3 ∧ K (pc + 3) L r (ab_up σ 0 47 x)) := by
  rw [ex_putfield]
  simp [hM, pt2_12_351_0, ab_op_s]
theorem dp2_12_329_0 {M : ab_M} {K : ab_K} {Rt : ab_V → ab_S → Prop} {pc n : Nat} {L : ab_L} {r : List ab_V} {σ : ab_S} {x : Int} (hM : ab_own M = 12) : ab_ex ab_G2 M K Rt pc n L (.inl x :: .inr (.inr (.inl 0)) :: r) σ (.putfield 329) = (n = 3 ∧ K (pc + 3) L r (ab_up σ 0 53 x)) := by
  rw [ex_putfield]
  simp [hM, pt2_12_329_0, ab_op_s]
theorem dp2_12_377_0 {M : ab_M} {K : ab_K} {Rt : ab_V → ab_S → Prop} {pc n : Nat} {L : ab_L} {r : List ab_V} {σ : ab_S} {x : Int} (hM : ab_own M = 12) : ab_ex ab_G2 M K Rt pc n L (.inr (.inl x) :: .inr (.inr (.inl 0)) :: r) σ (.putfield 377) = (n = 3 ∧ K (pc + 3) L r (ab_up σ 0 60 x)) := by
  rw [ex_putfield]
  simp [hM, pt2_12_377_0, ab_op_s]
theorem dp2_12_413_0 {M : ab_M} {K : ab_K} {Rt : ab_V → ab_S → Prop} {pc n : Nat} {L : ab_L} {r : List ab_V} {σ : ab_S} {x : Int} (hM : ab_own M = 12) : ab_ex ab_G2 M K Rt pc n L (.inr (.inl x) :: .inr (.inr (.inl 0)) :: r) σ (.putfield 413) = (n = 3 ∧ K (pc + 3) L r (ab_up σ 0 63 x)) := by
  rw [ex_putfield]
  simp [hM, pt2_12_413_0, ab_op_s]
theorem dp2_12_416_0 {M : ab_M} {K : ab_K} {Rt : ab_V → ab_S → Prop} {pc n : Nat} {L : ab_L} {r : List ab_V} {σ : ab_S} {x : Int} (hM : ab_own M = 12) : ab_ex ab_G2 M K Rt pc n L (.inl x :: .inr (.inr (.inl 0)) :: r) σ (.putfield 416) = (n = 3 ∧ K (pc + 3) L r (ab_up σ 0 64 x)) := by
  rw [ex_putfield]
  simp [hM, pt2_12_416_0, ab_op_s]
theorem dp2_12_419_0 {M : ab_M} {K : ab_K} {Rt : ab_V → ab_S → Prop} {pc n : Nat} {L : ab_L} {r : List ab_V} {σ : ab_S} {x : Int} (hM : ab_own M = 12) : ab_ex ab_G2 M K Rt pc n L (.inl x :: .inr (.inr (.inl 0)) :: r) σ (.putfield 419) = (n = 3 ∧ (x = 0 ∨ x = 1) ∧ K (pc + 3) L r (ab_up σ 0 65 x)) := by
  rw [ex_putfield]
  simp [hM, pt2_12_419_0, ab_op_s]
theorem dp2_12_445_0 {M : ab_M} {K : ab_K} {Rt : ab_V → ab_S → Prop} {pc n : Nat} {L : ab_L} {r : List ab_V} {σ : ab_S} {x : Int} (hM : ab_own M = 12) : ab_ex ab_G2 M K Rt pc n L (.inl x :: .inr (.inr (.inl 0)) :: r) σ (.putfield 445) = (n = 3 ∧ K (pc + 3) L r (ab_up σ 0 72 x)) := by
  rw [ex_putfield]
  simp [hM, pt2_12_445_0, ab_op_s]
theorem dp2_12_448_0 {M : ab_M} {K : ab_K} {Rt : ab_V → ab_S → Prop} {pc n : Nat} {L : ab_L} {r : List ab_V} {σ : ab_S} {x : Int} (hM : ab_own M = 12) : ab_ex ab_G2 M K Rt pc n L (.inl x :: .inr (.inr (.inl 0)) :: r) σ (.putfield 448) = (n = 3 ∧ K (pc + 3) L r (ab_up σ 0 73 x)) := by
  rw [ex_putfield]
  simp [hM, pt2_12_448_0, ab_op_s]
theorem dp2_12_451_0 {M : ab_M} {K : ab_K} {Rt : ab_V → ab_S → Prop} {pc n : Nat} {L : ab_L} {r : List ab_V} {σ : ab_S} {x : Int} (hM : ab_own M = 12) : ab_ex ab_G2 M K Rt pc n L (.inl x :: .inr (.inr (.inl 0)) :: r) σ (.putfield 451) = (n = 3 ∧ K (pc + 3) L r (ab_up σ 0 74 x)) := by
  rw [ex_putfield]
  simp [hM, pt2_12_451_0, ab_op_s]
theorem dp2_12_482_0 {M : ab_M} {K : ab_K} {Rt : ab_V → ab_S → Prop} {pc n : Nat} {L : ab_L} {r : List ab_V} {σ : ab_S} {x : Int} (hM : ab_own M = 12) : ab_ex ab_G2 M K Rt pc n L (.inl x :: .inr (.inr (.inl 0)) :: r) σ (.putfield 482) = (n = 3 ∧ K (pc + 3) L r (ab_up σ 0 75 x)) := by
  rw [ex_putfield]
  simp [hM, pt2_12_482_0, ab_op_s]
theorem dp2_12_489_0 {M : ab_M} {K : ab_K} {Rt : ab_V → ab_S → Prop} {pc n : Nat} {L : ab_L} {r : List ab_V} {σ : ab_S} {x : Int} (hM : ab_own M = 12) : ab_ex ab_G2 M K Rt pc n L (.inl x :: .inr (.inr (.inl 0)) :: r) σ (.putfield 489) = (n = 3 ∧ K (pc + 3) L r (ab_up σ 0 76 x)) := by
  rw [ex_putfield]
  simp [hM, pt2_12_489_0, ab_op_s]
theorem dp2_12_498_0 {M : ab_M} {K : ab_K} {Rt : ab_V → ab_S → Prop} {pc n : Nat} {L : ab_L} {r : List ab_V} {σ : ab_S} {x : Int} (hM : ab_own M = 12) : ab_ex ab_G2 M K Rt pc n L (.inl x :: .inr (.inr (.inl 0)) :: r) σ (.putfield 498) = (n = 3 ∧ K (pc + 3) L r (ab_up σ 0 79 x)) := by
  rw [ex_putfield]
  simp [hM, pt2_12_498_0, ab_op_s]
theorem dp2_12_501_0 {M : ab_M} {K : ab_K} {Rt : ab_V → ab_S → Prop} {pc n : Nat} {L : ab_L} {r : List ab_V} {σ : ab_S} {x : Int} (hM : ab_own M = 12) : ab_ex ab_G2 M K Rt pc n L (.inl x :: .inr (.inr (.inl 0)) :: r) σ (.putfield 501) = (n = 3 ∧ K (pc + 3) L r (ab_up σ 0 80 x)) := by
  rw [ex_putfield]
  simp [hM, pt2_12_501_0, ab_op_s]
theorem dp2_12_513_0 {M : ab_M} {K : ab_K} {Rt : ab_V → ab_S → Prop} {pc n : Nat} {L : ab_L} {r : List ab_V} {σ : ab_S} {x : Int} (hM : ab_own M = 12) : ab_ex ab_G2 M K Rt pc n L (.inl x :: .inr (.inr (.inl 0)) :: r) σ (.putfield 513) = (n = 3 ∧ K (pc + 3) L r (ab_up σ 0 86 x)) := by
  rw [ex_putfield]
  simp [hM, pt2_12_513_0, ab_op_s]
theorem dp2_12_529_0 {M : ab_M} {K : ab_K} {Rt : ab_V → ab_S → Prop} {pc n : Nat} {L : ab_L} {r : List ab_V} {σ : ab_S} {x : Int} (hM : ab_own M = 12) : ab_ex ab_G2 M K Rt pc n L (.inl x :: .inr (.inr (.inl 0)) :: r) σ (.putfield 529) = (n = 3 ∧ K (pc + 3) L r (ab_up σ 0 87 x)) := by
  rw [ex_putfield]
  simp [hM, pt2_12_529_0, ab_op_s]
theorem dp2_12_532_0 {M : ab_M} {K : ab_K} {Rt : ab_V → ab_S → Prop} {pc n : Nat} {L : ab_L} {r : List ab_V} {σ : ab_S} {x : Int} (hM : ab_own M = 12) : ab_ex ab_G2 M K Rt pc n L (.inl x :: .inr (.inr (.inl 0)) :: r) σ (.putfield 532) = (n = 3 ∧ K (pc + 3) L r (ab_up σ 0 88 x)) := by
  rw [ex_putfield]
  simp [hM, pt2_12_532_0, ab_op_s]
theorem dp2_12_538_0 {M : ab_M} {K : ab_K} {Rt : ab_V → ab_S → Prop} {pc n : Nat} {L : ab_L} {r : List ab_V} {σ : ab_S} {x : Int} (hM : ab_own M = 12) : ab_ex ab_G2 M K Rt pc n L (.inl x :: .inr (.inr (.inl 0)) :: r) σ (.putfield 538) = (n = 3 ∧ K (pc + 3) L r (ab_up σ 0 89 x)) := by
  rw [ex_putfield]
  simp [hM, pt2_12_538_0, ab_op_s]
theorem dp2_12_335_0 {M : ab_M} {K : ab_K} {Rt : ab_V → ab_S → Prop} {pc n : Nat} {L : ab_L} {r : List ab_V} {σ : ab_S} {x : Int} (hM : ab_own M = 12) : ab_ex ab_G2 M K Rt pc n L (.inl x :: .inr (.inr (.inl 0)) :: r) σ (.putfield 335) = (n = 3 ∧ K (pc + 3) L r (ab_up σ 0 90 x)) := by
  rw [ex_putfield]
  simp [hM, pt2_12_335_0, ab_op_s]
theorem dal1_2 {M : ab_M} {K : ab_K} {Rt : ab_V → ab_S → Prop} {pc n : Nat} {L : ab_L} {r : List ab_V} {σ : ab_S} {i : Int} : ab_ex ab_G1 M K Rt pc n L (.inl i :: .inr (.inr (.inl 2)) :: r) σ .iaload = (n = 1 ∧ (0 ≤ i ∧ i < 900) ∧ K (pc + 1) L (.inl (σ 2 i) :: r) σ) := by
  rw [ex_iaload, ab_io_s, ar1_2, ab_op_s]
  simp
theorem das1_2 {M : ab_M} {K : ab_K} {Rt : ab_V → ab_S → Prop} {pc n : Nat} {L : ab_L} {r : List ab_V} {σ : ab_S} {i x : Int} : ab_ex ab_G1 M K Rt pc n L (.inl x :: .inl i :: .inr (.inr (.inl 2)) :: r) σ .iastore = (n = 1 ∧ (0 ≤ i ∧ i < 900) ∧ K (pc + 1) L r (ab_up σ 2 i x)) := by
  rw [ex_iastore, ab_iio_s, ar1_2, ab_op_s]
  simp
theorem dln1_2 {M : ab_M} {K : ab_K} {Rt : ab_V → ab_S → Prop} {pc n : Nat} {L : ab_L} {r : List ab_V} {σ : ab_S} : ab_ex ab_G1 M K Rt pc n L (.inr (.inr (.inl 2)) :: r) σ .arraylength = (n = 1 ∧ K (pc + 1) L (.inl 900 :: r) σ) := by
  rw [ex_arraylength, ab_o1_s, ar1_2, ab_op_s]
  simp
theorem dal1_4 {M : ab_M} {K : ab_K} {Rt : ab_V → ab_S → Prop} {pc n : Nat} {L : ab_L} {r : List ab_V} {σ : ab_S} {i : Int} : ab_ex ab_G1 M K Rt pc n L (.inl i :: .inr (.inr (.inl 4)) :: r) σ .iaload = (n = 1 ∧ (0 ≤ i ∧ i < 72) ∧ K (pc + 1) L (.inl (σ 4 i) :: r) σ) := by
  rw [ex_iaload, ab_io_s, ar1_4, ab_op_s]
  simp
theorem das1_4 {M : ab_M} {K : ab_K} {Rt : ab_V → ab_S → Prop} {pc n : Nat} {L : ab_L} {r : List ab_V} {σ : ab_S} {i x : Int} : ab_ex ab_G1 M K Rt pc n L (.inl x :: .inl i :: .inr (.inr (.inl 4)) :: r) σ .iastore = (n = 1 ∧ (0 ≤ i ∧ i < 72) ∧ K (pc + 1) L r (ab_up σ 4 i x)) := by
  rw [ex_iastore, ab_iio_s, ar1_4, ab_op_s]
  simp
theorem dln1_4 {M : ab_M} {K : ab_K} {Rt : ab_V → ab_S → Prop} {pc n : Nat} {L : ab_L} {r : List ab_V} {σ : ab_S} : ab_ex ab_G1 M K Rt pc n L (.inr (.inr (.inl 4)) :: r) σ .arraylength = (n = 1 ∧ K (pc + 1) L (.inl 72 :: r) σ) := by
  rw [ex_arraylength, ab_o1_s, ar1_4, ab_op_s]
  simp
theorem dal1_5 {M : ab_M} {K : ab_K} {Rt : ab_V → ab_S → Prop} {pc n : Nat} {L : ab_L} {r : List ab_V} {σ : ab_S} {i : Int} : ab_ex ab_G1 M K Rt pc n L (.inl i :: .inr (.inr (.inl 5)) :: r) σ .iaload = (n = 1 ∧ (0 ≤ i ∧ i < 12) ∧ K (pc + 1) L (.inl (σ 5 i) :: r) σ) := by
  rw [ex_iaload, ab_io_s, ar1_5, ab_op_s]
  simp
theorem das1_5 {M : ab_M} {K : ab_K} {Rt : ab_V → ab_S → Prop} {pc n : Nat} {L : ab_L} {r : List ab_V} {σ : ab_S} {i x : Int} : ab_ex ab_G1 M K Rt pc n L (.inl x :: .inl i :: .inr (.inr (.inl 5)) :: r) σ .iastore = (n = 1 ∧ (0 ≤ i ∧ i < 12) ∧ K (pc + 1) L r (ab_up σ 5 i x)) := by
  rw [ex_iastore, ab_iio_s, ar1_5, ab_op_s]
  simp
theorem dln1_5 {M : ab_M} {K : ab_K} {Rt : ab_V → ab_S → Prop} {pc n : Nat} {L : ab_L} {r : List ab_V} {σ : ab_S} : ab_ex ab_G1 M K Rt pc n L (.inr (.inr (.inl 5)) :: r) σ .arraylength = (n = 1 ∧ K (pc + 1) L (.inl 12 :: r) σ) := by
  rw [ex_arraylength, ab_o1_s, ar1_5, ab_op_s]
  simp
theorem dal1_6 {M : ab_M} {K : ab_K} {Rt : ab_V → ab_S → Prop} {pc n : Nat} {L : ab_L} {r : List ab_V} {σ : ab_S} {i : Int} : ab_ex ab_G1 M K Rt pc n L (.inl i :: .inr (.inr (.inl 6)) :: r) σ .iaload = (n = 1 ∧ (0 ≤ i ∧ i < 12) ∧ K (pc + 1) L (.inl (σ 6 i) :: r) σ) := by
  rw [ex_iaload, ab_io_s, ar1_6, ab_op_s]
  simp
theorem das1_6 {M : ab_M} {K : ab_K} {Rt : ab_V → ab_S → Prop} {pc n : Nat} {L : ab_L} {r : List ab_V} {σ : ab_S} {i x : Int} : ab_ex ab_G1 M K Rt pc n L (.inl x :: .inl i :: .inr (.inr (.inl 6)) :: r) σ .iastore = (n = 1 ∧ (0 ≤ i ∧ i < 12) ∧ K (pc + 1) L r (ab_up σ 6 i x)) := by
  rw [ex_iastore, ab_iio_s, ar1_6, ab_op_s]
  simp
theorem dln1_6 {M : ab_M} {K : ab_K} {Rt : ab_V → ab_S → Prop} {pc n : Nat} {L : ab_L} {r : List ab_V} {σ : ab_S} : ab_ex ab_G1 M K Rt pc n L (.inr (.inr (.inl 6)) :: r) σ .arraylength = (n = 1 ∧ K (pc + 1) L (.inl 12 :: r) σ) := by
  rw [ex_arraylength, ab_o1_s, ar1_6, ab_op_s]
  simp
theorem dal1_7 {M : ab_M} {K : ab_K} {Rt : ab_V → ab_S → Prop} {pc n : Nat} {L : ab_L} {r : List ab_V} {σ : ab_S} {i : Int} : ab_ex ab_G1 M K Rt pc n L (.inl i :: .inr (.inr (.inl 7)) :: r) σ .iaload = (n = 1 ∧ (0 ≤ i ∧ i < 36) ∧ K (pc + 1) L (.inl (σ 7 i) :: r) σ) := by
  rw [ex_iaload, ab_io_s, ar1_7, ab_op_s]
  simp
theorem das1_7 {M : ab_M} {K : ab_K} {Rt : ab_V → ab_S → Prop} {pc n : Nat} {L : ab_L} {r : List ab_V} {σ : ab_S} {i x : Int} : ab_ex ab_G1 M K Rt pc n L (.inl x :: .inl i :: .inr (.inr (.inl 7)) :: r) σ .iastore = (n = 1 ∧ (0 ≤ i ∧ i < 36) ∧ K (pc + 1) L r (ab_up σ 7 i x)) := by
  rw [ex_iastore, ab_iio_s, ar1_7, ab_op_s]
  simp
theorem dln1_7 {M : ab_M} {K : ab_K} {Rt : ab_V → ab_S → Prop} {pc n : Nat} {L : ab_L} {r : List ab_V} {σ : ab_S} : ab_ex ab_G1 M K Rt pc n L (.inr (.inr (.inl 7)) :: r) σ .arraylength = (n = 1 ∧ K (pc + 1) L (.inl 36 :: r) σ) := by
  rw [ex_arraylength, ab_o1_s, ar1_7, ab_op_s]
  simp
theorem dal1_8 {M : ab_M} {K : ab_K} {Rt : ab_V → ab_S → Prop} {pc n : Nat} {L : ab_L} {r : List ab_V} {σ : ab_S} {i : Int} : ab_ex ab_G1 M K Rt pc n L (.inl i :: .inr (.inr (.inl 8)) :: r) σ .iaload = (n = 1 ∧ (0 ≤ i ∧ i < 16) ∧ K (pc + 1) L (.inl (σ 8 i) :: r) σ) := by
  rw [ex_iaload, ab_io_s, ar1_8, ab_op_s]
  simp
theorem das1_8 {M : ab_M} {K : ab_K} {Rt : ab_V → ab_S → Prop} {pc n : Nat} {L : ab_L} {r : List ab_V} {σ : ab_S} {i x : Int} : ab_ex ab_G1 M K Rt pc n L (.inl x :: .inl i :: .inr (.inr (.inl 8)) :: r) σ .iastore = (n = 1 ∧ (0 ≤ i ∧ i < 16) ∧ K (pc + 1) L r (ab_up σ 8 i x)) := by
  rw [ex_iastore, ab_iio_s, ar1_8, ab_op_s]
  simp
theorem dln1_8 {M : ab_M} {K : ab_K} {Rt : ab_V → ab_S → Prop} {pc n : Nat} {L : ab_L} {r : List ab_V} {σ : ab_S} : ab_ex ab_G1 M K Rt pc n L (.inr (.inr (.inl 8)) :: r) σ .arraylength = (n = 1 ∧ K (pc + 1) L (.inl 16 :: r) σ) := by
  rw [ex_arraylength, ab_o1_s, ar1_8, ab_op_s]
  simp
theorem dal1_9 {M : ab_M} {K : ab_K} {Rt : ab_V → ab_S → Prop} {pc n : Nat} {L : ab_L} {r : List ab_V} {σ : ab_S} {i : Int} : ab_ex ab_G1 M K Rt pc n L (.inl i :: .inr (.inr (.inl 9)) :: r) σ .iaload = (n = 1 ∧ (0 ≤ i ∧ i < 16) ∧ K (pc + 1) L (.inl (σ 9 i) :: r) σ) := by
  rw [ex_iaload, ab_io_s, ar1_9, ab_op_s]
  simp
theorem das1_9 {M : ab_M} {K : ab_K} {Rt : ab_V → ab_S → Prop} {pc n : Nat} {L : ab_L} {r : List ab_V} {σ : ab_S} {i x : Int} : ab_ex ab_G1 M K Rt pc n L (.inl x :: .inl i :: .inr (.inr (.inl 9)) :: r) σ .iastore = (n = 1 ∧ (0 ≤ i ∧ i < 16) ∧ K (pc + 1) L r (ab_up σ 9 i x)) := by
  rw [ex_iastore, ab_iio_s, ar1_9, ab_op_s]
  simp
theorem dln1_9 {M : ab_M} {K : ab_K} {Rt : ab_V → ab_S → Prop} {pc n : Nat} {L : ab_L} {r : List ab_V} {σ : ab_S} : ab_ex ab_G1 M K Rt pc n L (.inr (.inr (.inl 9)) :: r) σ .arraylength = (n = 1 ∧ K (pc + 1) L (.inl 16 :: r) σ) := by
  rw [ex_arraylength, ab_o1_s, ar1_9, ab_op_s]
  simp
theorem dal1_10 {M : ab_M} {K : ab_K} {Rt : ab_V → ab_S → Prop} {pc n : Nat} {L : ab_L} {r : List ab_V} {σ : ab_S} {i : Int} : ab_ex ab_G1 M K Rt pc n L (.inl i :: .inr (.inr (.inl 10)) :: r) σ .iaload = (n = 1 ∧ (0 ≤ i ∧ i < 16) ∧ K (pc + 1) L (.inl (σ 10 i) :: r) σ) := by
  rw [ex_iaload, ab_io_s, ar1_10, ab_op_s]
  simp
theorem das1_10 {M : ab_M} {K : ab_K} {Rt : ab_V → ab_S → Prop} {pc n : Nat} {L : ab_L} {r : List ab_V} {σ : ab_S} {i x : Int} : ab_ex ab_G1 M K Rt pc n L (.inl x :: .inl i :: .inr (.inr (.inl 10)) :: r) σ .iastore = (n = 1 ∧ (0 ≤ i ∧ i < 16) ∧ K (pc + 1) L r (ab_up σ 10 i x)) := by
  rw [ex_iastore, ab_iio_s, ar1_10, ab_op_s]
  simp
theorem dln1_10 {M : ab_M} {K : ab_K} {Rt : ab_V → ab_S → Prop} {pc n : Nat} {L : ab_L} {r : List ab_V} {σ : ab_S} : ab_ex ab_G1 M K Rt pc n L (.inr (.inr (.inl 10)) :: r) σ .arraylength = (n = 1 ∧ K (pc + 1) L (.inl 16 :: r) σ) := by
  rw [ex_arraylength, ab_o1_s, ar1_10, ab_op_s]
  simp
theorem dal1_11 {M : ab_M} {K : ab_K} {Rt : ab_V → ab_S → Prop} {pc n : Nat} {L : ab_L} {r : List ab_V} {σ : ab_S} {i : Int} : ab_ex ab_G1 M K Rt pc n L (.inl i :: .inr (.inr (.inl 11)) :: r) σ .iaload = (n = 1 ∧ (0 ≤ i ∧ i < 16) ∧ K (pc + 1) L (.inl (σ 11 i) :: r) σ) := by
  rw [ex_iaload, ab_io_s, ar1_11, ab_op_s]
  simp
theorem das1_11 {M : ab_M} {K : ab_K} {Rt : ab_V → ab_S → Prop} {pc n : Nat} {L : ab_L} {r : List ab_V} {σ : ab_S} {i x : Int} : ab_ex ab_G1 M K Rt pc n L (.inl x :: .inl i :: .inr (.inr (.inl 11)) :: r) σ .iastore = (n = 1 ∧ (0 ≤ i ∧ i < 16) ∧ K (pc + 1) L r (ab_up σ 11 i x)) := by
  rw [ex_iastore, ab_iio_s, ar1_11, ab_op_s]
  simp
theorem dln1_11 {M : ab_M} {K : ab_K} {Rt : ab_V → ab_S → Prop} {pc n : Nat} {L : ab_L} {r : List ab_V} {σ : ab_S} : ab_ex ab_G1 M K Rt pc n L (.inr (.inr (.inl 11)) :: r) σ .arraylength = (n = 1 ∧ K (pc + 1) L (.inl 16 :: r) σ) := by
  rw [ex_arraylength, ab_o1_s, ar1_11, ab_op_s]
  simp
theorem dal1_13 {M : ab_M} {K : ab_K} {Rt : ab_V → ab_S → Prop} {pc n : Nat} {L : ab_L} {r : List ab_V} {σ : ab_S} {i : Int} : ab_ex ab_G1 M K Rt pc n L (.inl i :: .inr (.inr (.inl 13)) :: r) σ .iaload = (n = 1 ∧ (0 ≤ i ∧ i < 72) ∧ K (pc + 1) L (.inl (σ 13 i) :: r) σ) := by
  rw [ex_iaload, ab_io_s, ar1_13, ab_op_s]
  simp
theorem das1_13 {M : ab_M} {K : ab_K} {Rt : ab_V → ab_S → Prop} {pc n : Nat} {L : ab_L} {r : List ab_V} {σ : ab_S} {i x : Int} : ab_ex ab_G1 M K Rt pc n L (.inl x :: .inl i :: .inr (.inr (.inl 13)) :: r) σ .iastore = (n = 1 ∧ (0 ≤ i ∧ i < 72) ∧ K (pc + 1) L r (ab_up σ 13 i x)) := by
  rw [ex_iastore, ab_iio_s, ar1_13, ab_op_s]
  simp
theorem dln1_13 {M : ab_M} {K : ab_K} {Rt : ab_V → ab_S → Prop} {pc n : Nat} {L : ab_L} {r : List ab_V} {σ : ab_S} : ab_ex ab_G1 M K Rt pc n L (.inr (.inr (.inl 13)) :: r) σ .arraylength = (n = 1 ∧ K (pc + 1) L (.inl 72 :: r) σ) := by
  rw [ex_arraylength, ab_o1_s, ar1_13, ab_op_s]
  simp
theorem dal1_14 {M : ab_M} {K : ab_K} {Rt : ab_V → ab_S → Prop} {pc n : Nat} {L : ab_L} {r : List ab_V} {σ : ab_S} {i : Int} : ab_ex ab_G1 M K Rt pc n L (.inl i :: .inr (.inr (.inl 14)) :: r) σ .iaload = (n = 1 ∧ (0 ≤ i ∧ i < 12) ∧ K (pc + 1) L (.inl (σ 14 i) :: r) σ) := by
  rw [ex_iaload, ab_io_s, ar1_14, ab_op_s]
  simp
theorem das1_14 {M : ab_M} {K : ab_K} {Rt : ab_V → ab_S → Prop} {pc n : Nat} {L : ab_L} {r : List ab_V} {σ : ab_S} {i x : Int} : ab_ex ab_G1 M K Rt pc n L (.inl x :: .inl i :: .inr (.inr (.inl 14)) :: r) σ .iastore = (n = 1 ∧ (0 ≤ i ∧ i < 12) ∧ K (pc + 1) L r (ab_up σ 14 i x)) := by
  rw [ex_iastore, ab_iio_s, ar1_14, ab_op_s]
  simp
theorem dln1_14 {M : ab_M} {K : ab_K} {Rt : ab_V → ab_S → Prop} {pc n : Nat} {L : ab_L} {r : List ab_V} {σ : ab_S} : ab_ex ab_G1 M K Rt pc n L (.inr (.inr (.inl 14)) :: r) σ .arraylength = (n = 1 ∧ K (pc + 1) L (.inl 12 :: r) σ) := by
  rw [ex_arraylength, ab_o1_s, ar1_14, ab_op_s]
  simp
theorem dal1_15 {M : ab_M} {K : ab_K} {Rt : ab_V → ab_S → Prop} {pc n : Nat} {L : ab_L} {r : List ab_V} {σ : ab_S} {i : Int} : ab_ex ab_G1 M K Rt pc n L (.inl i :: .inr (.inr (.inl 15)) :: r) σ .iaload = (n = 1 ∧ (0 ≤ i ∧ i < 12) ∧ K (pc + 1) L (.inl (σ 15 i) :: r) σ) := by
  rw [ex_iaload, ab_io_s, ar1_15, ab_op_s]
  simp
theorem das1_15 {M : ab_M} {K : ab_K} {Rt : ab_V → ab_S → Prop} {pc n : Nat} {L : ab_L} {r : List ab_V} {σ : ab_S} {i x : Int} : ab_ex ab_G1 M K Rt pc n L (.inl x :: .inl i :: .inr (.inr (.inl 15)) :: r) σ .iastore = (n = 1 ∧ (0 ≤ i ∧ i < 12) ∧ K (pc + 1) L r (ab_up σ 15 i x)) := by
  rw [ex_iastore, ab_iio_s, ar1_15, ab_op_s]
  simp
theorem dln1_15 {M : ab_M} {K : ab_K} {Rt : ab_V → ab_S → Prop} {pc n : Nat} {L : ab_L} {r : List ab_V} {σ : ab_S} : ab_ex ab_G1 M K Rt pc n L (.inr (.inr (.inl 15)) :: r) σ .arraylength = (n = 1 ∧ K (pc + 1) L (.inl 12 :: r) σ) := by
  rw [ex_arraylength, ab_o1_s, ar1_15, ab_op_s]
  simp
theorem dal1_16 {M : ab_M} {K : ab_K} {Rt : ab_V → ab_S → Prop} {pc n : Nat} {L : ab_L} {r : List ab_V} {σ : ab_S} {i : Int} : ab_ex ab_G1 M K Rt pc n L (.inl i :: .inr (.inr (.inl 16)) :: r) σ .iaload = (n = 1 ∧ (0 ≤ i ∧ i < 36) ∧ K (pc + 1) L (.inl (σ 16 i) :: r) σ) := by
  rw [ex_iaload, ab_io_s, ar1_16, ab_op_s]
  simp
theorem das1_16 {M : ab_M} {K : ab_K} {Rt : ab_V → ab_S → Prop} {pc n : Nat} {L : ab_L} {r : List ab_V} {σ : ab_S} {i x : Int} : ab_ex ab_G1 M K Rt pc n L (.inl x :: .inl i :: .inr (.inr (.inl 16)) :: r) σ .iastore = (n = 1 ∧ (0 ≤ i ∧ i < 36) ∧ K (pc + 1) L r (ab_up σ 16 i x)) := by
  rw [ex_iastore, ab_iio_s, ar1_16, ab_op_s]
  simp
theorem dln1_16 {M : ab_M} {K : ab_K} {Rt : ab_V → ab_S → Prop} {pc n : Nat} {L : ab_L} {r : List ab_V} {σ : ab_S} : ab_ex ab_G1 M K Rt pc n L (.inr (.inr (.inl 16)) :: r) σ .arraylength = (n = 1 ∧ K (pc + 1) L (.inl 36 :: r) σ) := by
  rw [ex_arraylength, ab_o1_s, ar1_16, ab_op_s]
  simp
theorem dal1_17 {M : ab_M} {K : ab_K} {Rt : ab_V → ab_S → Prop} {pc n : Nat} {L : ab_L} {r : List ab_V} {σ : ab_S} {i : Int} : ab_ex ab_G1 M K Rt pc n L (.inl i :: .inr (.inr (.inl 17)) :: r) σ .iaload = (n = 1 ∧ (0 ≤ i ∧ i < 16) ∧ K (pc + 1) L (.inl (σ 17 i) :: r) σ) := by
  rw [ex_iaload, ab_io_s, ar1_17, ab_op_s]
  simp
theorem das1_17 {M : ab_M} {K : ab_K} {Rt : ab_V → ab_S → Prop} {pc n : Nat} {L : ab_L} {r : List ab_V} {σ : ab_S} {i x : Int} : ab_ex ab_G1 M K Rt pc n L (.inl x :: .inl i :: .inr (.inr (.inl 17)) :: r) σ .iastore = (n = 1 ∧ (0 ≤ i ∧ i < 16) ∧ K (pc + 1) L r (ab_up σ 17 i x)) := by
  rw [ex_iastore, ab_iio_s, ar1_17, ab_op_s]
  simp
theorem dln1_17 {M : ab_M} {K : ab_K} {Rt : ab_V → ab_S → Prop} {pc n : Nat} {L : ab_L} {r : List ab_V} {σ : ab_S} : ab_ex ab_G1 M K Rt pc n L (.inr (.inr (.inl 17)) :: r) σ .arraylength = (n = 1 ∧ K (pc + 1) L (.inl 16 :: r) σ) := by
  rw [ex_arraylength, ab_o1_s, ar1_17, ab_op_s]
  simp
theorem dal1_18 {M : ab_M} {K : ab_K} {Rt : ab_V → ab_S → Prop} {pc n : Nat} {L : ab_L} {r : List ab_V} {σ : ab_S} {i : Int} : ab_ex ab_G1 M K Rt pc n L (.inl i :: .inr (.inr (.inl 18)) :: r) σ .iaload = (n = 1 ∧ (0 ≤ i ∧ i < 16) ∧ K (pc + 1) L (.inl (σ 18 i) :: r) σ) := by
  rw [ex_iaload, ab_io_s, ar1_18, ab_op_s]
  simp
theorem das1_18 {M : ab_M} {K : ab_K} {Rt : ab_V → ab_S → Prop} {pc n : Nat} {L : ab_L} {r : List ab_V} {σ : ab_S} {i x : Int} : ab_ex ab_G1 M K Rt pc n L (.inl x :: .inl i :: .inr (.inr (.inl 18)) :: r) σ .iastore = (n = 1 ∧ (0 ≤ i ∧ i < 16) ∧ K (pc + 1) L r (ab_up σ 18 i x)) := by
  rw [ex_iastore, ab_iio_s, ar1_18, ab_op_s]
  simp
theorem dln1_18 {M : ab_M} {K : ab_K} {Rt : ab_V → ab_S → Prop} {pc n : Nat} {L : ab_L} {r : List ab_V} {σ : ab_S} : ab_ex ab_G1 M K Rt pc n L (.inr (.inr (.inl 18)) :: r) σ .arraylength = (n = 1 ∧ K (pc + 1) L (.inl 16 :: r) σ) := by
  rw [ex_arraylength, ab_o1_s, ar1_18, ab_op_s]
  simp
theorem dal1_19 {M : ab_M} {K : ab_K} {Rt : ab_V → ab_S → Prop} {pc n : Nat} {L : ab_L} {r : List ab_V} {σ : ab_S} {i : Int} : ab_ex ab_G1 M K Rt pc n L (.inl i :: .inr (.inr (.inl 19)) :: r) σ .iaload = (n = 1 ∧ (0 ≤ i ∧ i < 16) ∧ K (pc + 1) L (.inl (σ 19 i) :: r) σ) := by
  rw [ex_iaload, ab_io_s, ar1_19, ab_op_s]
  simp
theorem das1_19 {M : ab_M} {K : ab_K} {Rt : ab_V → ab_S → Prop} {pc n : Nat} {L : ab_L} {r : List ab_V} {σ : ab_S} {i x : Int} : ab_ex ab_G1 M K Rt pc n L (.inl x :: .inl i :: .inr (.inr (.inl 19)) :: r) σ .iastore = (n = 1 ∧ (0 ≤ i ∧ i < 16) ∧ K (pc + 1) L r (ab_up σ 19 i x)) := by
  rw [ex_iastore, ab_iio_s, ar1_19, ab_op_s]
  simp
theorem dln1_19 {M : ab_M} {K : ab_K} {Rt : ab_V → ab_S → Prop} {pc n : Nat} {L : ab_L} {r : List ab_V} {σ : ab_S} : ab_ex ab_G1 M K Rt pc n L (.inr (.inr (.inl 19)) :: r) σ .arraylength = (n = 1 ∧ K (pc + 1) L (.inl 16 :: r) σ) := by
  rw [ex_arraylength, ab_o1_s, ar1_19, ab_op_s]
  simp
theorem dal1_20 {M : ab_M} {K : ab_K} {Rt : ab_V → ab_S → Prop} {pc n : Nat} {L : ab_L} {r : List ab_V} {σ : ab_S} {i : Int} : ab_ex ab_G1 M K Rt pc n L (.inl i :: .inr (.inr (.inl 20)) :: r) σ .iaload = (n = 1 ∧ (0 ≤ i ∧ i < 16) ∧ K (pc + 1) L (.inl (σ 20 i) :: r) σ) := by
  rw [ex_iaload, ab_io_s, ar1_20, ab_op_s]
  simp
theorem das1_20 {M : ab_M} {K : ab_K} {Rt : ab_V → ab_S → Prop} {pc n : Nat} {L : ab_L} {r : List ab_V} {σ : ab_S} {i x : Int} : ab_ex ab_G1 M K Rt pc n L (.inl x :: .inl i :: .inr (.inr (.inl 20)) :: r) σ .iastore = (n = 1 ∧ (0 ≤ i ∧ i < 16) ∧ K (pc + 1) L r (ab_up σ 20 i x)) := by
  rw [ex_iastore, ab_iio_s, ar1_20, ab_op_s]
  simp
theorem dln1_20 {M : ab_M} {K : ab_K} {Rt : ab_V → ab_S → Prop} {pc n : Nat} {L : ab_L} {r : List ab_V} {σ : ab_S} : ab_ex ab_G1 M K Rt pc n L (.inr (.inr (.inl 20)) :: r) σ .arraylength = (n = 1 ∧ K (pc + 1) L (.inl 16 :: r) σ) := by
  rw [ex_arraylength, ab_o1_s, ar1_20, ab_op_s]
  simp
theorem dal1_22 {M : ab_M} {K : ab_K} {Rt : ab_V → ab_S → Prop} {pc n : Nat} {L : ab_L} {r : List ab_V} {σ : ab_S} {i : Int} : ab_ex ab_G1 M K Rt pc n L (.inl i :: .inr (.inr (.inl 22)) :: r) σ .iaload = (n = 1 ∧ (0 ≤ i ∧ i < 9) ∧ K (pc + 1) L (.inl (σ 22 i) :: r) σ) := by
  rw [ex_iaload, ab_io_s, ar1_22, ab_op_s]
  simp
theorem das1_22 {M : ab_M} {K : ab_K} {Rt : ab_V → ab_S → Prop} {pc n : Nat} {L : ab_L} {r : List ab_V} {σ : ab_S} {i x : Int} : ab_ex ab_G1 M K Rt pc n L (.inl x :: .inl i :: .inr (.inr (.inl 22)) :: r) σ .iastore = (n = 1 ∧ (0 ≤ i ∧ i < 9) ∧ K (pc + 1) L r (ab_up σ 22 i x)) := by
  rw [ex_iastore, ab_iio_s, ar1_22, ab_op_s]
  simp
theorem dln1_22 {M : ab_M} {K : ab_K} {Rt : ab_V → ab_S → Prop} {pc n : Nat} {L : ab_L} {r : List ab_V} {σ : ab_S} : ab_ex ab_G1 M K Rt pc n L (.inr (.inr (.inl 22)) :: r) σ .arraylength = (n = 1 ∧ K (pc + 1) L (.inl 9 :: r) σ) := by
  rw [ex_arraylength, ab_o1_s, ar1_22, ab_op_s]
  simp
theorem dal1_23 {M : ab_M} {K : ab_K} {Rt : ab_V → ab_S → Prop} {pc n : Nat} {L : ab_L} {r : List ab_V} {σ : ab_S} {i : Int} : ab_ex ab_G1 M K Rt pc n L (.inl i :: .inr (.inr (.inl 23)) :: r) σ .iaload = (n = 1 ∧ (0 ≤ i ∧ i < 9) ∧ K (pc + 1) L (.inl (σ 23 i) :: r) σ) := by
  rw [ex_iaload, ab_io_s, ar1_23, ab_op_s]
  simp
theorem das1_23 {M : ab_M} {K : ab_K} {Rt : ab_V → ab_S → Prop} {pc n : Nat} {L : ab_L} {r : List ab_V} {σ : ab_S} {i x : Int} : ab_ex ab_G1 M K Rt pc n L (.inl x :: .inl i :: .inr (.inr (.inl 23)) :: r) σ .iastore = (n = 1 ∧ (0 ≤ i ∧ i < 9) ∧ K (pc + 1) L r (ab_up σ 23 i x)) := by
  rw [ex_iastore, ab_iio_s, ar1_23, ab_op_s]
  simp
theorem dln1_23 {M : ab_M} {K : ab_K} {Rt : ab_V → ab_S → Prop} {pc n : Nat} {L : ab_L} {r : List ab_V} {σ : ab_S} : ab_ex ab_G1 M K Rt pc n L (.inr (.inr (.inl 23)) :: r) σ .arraylength = (n = 1 ∧ K (pc + 1) L (.inl 9 :: r) σ) := by
  rw [ex_arraylength, ab_o1_s, ar1_23, ab_op_s]
  simp
theorem dal1_24 {M : ab_M} {K : ab_K} {Rt : ab_V → ab_S → Prop} {pc n : Nat} {L : ab_L} {r : List ab_V} {σ : ab_S} {i : Int} : ab_ex ab_G1 M K Rt pc n L (.inl i :: .inr (.inr (.inl 24)) :: r) σ .iaload = (n = 1 ∧ (0 ≤ i ∧ i < 9) ∧ K (pc + 1) L (.inl (σ 24 i) :: r) σ) := by
  rw [ex_iaload, ab_io_s, ar1_24, ab_op_s]
  simp
theorem das1_24 {M : ab_M} {K : ab_K} {Rt : ab_V → ab_S → Prop} {pc n : Nat} {L : ab_L} {r : List ab_V} {σ : ab_S} {i x : Int} : ab_ex ab_G1 M K Rt pc n L (.inl x :: .inl i :: .inr (.inr (.inl 24)) :: r) σ .iastore = (n = 1 ∧ (0 ≤ i ∧ i < 9) ∧ K (pc + 1) L r (ab_up σ 24 i x)) := by
  rw [ex_iastore, ab_iio_s, ar1_24, ab_op_s]
  simp
theorem dln1_24 {M : ab_M} {K : ab_K} {Rt : ab_V → ab_S → Prop} {pc n : Nat} {L : ab_L} {r : List ab_V} {σ : ab_S} : ab_ex ab_G1 M K Rt pc n L (.inr (.inr (.inl 24)) :: r) σ .arraylength = (n = 1 ∧ K (pc + 1) L (.inl 9 :: r) σ) := by
  rw [ex_arraylength, ab_o1_s, ar1_24, ab_op_s]
  simp
theorem dal1_25 {M : ab_M} {K : ab_K} {Rt : ab_V → ab_S → Prop} {pc n : Nat} {L : ab_L} {r : List ab_V} {σ : ab_S} {i : Int} : ab_ex ab_G1 M K Rt pc n L (.inl i :: .inr (.inr (.inl 25)) :: r) σ .iaload = (n = 1 ∧ (0 ≤ i ∧ i < 108) ∧ K (pc + 1) L (.inl (σ 25 i) :: r) σ) := by
  rw [ex_iaload, ab_io_s, ar1_25, ab_op_s]
  simp
theorem das1_25 {M : ab_M} {K : ab_K} {Rt : ab_V → ab_S → Prop} {pc n : Nat} {L : ab_L} {r : List ab_V} {σ : ab_S} {i x : Int} : ab_ex ab_G1 M K Rt pc n L (.inl x :: .inl i :: .inr (.inr (.inl 25)) :: r) σ .iastore = (n = 1 ∧ (0 ≤ i ∧ i < 108) ∧ K (pc + 1) L r (ab_up σ 25 i x)) := by
  rw [ex_iastore, ab_iio_s, ar1_25, ab_op_s]
  simp
theorem dln1_25 {M : ab_M} {K : ab_K} {Rt : ab_V → ab_S → Prop} {pc n : Nat} {L : ab_L} {r : List ab_V} {σ : ab_S} : ab_ex ab_G1 M K Rt pc n L (.inr (.inr (.inl 25)) :: r) σ .arraylength = (n = 1 ∧ K (pc + 1) L (.inl 108 :: r) σ) := by
  rw [ex_arraylength, ab_o1_s, ar1_25, ab_op_s]
  simp
theorem dal1_26 {M : ab_M} {K : ab_K} {Rt : ab_V → ab_S → Prop} {pc n : Nat} {L : ab_L} {r : List ab_V} {σ : ab_S} {i : Int} : ab_ex ab_G1 M K Rt pc n L (.inl i :: .inr (.inr (.inl 26)) :: r) σ .iaload = (n = 1 ∧ (0 ≤ i ∧ i < 108) ∧ K (pc + 1) L (.inl (σ 26 i) :: r) σ) := by
  rw [ex_iaload, ab_io_s, ar1_26, ab_op_s]
  simp
theorem das1_26 {M : ab_M} {K : ab_K} {Rt : ab_V → ab_S → Prop} {pc n : Nat} {L : ab_L} {r : List ab_V} {σ : ab_S} {i x : Int} : ab_ex ab_G1 M K Rt pc n L (.inl x :: .inl i :: .inr (.inr (.inl 26)) :: r) σ .iastore = (n = 1 ∧ (0 ≤ i ∧ i < 108) ∧ K (pc + 1) L r (ab_up σ 26 i x)) := by
  rw [ex_iastore, ab_iio_s, ar1_26, ab_op_s]
  simp
theorem dln1_26 {M : ab_M} {K : ab_K} {Rt : ab_V → ab_S → Prop} {pc n : Nat} {L : ab_L} {r : List ab_V} {σ : ab_S} : ab_ex ab_G1 M K Rt pc n L (.inr (.inr (.inl 26)) :: r) σ .arraylength = (n = 1 ∧ K (pc + 1) L (.inl 108 :: r) σ) := by
  rw [ex_arraylength, ab_o1_s, ar1_26, ab_op_s]
  simp
theorem dal1_27 {M : ab_M} {K : ab_K} {Rt : ab_V → ab_S → Prop} {pc n : Nat} {L : ab_L} {r : List ab_V} {σ : ab_S} {i : Int} : ab_ex ab_G1 M K Rt pc n L (.inl i :: .inr (.inr (.inl 27)) :: r) σ .iaload = (n = 1 ∧ (0 ≤ i ∧ i < 108) ∧ K (pc + 1) L (.inl (σ 27 i) :: r) σ) := by
  rw [ex_iaload, ab_io_s, ar1_27, ab_op_s]
  simp
theorem das1_27 {M : ab_M} {K : ab_K} {Rt : ab_V → ab_S → Prop} {pc n : Nat} {L : ab_L} {r : List ab_V} {σ : ab_S} {i x : Int} : ab_ex ab_G1 M K Rt pc n L (.inl x :: .inl i :: .inr (.inr (.inl 27)) :: r) σ .iastore = (n = 1 ∧ (0 ≤ i ∧ i < 108) ∧ K (pc + 1) L r (ab_up σ 27 i x)) := by
  rw [ex_iastore, ab_iio_s, ar1_27, ab_op_s]
  simp
theorem dln1_27 {M : ab_M} {K : ab_K} {Rt : ab_V → ab_S → Prop} {pc n : Nat} {L : ab_L} {r : List ab_V} {σ : ab_S} : ab_ex ab_G1 M K Rt pc n L (.inr (.inr (.inl 27)) :: r) σ .arraylength = (n = 1 ∧ K (pc + 1) L (.inl 108 :: r) σ) := by
  rw [ex_arraylength, ab_o1_s, ar1_27, ab_op_s]
  simp
theorem dal1_29 {M : ab_M} {K : ab_K} {Rt : ab_V → ab_S → Prop} {pc n : Nat} {L : ab_L} {r : List ab_V} {σ : ab_S} {i : Int} : ab_ex ab_G1 M K Rt pc n L (.inl i :: .inr (.inr (.inl 29)) :: r) σ .iaload = (n = 1 ∧ (0 ≤ i ∧ i < 144) ∧ K (pc + 1) L (.inl (σ 29 i) :: r) σ) := by
  rw [ex_iaload, ab_io_s, ar1_29, ab_op_s]
  simp
theorem das1_29 {M : ab_M} {K : ab_K} {Rt : ab_V → ab_S → Prop} {pc n : Nat} {L : ab_L} {r : List ab_V} {σ : ab_S} {i x : Int} : ab_ex ab_G1 M K Rt pc n L (.inl x :: .inl i :: .inr (.inr (.inl 29)) :: r) σ .iastore = (n = 1 ∧ (0 ≤ i ∧ i < 144) ∧ K (pc + 1) L r (ab_up σ 29 i x)) := by
  rw [ex_iastore, ab_iio_s, ar1_29, ab_op_s]
  simp
theorem dln1_29 {M : ab_M} {K : ab_K} {Rt : ab_V → ab_S → Prop} {pc n : Nat} {L : ab_L} {r : List ab_V} {σ : ab_S} : ab_ex ab_G1 M K Rt pc n L (.inr (.inr (.inl 29)) :: r) σ .arraylength = (n = 1 ∧ K (pc + 1) L (.inl 144 :: r) σ) := by
  rw [ex_arraylength, ab_o1_s, ar1_29, ab_op_s]
  simp
theorem dal1_30 {M : ab_M} {K : ab_K} {Rt : ab_V → ab_S → Prop} {pc n : Nat} {L : ab_L} {r : List ab_V} {σ : ab_S} {i : Int} : ab_ex ab_G1 M K Rt pc n L (.inl i :: .inr (.inr (.inl 30)) :: r) σ .baload = (n = 1 ∧ (0 ≤ i ∧ i < 16) ∧ K (pc + 1) L (.inl (σ 30 i) :: r) σ) := by
  rw [ex_baload, ab_io_s, ar1_30, ab_op_s]
  simp
theorem das1_30 {M : ab_M} {K : ab_K} {Rt : ab_V → ab_S → Prop} {pc n : Nat} {L : ab_L} {r : List ab_V} {σ : ab_S} {i x : Int} : ab_ex ab_G1 M K Rt pc n L (.inl x :: .inl i :: .inr (.inr (.inl 30)) :: r) σ .bastore = (n = 1 ∧ (x = 0 ∨ x = 1) ∧ (0 ≤ i ∧ i < 16) ∧ K (pc + 1) L r (ab_up σ 30 i x)) := by
  rw [ex_bastore, ab_iio_s, ar1_30, ab_op_s]
  simp
theorem dln1_30 {M : ab_M} {K : ab_K} {Rt : ab_V → ab_S → Prop} {pc n : Nat} {L : ab_L} {r : List ab_V} {σ : ab_S} : ab_ex ab_G1 M K Rt pc n L (.inr (.inr (.inl 30)) :: r) σ .arraylength = (n = 1 ∧ K (pc + 1) L (.inl 16 :: r) σ) := by
  rw [ex_arraylength, ab_o1_s, ar1_30, ab_op_s]
  simp
theorem dal1_31 {M : ab_M} {K : ab_K} {Rt : ab_V → ab_S → Prop} {pc n : Nat} {L : ab_L} {r : List ab_V} {σ : ab_S} {i : Int} : ab_ex ab_G1 M K Rt pc n L (.inl i :: .inr (.inr (.inl 31)) :: r) σ .iaload = (n = 1 ∧ (0 ≤ i ∧ i < 12) ∧ K (pc + 1) L (.inl (σ 31 i) :: r) σ) := by
  rw [ex_iaload, ab_io_s, ar1_31, ab_op_s]
  simp
theorem das1_31 {M : ab_M} {K : ab_K} {Rt : ab_V → ab_S → Prop} {pc n : Nat} {L : ab_L} {r : List ab_V} {σ : ab_S} {i x : Int} : ab_ex ab_G1 M K Rt pc n L (.inl x :: .inl i :: .inr (.inr (.inl 31)) :: r) σ .iastore = (n = 1 ∧ (0 ≤ i ∧ i < 12) ∧ K (pc + 1) L r (ab_up σ 31 i x)) := by
  rw [ex_iastore, ab_iio_s, ar1_31, ab_op_s]
  simp
theorem dln1_31 {M : ab_M} {K : ab_K} {Rt : ab_V → ab_S → Prop} {pc n : Nat} {L : ab_L} {r : List ab_V} {σ : ab_S} : ab_ex ab_G1 M K Rt pc n L (.inr (.inr (.inl 31)) :: r) σ .arraylength = (n = 1 ∧ K (pc + 1) L (.inl 12 :: r) σ) := by
  rw [ex_arraylength, ab_o1_s, ar1_31, ab_op_s]
  simp
theorem dal1_32 {M : ab_M} {K : ab_K} {Rt : ab_V → ab_S → Prop} {pc n : Nat} {L : ab_L} {r : List ab_V} {σ : ab_S} {i : Int} : ab_ex ab_G1 M K Rt pc n L (.inl i :: .inr (.inr (.inl 32)) :: r) σ .iaload = (n = 1 ∧ (0 ≤ i ∧ i < 12) ∧ K (pc + 1) L (.inl (σ 32 i) :: r) σ) := by
  rw [ex_iaload, ab_io_s, ar1_32, ab_op_s]
  simp
theorem das1_32 {M : ab_M} {K : ab_K} {Rt : ab_V → ab_S → Prop} {pc n : Nat} {L : ab_L} {r : List ab_V} {σ : ab_S} {i x : Int} : ab_ex ab_G1 M K Rt pc n L (.inl x :: .inl i :: .inr (.inr (.inl 32)) :: r) σ .iastore = (n = 1 ∧ (0 ≤ i ∧ i < 12) ∧ K (pc + 1) L r (ab_up σ 32 i x)) := by
  rw [ex_iastore, ab_iio_s, ar1_32, ab_op_s]
  simp
theorem dln1_32 {M : ab_M} {K : ab_K} {Rt : ab_V → ab_S → Prop} {pc n : Nat} {L : ab_L} {r : List ab_V} {σ : ab_S} : ab_ex ab_G1 M K Rt pc n L (.inr (.inr (.inl 32)) :: r) σ .arraylength = (n = 1 ∧ K (pc + 1) L (.inl 12 :: r) σ) := by
  rw [ex_arraylength, ab_o1_s, ar1_32, ab_op_s]
  simp
theorem dal1_33 {M : ab_M} {K : ab_K} {Rt : ab_V → ab_S → Prop} {pc n : Nat} {L : ab_L} {r : List ab_V} {σ : ab_S} {i : Int} : ab_ex ab_G1 M K Rt pc n L (.inl i :: .inr (.inr (.inl 33)) :: r) σ .iaload = (n = 1 ∧ (0 ≤ i ∧ i < 12) ∧ K (pc + 1) L (.inl (σ 33 i) :: r) σ) := by
  rw [ex_iaload, ab_io_s, ar1_33, ab_op_s]
  simp
theorem das1_33 {M : ab_M} {K : ab_K} {Rt : ab_V → ab_S → Prop} {pc n : Nat} {L : ab_L} {r : List ab_V} {σ : ab_S} {i x : Int} : ab_ex ab_G1 M K Rt pc n L (.inl x :: .inl i :: .inr (.inr (.inl 33)) :: r) σ .iastore = (n = 1 ∧ (0 ≤ i ∧ i < 12) ∧ K (pc + 1) L r (ab_up σ 33 i x)) := by
  rw [ex_iastore, ab_iio_s, ar1_33, ab_op_s]
  simp
theorem dln1_33 {M : ab_M} {K : ab_K} {Rt : ab_V → ab_S → Prop} {pc n : Nat} {L : ab_L} {r : List ab_V} {σ : ab_S} : ab_ex ab_G1 M K Rt pc n L (.inr (.inr (.inl 33)) :: r) σ .arraylength = (n = 1 ∧ K (pc + 1) L (.inl 12 :: r) σ) := by
  rw [ex_arraylength, ab_o1_s, ar1_33, ab_op_s]
  simp
theorem dal1_35 {M : ab_M} {K : ab_K} {Rt : ab_V → ab_S → Prop} {pc n : Nat} {L : ab_L} {r : List ab_V} {σ : ab_S} {i : Int} : ab_ex ab_G1 M K Rt pc n L (.inl i :: .inr (.inr (.inl 35)) :: r) σ .iaload = (n = 1 ∧ (0 ≤ i ∧ i < 4) ∧ K (pc + 1) L (.inl (σ 35 i) :: r) σ) := by
  rw [ex_iaload, ab_io_s, ar1_35, ab_op_s]
  simp
theorem das1_35 {M : ab_M} {K : ab_K} {Rt : ab_V → ab_S → Prop} {pc n : Nat} {L : ab_L} {r : List ab_V} {σ : ab_S} {i x : Int} : ab_ex ab_G1 M K Rt pc n L (.inl x :: .inl i :: .inr (.inr (.inl 35)) :: r) σ .iastore = (n = 1 ∧ (0 ≤ i ∧ i < 4) ∧ K (pc + 1) L r (ab_up σ 35 i x)) := by
  rw [ex_iastore, ab_iio_s, ar1_35, ab_op_s]
  simp
theorem dln1_35 {M : ab_M} {K : ab_K} {Rt : ab_V → ab_S → Prop} {pc n : Nat} {L : ab_L} {r : List ab_V} {σ : ab_S} : ab_ex ab_G1 M K Rt pc n L (.inr (.inr (.inl 35)) :: r) σ .arraylength = (n = 1 ∧ K (pc + 1) L (.inl 4 :: r) σ) := by
  rw [ex_arraylength, ab_o1_s, ar1_35, ab_op_s]
  simp
theorem dal1_36 {M : ab_M} {K : ab_K} {Rt : ab_V → ab_S → Prop} {pc n : Nat} {L : ab_L} {r : List ab_V} {σ : ab_S} {i : Int} : ab_ex ab_G1 M K Rt pc n L (.inl i :: .inr (.inr (.inl 36)) :: r) σ .iaload = (n = 1 ∧ (0 ≤ i ∧ i < 4) ∧ K (pc + 1) L (.inl (σ 36 i) :: r) σ) := by
  rw [ex_iaload, ab_io_s, ar1_36, ab_op_s]
  simp
theorem das1_36 {M : ab_M} {K : ab_K} {Rt : ab_V → ab_S → Prop} {pc n : Nat} {L : ab_L} {r : List ab_V} {σ : ab_S} {i x : Int} : ab_ex ab_G1 M K Rt pc n L (.inl x :: .inl i :: .inr (.inr (.inl 36)) :: r) σ .iastore = (n = 1 ∧ (0 ≤ i ∧ i < 4) ∧ K (pc + 1) L r (ab_up σ 36 i x)) := by
  rw [ex_iastore, ab_iio_s, ar1_36, ab_op_s]
  simp
theorem dln1_36 {M : ab_M} {K : ab_K} {Rt : ab_V → ab_S → Prop} {pc n : Nat} {L : ab_L} {r : List ab_V} {σ : ab_S} : ab_ex ab_G1 M K Rt pc n L (.inr (.inr (.inl 36)) :: r) σ .arraylength = (n = 1 ∧ K (pc + 1) L (.inl 4 :: r) σ) := by
  rw [ex_arraylength, ab_o1_s, ar1_36, ab_op_s]
  simp
theorem dal1_37 {M : ab_M} {K : ab_K} {Rt : ab_V → ab_S → Prop} {pc n : Nat} {L : ab_L} {r : List ab_V} {σ : ab_S} {i : Int} : ab_ex ab_G1 M K Rt pc n L (.inl i :: .inr (.inr (.inl 37)) :: r) σ .iaload = (n = 1 ∧ (0 ≤ i ∧ i < 4) ∧ K (pc + 1) L (.inl (σ 37 i) :: r) σ) := by
  rw [ex_iaload, ab_io_s, ar1_37, ab_op_s]
  simp
theorem das1_37 {M : ab_M} {K : ab_K} {Rt : ab_V → ab_S → Prop} {pc n : Nat} {L : ab_L} {r : List ab_V} {σ : ab_S} {i x : Int} : ab_ex ab_G1 M K Rt pc n L (.inl x :: .inl i :: .inr (.inr (.inl 37)) :: r) σ .iastore = (n = 1 ∧ (0 ≤ i ∧ i < 4) ∧ K (pc + 1) L r (ab_up σ 37 i x)) := by
  rw [ex_iastore, ab_iio_s, ar1_37, ab_op_s]
  simp
theorem dln1_37 {M : ab_M} {K : ab_K} {Rt : ab_V → ab_S → Prop} {pc n : Nat} {L : ab_L} {r : List ab_V} {σ : ab_S} : ab_ex ab_G1 M K Rt pc n L (.inr (.inr (.inl 37)) :: r) σ .arraylength = (n = 1 ∧ K (pc + 1) L (.inl 4 :: r) σ) := by
  rw [ex_arraylength, ab_o1_s, ar1_37, ab_op_s]
  simp
theorem dal1_38 {M : ab_M} {K : ab_K} {Rt : ab_V → ab_S → Prop} {pc n : Nat} {L : ab_L} {r : List ab_V} {σ : ab_S} {i : Int} : ab_ex ab_G1 M K Rt pc n L (.inl i :: .inr (.inr (.inl 38)) :: r) σ .iaload = (n = 1 ∧ (0 ≤ i ∧ i < 4) ∧ K (pc + 1) L (.inl (σ 38 i) :: r) σ) := by
  rw [ex_iaload, ab_io_s, ar1_38, ab_op_s]
  simp
theorem das1_38 {M : ab_M} {K : ab_K} {Rt : ab_V → ab_S → Prop} {pc n : Nat} {L : ab_L} {r : List ab_V} {σ : ab_S} {i x : Int} : ab_ex ab_G1 M K Rt pc n L (.inl x :: .inl i :: .inr (.inr (.inl 38)) :: r) σ .iastore = (n = 1 ∧ (0 ≤ i ∧ i < 4) ∧ K (pc + 1) L r (ab_up σ 38 i x)) := by
  rw [ex_iastore, ab_iio_s, ar1_38, ab_op_s]
  simp
theorem dln1_38 {M : ab_M} {K : ab_K} {Rt : ab_V → ab_S → Prop} {pc n : Nat} {L : ab_L} {r : List ab_V} {σ : ab_S} : ab_ex ab_G1 M K Rt pc n L (.inr (.inr (.inl 38)) :: r) σ .arraylength = (n = 1 ∧ K (pc + 1) L (.inl 4 :: r) σ) := by
  rw [ex_arraylength, ab_o1_s, ar1_38, ab_op_s]
  simp
theorem dal1_39 {M : ab_M} {K : ab_K} {Rt : ab_V → ab_S → Prop} {pc n : Nat} {L : ab_L} {r : List ab_V} {σ : ab_S} {i : Int} : ab_ex ab_G1 M K Rt pc n L (.inl i :: .inr (.inr (.inl 39)) :: r) σ .iaload = (n = 1 ∧ (0 ≤ i ∧ i < 4) ∧ K (pc + 1) L (.inl (σ 39 i) :: r) σ) := by
  rw [ex_iaload, ab_io_s, ar1_39, ab_op_s]
  simp
theorem das1_39 {M : ab_M} {K : ab_K} {Rt : ab_V → ab_S → Prop} {pc n : Nat} {L : ab_L} {r : List ab_V} {σ : ab_S} {i x : Int} : ab_ex ab_G1 M K Rt pc n L (.inl x :: .inl i :: .inr (.inr (.inl 39)) :: r) σ .iastore = (n = 1 ∧ (0 ≤ i ∧ i < 4) ∧ K (pc + 1) L r (ab_up σ 39 i x)) := by
  rw [ex_iastore, ab_iio_s, ar1_39, ab_op_s]
  simp
theorem dln1_39 {M : ab_M} {K : ab_K} {Rt : ab_V → ab_S → Prop} {pc n : Nat} {L : ab_L} {r : List ab_V} {σ : ab_S} : ab_ex ab_G1 M K Rt pc n L (.inr (.inr (.inl 39)) :: r) σ .arraylength = (n = 1 ∧ K (pc + 1) L (.inl 4 :: r) σ) := by
  rw [ex_arraylength, ab_o1_s, ar1_39, ab_op_s]
  simp
theorem dal1_42 {M : ab_M} {K : ab_K} {Rt : ab_V → ab_S → Prop} {pc n : Nat} {L : ab_L} {r : List ab_V} {σ : ab_S} {i : Int} : ab_ex ab_G1 M K Rt pc n L (.inl i :: .inr (.inr (.inl 42)) :: r) σ .iaload = (n = 1 ∧ (0 ≤ i ∧ i < 4) ∧ K (pc + 1) L (.inl (σ 42 i) :: r) σ) := by
  rw [ex_iaload, ab_io_s, ar1_42, ab_op_s]
  simp
theorem das1_42 {M : ab_M} {K : ab_K} {Rt : ab_V → ab_S → Prop} {pc n : Nat} {L : ab_L} {r : List ab_V} {σ : ab_S} {i x : Int} : ab_ex ab_G1 M K Rt pc n L (.inl x :: .inl i :: .inr (.inr (.inl 42)) :: r) σ .iastore = (n = 1 ∧ (0 ≤ i ∧ i < 4) ∧ K (pc + 1) L r (ab_up σ 42 i x)) := by
  rw [ex_iastore, ab_iio_s, ar1_42, ab_op_s]
  simp
theorem dln1_42 {M : ab_M} {K : ab_K} {Rt : ab_V → ab_S → Prop} {pc n : Nat} {L : ab_L} {r : List ab_V} {σ : ab_S} : ab_ex ab_G1 M K Rt pc n L (.inr (.inr (.inl 42)) :: r) σ .arraylength = (n = 1 ∧ K (pc + 1) L (.inl 4 :: r) σ) := by
  rw [ex_arraylength, ab_o1_s, ar1_42, ab_op_s]
  simp
theorem dal1_43 {M : ab_M} {K : ab_K} {Rt : ab_V → ab_S → Prop} {pc n : Nat} {L : ab_L} {r : List ab_V} {σ : ab_S} {i : Int} : ab_ex ab_G1 M K Rt pc n L (.inl i :: .inr (.inr (.inl 43)) :: r) σ .iaload = (n = 1 ∧ (0 ≤ i ∧ i < 4) ∧ K (pc + 1) L (.inl (σ 43 i) :: r) σ) := by
  rw [ex_iaload, ab_io_s, ar1_43, ab_op_s]
  simp
theorem das1_43 {M : ab_M} {K : ab_K} {Rt : ab_V → ab_S → Prop} {pc n : Nat} {L : ab_L} {r : List ab_V} {σ : ab_S} {i x : Int} : ab_ex ab_G1 M K Rt pc n L (.inl x :: .inl i :: .inr (.inr (.inl 43)) :: r) σ .iastore = (n = 1 ∧ (0 ≤ i ∧ i < 4) ∧ K (pc + 1) L r (ab_up σ 43 i x)) := by
  rw [ex_iastore, ab_iio_s, ar1_43, ab_op_s]
  simp
theorem dln1_43 {M : ab_M} {K : ab_K} {Rt : ab_V → ab_S → Prop} {pc n : Nat} {L : ab_L} {r : List ab_V} {σ : ab_S} : ab_ex ab_G1 M K Rt pc n L (.inr (.inr (.inl 43)) :: r) σ .arraylength = (n = 1 ∧ K (pc + 1) L (.inl 4 :: r) σ) := by
  rw [ex_arraylength, ab_o1_s, ar1_43, ab_op_s]
  simp
theorem dal1_44 {M : ab_M} {K : ab_K} {Rt : ab_V → ab_S → Prop} {pc n : Nat} {L : ab_L} {r : List ab_V} {σ : ab_S} {i : Int} : ab_ex ab_G1 M K Rt pc n L (.inl i :: .inr (.inr (.inl 44)) :: r) σ .iaload = (n = 1 ∧ (0 ≤ i ∧ i < 4) ∧ K (pc + 1) L (.inl (σ 44 i) :: r) σ) := by
  rw [ex_iaload, ab_io_s, ar1_44, ab_op_s]
  simp
theorem das1_44 {M : ab_M} {K : ab_K} {Rt : ab_V → ab_S → Prop} {pc n : Nat} {L : ab_L} {r : List ab_V} {σ : ab_S} {i x : Int} : ab_ex ab_G1 M K Rt pc n L (.inl x :: .inl i :: .inr (.inr (.inl 44)) :: r) σ .iastore = (n = 1 ∧ (0 ≤ i ∧ i < 4) ∧ K (pc + 1) L r (ab_up σ 44 i x)) := by
  rw [ex_iastore, ab_iio_s, ar1_44, ab_op_s]
  simp
theorem dln1_44 {M : ab_M} {K : ab_K} {Rt : ab_V → ab_S → Prop} {pc n : Nat} {L : ab_L} {r : List ab_V} {σ : ab_S} : ab_ex ab_G1 M K Rt pc n L (.inr (.inr (.inl 44)) :: r) σ .arraylength = (n = 1 ∧ K (pc + 1) L (.inl 4 :: r) σ) := by
  rw [ex_arraylength, ab_o1_s, ar1_44, ab_op_s]
  simp
theorem dal1_45 {M : ab_M} {K : ab_K} {Rt : ab_V → ab_S → Prop} {pc n : Nat} {L : ab_L} {r : List ab_V} {σ : ab_S} {i : Int} : ab_ex ab_G1 M K Rt pc n L (.inl i :: .inr (.inr (.inl 45)) :: r) σ .iaload = (n = 1 ∧ (0 ≤ i ∧ i < 4) ∧ K (pc + 1) L (.inl (σ 45 i) :: r) σ) := by
  rw [ex_iaload, ab_io_s, ar1_45, ab_op_s]
  simp
theorem das1_45 {M : ab_M} {K : ab_K} {Rt : ab_V → ab_S → Prop} {pc n : Nat} {L : ab_L} {r : List ab_V} {σ : ab_S} {i x : Int} : ab_ex ab_G1 M K Rt pc n L (.inl x :: .inl i :: .inr (.inr (.inl 45)) :: r) σ .iastore = (n = 1 ∧ (0 ≤ i ∧ i < 4) ∧ K (pc + 1) L r (ab_up σ 45 i x)) := by
  rw [ex_iastore, ab_iio_s, ar1_45, ab_op_s]
  simp
theorem dln1_45 {M : ab_M} {K : ab_K} {Rt : ab_V → ab_S → Prop} {pc n : Nat} {L : ab_L} {r : List ab_V} {σ : ab_S} : ab_ex ab_G1 M K Rt pc n L (.inr (.inr (.inl 45)) :: r) σ .arraylength = (n = 1 ∧ K (pc + 1) L (.inl 4 :: r) σ) := by
  rw [ex_arraylength, ab_o1_s, ar1_45, ab_op_s]
  simp
theorem dal1_46 {M : ab_M} {K : ab_K} {Rt : ab_V → ab_S → Prop} {pc n : Nat} {L : ab_L} {r : List ab_V} {σ : ab_S} {i : Int} : ab_ex ab_G1 M K Rt pc n L (.inl i :: .inr (.inr (.inl 46)) :: r) σ .iaload = (n = 1 ∧ (0 ≤ i ∧ i < 4) ∧ K (pc + 1) L (.inl (σ 46 i) :: r) σ) := by
  rw [ex_iaload, ab_io_s, ar1_46, ab_op_s]
  simp
theorem das1_46 {M : ab_M} {K : ab_K} {Rt : ab_V → ab_S → Prop} {pc n : Nat} {L : ab_L} {r : List ab_V} {σ : ab_S} {i x : Int} : ab_ex ab_G1 M K Rt pc n L (.inl x :: .inl i :: .inr (.inr (.inl 46)) :: r) σ .iastore = (n = 1 ∧ (0 ≤ i ∧ i < 4) ∧ K (pc + 1) L r (ab_up σ 46 i x)) := by
  rw [ex_iastore, ab_iio_s, ar1_46, ab_op_s]
  simp
theorem dln1_46 {M : ab_M} {K : ab_K} {Rt : ab_V → ab_S → Prop} {pc n : Nat} {L : ab_L} {r : List ab_V} {σ : ab_S} : ab_ex ab_G1 M K Rt pc n L (.inr (.inr (.inl 46)) :: r) σ .arraylength = (n = 1 ∧ K (pc + 1) L (.inl 4 :: r) σ) := by
  rw [ex_arraylength, ab_o1_s, ar1_46, ab_op_s]
  simp
theorem dal1_48 {M : ab_M} {K : ab_K} {Rt : ab_V → ab_S → Prop} {pc n : Nat} {L : ab_L} {r : List ab_V} {σ : ab_S} {i : Int} : ab_ex ab_G1 M K Rt pc n L (.inl i :: .inr (.inr (.inl 48)) :: r) σ .iaload = (n = 1 ∧ (0 ≤ i ∧ i < 4) ∧ K (pc + 1) L (.inl (σ 48 i) :: r) σ) := by
  rw [ex_iaload, ab_io_s, ar1_48, ab_op_s]
  simp
theorem das1_48 {M : ab_M} {K : ab_K} {Rt : ab_V → ab_S → Prop} {pc n : Nat} {L : ab_L} {r : List ab_V} {σ : ab_S} {i x : Int} : ab_ex ab_G1 M K Rt pc n L (.inl x :: .inl i :: .inr (.inr (.inl 48)) :: r) σ .iastore = (n = 1 ∧ (0 ≤ i ∧ i < 4) ∧ K (pc + 1) L r (ab_up σ 48 i x)) := by
  rw [ex_iastore, ab_iio_s, ar1_48, ab_op_s]
  simp
theorem dln1_48 {M : ab_M} {K : ab_K} {Rt : ab_V → ab_S → Prop} {pc n : Nat} {L : ab_L} {r : List ab_V} {σ : ab_S} : ab_ex ab_G1 M K Rt pc n L (.inr (.inr (.inl 48)) :: r) σ .arraylength = (n = 1 ∧ K (pc + 1) L (.inl 4 :: r) σ) := by
  rw [ex_arraylength, ab_o1_s, ar1_48, ab_op_s]
  simp
theorem dal1_49 {M : ab_M} {K : ab_K} {Rt : ab_V → ab_S → Prop} {pc n : Nat} {L : ab_L} {r : List ab_V} {σ : ab_S} {i : Int} : ab_ex ab_G1 M K Rt pc n L (.inl i :: .inr (.inr (.inl 49)) :: r) σ .iaload = (n = 1 ∧ (0 ≤ i ∧ i < 4) ∧ K (pc + 1) L (.inl (σ 49 i) :: r) σ) := by
  rw [ex_iaload, ab_io_s, ar1_49, ab_op_s]
  simp
theorem das1_49 {M : ab_M} {K : ab_K} {Rt : ab_V → ab_S → Prop} {pc n : Nat} {L : ab_L} {r : List ab_V} {σ : ab_S} {i x : Int} : ab_ex ab_G1 M K Rt pc n L (.inl x :: .inl i :: .inr (.inr (.inl 49)) :: r) σ .iastore = (n = 1 ∧ (0 ≤ i ∧ i < 4) ∧ K (pc + 1) L r (ab_up σ 49 i x)) := by
  rw [ex_iastore, ab_iio_s, ar1_49, ab_op_s]
  simp
theorem dln1_49 {M : ab_M} {K : ab_K} {Rt : ab_V → ab_S → Prop} {pc n : Nat} {L : ab_L} {r : List ab_V} {σ : ab_S} : ab_ex ab_G1 M K Rt pc n L (.inr (.inr (.inl 49)) :: r) σ .arraylength = (n = 1 ∧ K (pc + 1) L (.inl 4 :: r) σ) := by
  rw [ex_arraylength, ab_o1_s, ar1_49, ab_op_s]
  simp
theorem dal1_50 {M : ab_M} {K : ab_K} {Rt : ab_V → ab_S → Prop} {pc n : Nat} {L : ab_L} {r : List ab_V} {σ : ab_S} {i : Int} : ab_ex ab_G1 M K Rt pc n L (.inl i :: .inr (.inr (.inl 50)) :: r) σ .iaload = (n = 1 ∧ (0 ≤ i ∧ i < 4) ∧ K (pc + 1) L (.inl (σ 50 i) :: r) σ) := by
  rw [ex_iaload, ab_io_s, ar1_50, ab_op_s]
  simp
theorem das1_50 {M : ab_M} {K : ab_K} {Rt : ab_V → ab_S → Prop} {pc n : Nat} {L : ab_L} {r : List ab_V} {σ : ab_S} {i x : Int} : ab_ex ab_G1 M K Rt pc n L (.inl x :: .inl i :: .inr (.inr (.inl 50)) :: r) σ .iastore = (n = 1 ∧ (0 ≤ i ∧ i < 4) ∧ K (pc + 1) L r (ab_up σ 50 i x)) := by
  rw [ex_iastore, ab_iio_s, ar1_50, ab_op_s]
  simp
theorem dln1_50 {M : ab_M} {K : ab_K} {Rt : ab_V → ab_S → Prop} {pc n : Nat} {L : ab_L} {r : List ab_V} {σ : ab_S} : ab_ex ab_G1 M K Rt pc n L (.inr (.inr (.inl 50)) :: r) σ .arraylength = (n = 1 ∧ K (pc + 1) L (.inl 4 :: r) σ) := by
  rw [ex_arraylength, ab_o1_s, ar1_50, ab_op_s]
  simp
theorem dal1_51 {M : ab_M} {K : ab_K} {Rt : ab_V → ab_S → Prop} {pc n : Nat} {L : ab_L} {r : List ab_V} {σ : ab_S} {i : Int} : ab_ex ab_G1 M K Rt pc n L (.inl i :: .inr (.inr (.inl 51)) :: r) σ .iaload = (n = 1 ∧ (0 ≤ i ∧ i < 4) ∧ K (pc + 1) L (.inl (σ 51 i) :: r) σ) := by
  rw [ex_iaload, ab_io_s, ar1_51, ab_op_s]
  simp
theorem das1_51 {M : ab_M} {K : ab_K} {Rt : ab_V → ab_S → Prop} {pc n : Nat} {L : ab_L} {r : List ab_V} {σ : ab_S} {i x : Int} : ab_ex ab_G1 M K Rt pc n L (.inl x :: .inl i :: .inr (.inr (.inl 51)) :: r) σ .iastore = (n = 1 ∧ (0 ≤ i ∧ i < 4) ∧ K (pc + 1) L r (ab_up σ 51 i x)) := by
  rw [ex_iastore, ab_iio_s, ar1_51, ab_op_s]
  simp
theorem dln1_51 {M : ab_M} {K : ab_K} {Rt : ab_V → ab_S → Prop} {pc n : Nat} {L : ab_L} {r : List ab_V} {σ : ab_S} : ab_ex ab_G1 M K Rt pc n L (.inr (.inr (.inl 51)) :: r) σ .arraylength = (n = 1 ∧ K (pc + 1) L (.inl 4 :: r) σ) := by
  rw [ex_arraylength, ab_o1_s, ar1_51, ab_op_s]
  simp
theorem dal1_52 {M : ab_M} {K : ab_K} {Rt : ab_V → ab_S → Prop} {pc n : Nat} {L : ab_L} {r : List ab_V} {σ : ab_S} {i : Int} : ab_ex ab_G1 M K Rt pc n L (.inl i :: .inr (.inr (.inl 52)) :: r) σ .iaload = (n = 1 ∧ (0 ≤ i ∧ i < 4) ∧ K (pc + 1) L (.inl (σ 52 i) :: r) σ) := by
  rw [ex_iaload, ab_io_s, ar1_52, ab_op_s]
  simp
theorem das1_52 {M : ab_M} {K : ab_K} {Rt : ab_V → ab_S → Prop} {pc n : Nat} {L : ab_L} {r : List ab_V} {σ : ab_S} {i x : Int} : ab_ex ab_G1 M K Rt pc n L (.inl x :: .inl i :: .inr (.inr (.inl 52)) :: r) σ .iastore = (n = 1 ∧ (0 ≤ i ∧ i < 4) ∧ K (pc + 1) L r (ab_up σ 52 i x)) := by
  rw [ex_iastore, ab_iio_s, ar1_52, ab_op_s]
  simp
theorem dln1_52 {M : ab_M} {K : ab_K} {Rt : ab_V → ab_S → Prop} {pc n : Nat} {L : ab_L} {r : List ab_V} {σ : ab_S} : ab_ex ab_G1 M K Rt pc n L (.inr (.inr (.inl 52)) :: r) σ .arraylength = (n = 1 ∧ K (pc + 1) L (.inl 4 :: r) σ) := by
  rw [ex_arraylength, ab_o1_s, ar1_52, ab_op_s]
  simp
theorem dal1_54 {M : ab_M} {K : ab_K} {Rt : ab_V → ab_S → Prop} {pc n : Nat} {L : ab_L} {r : List ab_V} {σ : ab_S} {i : Int} : ab_ex ab_G1 M K Rt pc n L (.inl i :: .inr (.inr (.inl 54)) :: r) σ .iaload = (n = 1 ∧ (0 ≤ i ∧ i < 4) ∧ K (pc + 1) L (.inl (σ 54 i) :: r) σ) := by
  rw [ex_iaload, ab_io_s, ar1_54, ab_op_s]
  simp
theorem das1_54 {M : ab_M} {K : ab_K} {Rt : ab_V → ab_S → Prop} {pc n : Nat} {L : ab_L} {r : List ab_V} {σ : ab_S} {i x : Int} : ab_ex ab_G1 M K Rt pc n L (.inl x :: .inl i :: .inr (.inr (.inl 54)) :: r) σ .iastore = (n = 1 ∧ (0 ≤ i ∧ i < 4) ∧ K (pc + 1) L r (ab_up σ 54 i x)) := by
  rw [ex_iastore, ab_iio_s, ar1_54, ab_op_s]
  simp
theorem dln1_54 {M : ab_M} {K : ab_K} {Rt : ab_V → ab_S → Prop} {pc n : Nat} {L : ab_L} {r : List ab_V} {σ : ab_S} : ab_ex ab_G1 M K Rt pc n L (.inr (.inr (.inl 54)) :: r) σ .arraylength = (n = 1 ∧ K (pc + 1) L (.inl 4 :: r) σ) := by
  rw [ex_arraylength, ab_o1_s, ar1_54, ab_op_s]
  simp
theorem dal1_55 {M : ab_M} {K : ab_K} {Rt : ab_V → ab_S → Prop} {pc n : Nat} {L : ab_L} {r : List ab_V} {σ : ab_S} {i : Int} : ab_ex ab_G1 M K Rt pc n L (.inl i :: .inr (.inr (.inl 55)) :: r) σ .iaload = (n = 1 ∧ (0 ≤ i ∧ i < 4) ∧ K (pc + 1) L (.inl (σ 55 i) :: r) σ) := by
  rw [ex_iaload, ab_io_s, ar1_55, ab_op_s]
  simp
theorem das1_55 {M : ab_M} {K : ab_K} {Rt : ab_V → ab_S → Prop} {pc n : Nat} {L : ab_L} {r : List ab_V} {σ : ab_S} {i x : Int} : ab_ex ab_G1 M K Rt pc n L (.inl x :: .inl i :: .inr (.inr (.inl 55)) :: r) σ .iastore = (n = 1 ∧ (0 ≤ i ∧ i < 4) ∧ K (pc + 1) L r (ab_up σ 55 i x)) := by
  rw [ex_iastore, ab_iio_s, ar1_55, ab_op_s]
  simp
theorem dln1_55 {M : ab_M} {K : ab_K} {Rt : ab_V → ab_S → Prop} {pc n : Nat} {L : ab_L} {r : List ab_V} {σ : ab_S} : ab_ex ab_G1 M K Rt pc n L (.inr (.inr (.inl 55)) :: r) σ .arraylength = (n = 1 ∧ K (pc + 1) L (.inl 4 :: r) σ) := by
  rw [ex_arraylength, ab_o1_s, ar1_55, ab_op_s]
  simp
theorem dal1_56 {M : ab_M} {K : ab_K} {Rt : ab_V → ab_S → Prop} {pc n : Nat} {L : ab_L} {r : List ab_V} {σ : ab_S} {i : Int} : ab_ex ab_G1 M K Rt pc n L (.inl i :: .inr (.inr (.inl 56)) :: r) σ .iaload = (n = 1 ∧ (0 ≤ i ∧ i < 4) ∧ K (pc + 1) L (.inl (σ 56 i) :: r) σ) := by
  rw [ex_iaload, ab_io_s, ar1_56, ab_op_s]
  simp
theorem das1_56 {M : ab_M} {K : ab_K} {Rt : ab_V → ab_S → Prop} {pc n : Nat} {L : ab_L} {r : List ab_V} {σ : ab_S} {i x : Int} : ab_ex ab_G1 M K Rt pc n L (.inl x :: .inl i :: .inr (.inr (.inl 56)) :: r) σ .iastore = (n = 1 ∧ (0 ≤ i ∧ i < 4) ∧ K (pc + 1) L r (ab_up σ 56 i x)) := by
  rw [ex_iastore, ab_iio_s, ar1_56, ab_op_s]
  simp
theorem dln1_56 {M : ab_M} {K : ab_K} {Rt : ab_V → ab_S → Prop} {pc n : Nat} {L : ab_L} {r : List ab_V} {σ : ab_S} : ab_ex ab_G1 M K Rt pc n L (.inr (.inr (.inl 56)) :: r) σ .arraylength = (n = 1 ∧ K (pc + 1) L (.inl 4 :: r) σ) := by
  rw [ex_arraylength, ab_o1_s, ar1_56, ab_op_s]
  simp
theorem dal1_57 {M : ab_M} {K : ab_K} {Rt : ab_V → ab_S → Prop} {pc n : Nat} {L : ab_L} {r : List ab_V} {σ : ab_S} {i : Int} : ab_ex ab_G1 M K Rt pc n L (.inl i :: .inr (.inr (.inl 57)) :: r) σ .iaload = (n = 1 ∧ (0 ≤ i ∧ i < 4) ∧ K (pc + 1) L (.inl (σ 57 i) :: r) σ) := by
  rw [ex_iaload, ab_io_s, ar1_57, ab_op_s]
  simp
theorem das1_57 {M : ab_M} {K : ab_K} {Rt : ab_V → ab_S → Prop} {pc n : Nat} {L : ab_L} {r : List ab_V} {σ : ab_S} {i x : Int} : ab_ex ab_G1 M K Rt pc n L (.inl x :: .inl i :: .inr (.inr (.inl 57)) :: r) σ .iastore = (n = 1 ∧ (0 ≤ i ∧ i < 4) ∧ K (pc + 1) L r (ab_up σ 57 i x)) := by
  rw [ex_iastore, ab_iio_s, ar1_57, ab_op_s]
  simp
theorem dln1_57 {M : ab_M} {K : ab_K} {Rt : ab_V → ab_S → Prop} {pc n : Nat} {L : ab_L} {r : List ab_V} {σ : ab_S} : ab_ex ab_G1 M K Rt pc n L (.inr (.inr (.inl 57)) :: r) σ .arraylength = (n = 1 ∧ K (pc + 1) L (.inl 4 :: r) σ) := by
  rw [ex_arraylength, ab_o1_s, ar1_57, ab_op_s]
  simp
theorem dal1_58 {M : ab_M} {K : ab_K} {Rt : ab_V → ab_S → Prop} {pc n : Nat} {L : ab_L} {r : List ab_V} {σ : ab_S} {i : Int} : ab_ex ab_G1 M K Rt pc n L (.inl i :: .inr (.inr (.inl 58)) :: r) σ .iaload = (n = 1 ∧ (0 ≤ i ∧ i < 4) ∧ K (pc + 1) L (.inl (σ 58 i) :: r) σ) := by
  rw [ex_iaload, ab_io_s, ar1_58, ab_op_s]
  simp
theorem das1_58 {M : ab_M} {K : ab_K} {Rt : ab_V → ab_S → Prop} {pc n : Nat} {L : ab_L} {r : List ab_V} {σ : ab_S} {i x : Int} : ab_ex ab_G1 M K Rt pc n L (.inl x :: .inl i :: .inr (.inr (.inl 58)) :: r) σ .iastore = (n = 1 ∧ (0 ≤ i ∧ i < 4) ∧ K (pc + 1) L r (ab_up σ 58 i x)) := by
  rw [ex_iastore, ab_iio_s, ar1_58, ab_op_s]
  simp
theorem dln1_58 {M : ab_M} {K : ab_K} {Rt : ab_V → ab_S → Prop} {pc n : Nat} {L : ab_L} {r : List ab_V} {σ : ab_S} : ab_ex ab_G1 M K Rt pc n L (.inr (.inr (.inl 58)) :: r) σ .arraylength = (n = 1 ∧ K (pc + 1) L (.inl 4 :: r) σ) := by
  rw [ex_arraylength, ab_o1_s, ar1_58, ab_op_s]
  simp
theorem dal1_60 {M : ab_M} {K : ab_K} {Rt : ab_V → ab_S → Prop} {pc n : Nat} {L : ab_L} {r : List ab_V} {σ : ab_S} {i : Int} : ab_ex ab_G1 M K Rt pc n L (.inl i :: .inr (.inr (.inl 60)) :: r) σ .iaload = (n = 1 ∧ (0 ≤ i ∧ i < 4) ∧ K (pc + 1) L (.inl (σ 60 i) :: r) σ) := by
  rw [ex_iaload, ab_io_s, ar1_60, ab_op_s]
  simp
theorem das1_60 {M : ab_M} {K : ab_K} {Rt : ab_V → ab_S → Prop} {pc n : Nat} {L : ab_L} {r : List ab_V} {σ : ab_S} {i x : Int} : ab_ex ab_G1 M K Rt pc n L (.inl x :: .inl i :: .inr (.inr (.inl 60)) :: r) σ .iastore = (n = 1 ∧ (0 ≤ i ∧ i < 4) ∧ K (pc + 1) L r (ab_up σ 60 i x)) := by
  rw [ex_iastore, ab_iio_s, ar1_60, ab_op_s]
  simp
theorem dln1_60 {M : ab_M} {K : ab_K} {Rt : ab_V → ab_S → Prop} {pc n : Nat} {L : ab_L} {r : List ab_V} {σ : ab_S} : ab_ex ab_G1 M K Rt pc n L (.inr (.inr (.inl 60)) :: r) σ .arraylength = (n = 1 ∧ K (pc + 1) L (.inl 4 :: r) σ) := by
  rw [ex_arraylength, ab_o1_s, ar1_60, ab_op_s]
  simp
theorem dal1_61 {M : ab_M} {K : ab_K} {Rt : ab_V → ab_S → Prop} {pc n : Nat} {L : ab_L} {r : List ab_V} {σ : ab_S} {i : Int} : ab_ex ab_G1 M K Rt pc n L (.inl i :: .inr (.inr (.inl 61)) :: r) σ .iaload = (n = 1 ∧ (0 ≤ i ∧ i < 4) ∧ K (pc + 1) L (.inl (σ 61 i) :: r) σ) := by
  rw [ex_iaload, ab_io_s, ar1_61, ab_op_s]
  simp
theorem das1_61 {M : ab_M} {K : ab_K} {Rt : ab_V → ab_S → Prop} {pc n : Nat} {L : ab_L} {r : List ab_V} {σ : ab_S} {i x : Int} : ab_ex ab_G1 M K Rt pc n L (.inl x :: .inl i :: .inr (.inr (.inl 61)) :: r) σ .iastore = (n = 1 ∧ (0 ≤ i ∧ i < 4) ∧ K (pc + 1) L r (ab_up σ 61 i x)) := by
  rw [ex_iastore, ab_iio_s, ar1_61, ab_op_s]
  simp
theorem dln1_61 {M : ab_M} {K : ab_K} {Rt : ab_V → ab_S → Prop} {pc n : Nat} {L : ab_L} {r : List ab_V} {σ : ab_S} : ab_ex ab_G1 M K Rt pc n L (.inr (.inr (.inl 61)) :: r) σ .arraylength = (n = 1 ∧ K (pc + 1) L (.inl 4 :: r) σ) := by
  rw [ex_arraylength, ab_o1_s, ar1_61, ab_op_s]
  simp
theorem dal1_62 {M : ab_M} {K : ab_K} {Rt : ab_V → ab_S → Prop} {pc n : Nat} {L : ab_L} {r : List ab_V} {σ : ab_S} {i : Int} : ab_ex ab_G1 M K Rt pc n L (.inl i :: .inr (.inr (.inl 62)) :: r) σ .iaload = (n = 1 ∧ (0 ≤ i ∧ i < 4) ∧ K (pc + 1) L (.inl (σ 62 i) :: r) σ) := by
  rw [ex_iaload, ab_io_s, ar1_62, ab_op_s]
  simp
theorem das1_62 {M : ab_M} {K : ab_K} {Rt : ab_V → ab_S → Prop} {pc n : Nat} {L : ab_L} {r : List ab_V} {σ : ab_S} {i x : Int} : ab_ex ab_G1 M K Rt pc n L (.inl x :: .inl i :: .inr (.inr (.inl 62)) :: r) σ .iastore = (n = 1 ∧ (0 ≤ i ∧ i < 4) ∧ K (pc + 1) L r (ab_up σ 62 i x)) := by
  rw [ex_iastore, ab_iio_s, ar1_62, ab_op_s]
  simp
theorem dln1_62 {M : ab_M} {K : ab_K} {Rt : ab_V → ab_S → Prop} {pc n : Nat} {L : ab_L} {r : List ab_V} {σ : ab_S} : ab_ex ab_G1 M K Rt pc n L (.inr (.inr (.inl 62)) :: r) σ .arraylength = (n = 1 ∧ K (pc + 1) L (.inl 4 :: r) σ) := by
  rw [ex_arraylength, ab_o1_s, ar1_62, ab_op_s]
  simp
theorem dal1_63 {M : ab_M} {K : ab_K} {Rt : ab_V → ab_S → Prop} {pc n : Nat} {L : ab_L} {r : List ab_V} {σ : ab_S} {i : Int} : ab_ex ab_G1 M K Rt pc n L (.inl i :: .inr (.inr (.inl 63)) :: r) σ .iaload = (n = 1 ∧ (0 ≤ i ∧ i < 4) ∧ K (pc + 1) L (.inl (σ 63 i) :: r) σ) := by
  rw [ex_iaload, ab_io_s, ar1_63, ab_op_s]
  simp
theorem das1_63 {M : ab_M} {K : ab_K} {Rt : ab_V → ab_S → Prop} {pc n : Nat} {L : ab_L} {r : List ab_V} {σ : ab_S} {i x : Int} : ab_ex ab_G1 M K Rt pc n L (.inl x :: .inl i :: .inr (.inr (.inl 63)) :: r) σ .iastore = (n = 1 ∧ (0 ≤ i ∧ i < 4) ∧ K (pc + 1) L r (ab_up σ 63 i x)) := by
  rw [ex_iastore, ab_iio_s, ar1_63, ab_op_s]
  simp
theorem dln1_63 {M : ab_M} {K : ab_K} {Rt : ab_V → ab_S → Prop} {pc n : Nat} {L : ab_L} {r : List ab_V} {σ : ab_S} : ab_ex ab_G1 M K Rt pc n L (.inr (.inr (.inl 63)) :: r) σ .arraylength = (n = 1 ∧ K (pc + 1) L (.inl 4 :: r) σ) := by
  rw [ex_arraylength, ab_o1_s, ar1_63, ab_op_s]
  simp
theorem dal1_64 {M : ab_M} {K : ab_K} {Rt : ab_V → ab_S → Prop} {pc n : Nat} {L : ab_L} {r : List ab_V} {σ : ab_S} {i : Int} : ab_ex ab_G1 M K Rt pc n L (.inl i :: .inr (.inr (.inl 64)) :: r) σ .iaload = (n = 1 ∧ (0 ≤ i ∧ i < 4) ∧ K (pc + 1) L (.inl (σ 64 i) :: r) σ) := by
  rw [ex_iaload, ab_io_s, ar1_64, ab_op_s]
  simp
theorem das1_64 {M : ab_M} {K : ab_K} {Rt : ab_V → ab_S → Prop} {pc n : Nat} {L : ab_L} {r : List ab_V} {σ : ab_S} {i x : Int} : ab_ex ab_G1 M K Rt pc n L (.inl x :: .inl i :: .inr (.inr (.inl 64)) :: r) σ .iastore = (n = 1 ∧ (0 ≤ i ∧ i < 4) ∧ K (pc + 1) L r (ab_up σ 64 i x)) := by
  rw [ex_iastore, ab_iio_s, ar1_64, ab_op_s]
  simp
theorem dln1_64 {M : ab_M} {K : ab_K} {Rt : ab_V → ab_S → Prop} {pc n : Nat} {L : ab_L} {r : List ab_V} {σ : ab_S} : ab_ex ab_G1 M K Rt pc n L (.inr (.inr (.inl 64)) :: r) σ .arraylength = (n = 1 ∧ K (pc + 1) L (.inl 4 :: r) σ) := by
  rw [ex_arraylength, ab_o1_s, ar1_64, ab_op_s]
  simp
theorem dal1_66 {M : ab_M} {K : ab_K} {Rt : ab_V → ab_S → Prop} {pc n : Nat} {L : ab_L} {r : List ab_V} {σ : ab_S} {i : Int} : ab_ex ab_G1 M K Rt pc n L (.inl i :: .inr (.inr (.inl 66)) :: r) σ .iaload = (n = 1 ∧ (0 ≤ i ∧ i < 4) ∧ K (pc + 1) L (.inl (σ 66 i) :: r) σ) := by
  rw [ex_iaload, ab_io_s, ar1_66, ab_op_s]
  simp
theorem das1_66 {M : ab_M} {K : ab_K} {Rt : ab_V → ab_S → Prop} {pc n : Nat} {L : ab_L} {r : List ab_V} {σ : ab_S} {i x : Int} : ab_ex ab_G1 M K Rt pc n L (.inl x :: .inl i :: .inr (.inr (.inl 66)) :: r) σ .iastore = (n = 1 ∧ (0 ≤ i ∧ i < 4) ∧ K (pc + 1) L r (ab_up σ 66 i x)) := by
  rw [ex_iastore, ab_iio_s, ar1_66, ab_op_s]
  simp
theorem dln1_66 {M : ab_M} {K : ab_K} {Rt : ab_V → ab_S → Prop} {pc n : Nat} {L : ab_L} {r : List ab_V} {σ : ab_S} : ab_ex ab_G1 M K Rt pc n L (.inr (.inr (.inl 66)) :: r) σ .arraylength = (n = 1 ∧ K (pc + 1) L (.inl 4 :: r) σ) := by
  rw [ex_arraylength, ab_o1_s, ar1_66, ab_op_s]
  simp
theorem dal1_67 {M : ab_M} {K : ab_K} {Rt : ab_V → ab_S → Prop} {pc n : Nat} {L : ab_L} {r : List ab_V} {σ : ab_S} {i : Int} : ab_ex ab_G1 M K Rt pc n L (.inl i :: .inr (.inr (.inl 67)) :: r) σ .iaload = (n = 1 ∧ (0 ≤ i ∧ i < 4) ∧ K (pc + 1) L (.inl (σ 67 i) :: r) σ) := by
  rw [ex_iaload, ab_io_s, ar1_67, ab_op_s]
  simp
theorem das1_67 {M : ab_M} {K : ab_K} {Rt : ab_V → ab_S → Prop} {pc n : Nat} {L : ab_L} {r : List ab_V} {σ : ab_S} {i x : Int} : ab_ex ab_G1 M K Rt pc n L (.inl x :: .inl i :: .inr (.inr (.inl 67)) :: r) σ .iastore = (n = 1 ∧ (0 ≤ i ∧ i < 4) ∧ K (pc + 1) L r (ab_up σ 67 i x)) := by
  rw [ex_iastore, ab_iio_s, ar1_67, ab_op_s]
  simp
theorem dln1_67 {M : ab_M} {K : ab_K} {Rt : ab_V → ab_S → Prop} {pc n : Nat} {L : ab_L} {r : List ab_V} {σ : ab_S} : ab_ex ab_G1 M K Rt pc n L (.inr (.inr (.inl 67)) :: r) σ .arraylength = (n = 1 ∧ K (pc + 1) L (.inl 4 :: r) σ) := by
  rw [ex_arraylength, ab_o1_s, ar1_67, ab_op_s]
  simp
theorem dal1_68 {M : ab_M} {K : ab_K} {Rt : ab_V → ab_S → Prop} {pc n : Nat} {L : ab_L} {r : List ab_V} {σ : ab_S} {i : Int} : ab_ex ab_G1 M K Rt pc n L (.inl i :: .inr (.inr (.inl 68)) :: r) σ .iaload = (n = 1 ∧ (0 ≤ i ∧ i < 48) ∧ K (pc + 1) L (.inl (σ 68 i) :: r) σ) := by
  rw [ex_iaload, ab_io_s, ar1_68, ab_op_s]
  simp
theorem das1_68 {M : ab_M} {K : ab_K} {Rt : ab_V → ab_S → Prop} {pc n : Nat} {L : ab_L} {r : List ab_V} {σ : ab_S} {i x : Int} : ab_ex ab_G1 M K Rt pc n L (.inl x :: .inl i :: .inr (.inr (.inl 68)) :: r) σ .iastore = (n = 1 ∧ (0 ≤ i ∧ i < 48) ∧ K (pc + 1) L r (ab_up σ 68 i x)) := by
  rw [ex_iastore, ab_iio_s, ar1_68, ab_op_s]
  simp
theorem dln1_68 {M : ab_M} {K : ab_K} {Rt : ab_V → ab_S → Prop} {pc n : Nat} {L : ab_L} {r : List ab_V} {σ : ab_S} : ab_ex ab_G1 M K Rt pc n L (.inr (.inr (.inl 68)) :: r) σ .arraylength = (n = 1 ∧ K (pc + 1) L (.inl 48 :: r) σ) := by
  rw [ex_arraylength, ab_o1_s, ar1_68, ab_op_s]
  simp
theorem dal1_69 {M : ab_M} {K : ab_K} {Rt : ab_V → ab_S → Prop} {pc n : Nat} {L : ab_L} {r : List ab_V} {σ : ab_S} {i : Int} : ab_ex ab_G1 M K Rt pc n L (.inl i :: .inr (.inr (.inl 69)) :: r) σ .iaload = (n = 1 ∧ (0 ≤ i ∧ i < 12) ∧ K (pc + 1) L (.inl (σ 69 i) :: r) σ) := by
  rw [ex_iaload, ab_io_s, ar1_69, ab_op_s]
  simp
theorem das1_69 {M : ab_M} {K : ab_K} {Rt : ab_V → ab_S → Prop} {pc n : Nat} {L : ab_L} {r : List ab_V} {σ : ab_S} {i x : Int} : ab_ex ab_G1 M K Rt pc n L (.inl x :: .inl i :: .inr (.inr (.inl 69)) :: r) σ .iastore = (n = 1 ∧ (0 ≤ i ∧ i < 12) ∧ K (pc + 1) L r (ab_up σ 69 i x)) := by
  rw [ex_iastore, ab_iio_s, ar1_69, ab_op_s]
  simp
theorem dln1_69 {M : ab_M} {K : ab_K} {Rt : ab_V → ab_S → Prop} {pc n : Nat} {L : ab_L} {r : List ab_V} {σ : ab_S} : ab_ex ab_G1 M K Rt pc n L (.inr (.inr (.inl 69)) :: r) σ .arraylength = (n = 1 ∧ K (pc + 1) L (.inl 12 :: r) σ) := by
  rw [ex_arraylength, ab_o1_s, ar1_69, ab_op_s]
  simp
theorem dal1_70 {M : ab_M} {K : ab_K} {Rt : ab_V → ab_S → Prop} {pc n : Nat} {L : ab_L} {r : List ab_V} {σ : ab_S} {i : Int} : ab_ex ab_G1 M K Rt pc n L (.inl i :: .inr (.inr (.inl 70)) :: r) σ .iaload = (n = 1 ∧ (0 ≤ i ∧ i < 16) ∧ K (pc + 1) L (.inl (σ 70 i) :: r) σ) := by
  rw [ex_iaload, ab_io_s, ar1_70, ab_op_s]
  simp
theorem das1_70 {M : ab_M} {K : ab_K} {Rt : ab_V → ab_S → Prop} {pc n : Nat} {L : ab_L} {r : List ab_V} {σ : ab_S} {i x : Int} : ab_ex ab_G1 M K Rt pc n L (.inl x :: .inl i :: .inr (.inr (.inl 70)) :: r) σ .iastore = (n = 1 ∧ (0 ≤ i ∧ i < 16) ∧ K (pc + 1) L r (ab_up σ 70 i x)) := by
  rw [ex_iastore, ab_iio_s, ar1_70, ab_op_s]
  simp
theorem dln1_70 {M : ab_M} {K : ab_K} {Rt : ab_V → ab_S → Prop} {pc n : Nat} {L : ab_L} {r : List ab_V} {σ : ab_S} : ab_ex ab_G1 M K Rt pc n L (.inr (.inr (.inl 70)) :: r) σ .arraylength = (n = 1 ∧ K (pc + 1) L (.inl 16 :: r) σ) := by
  rw [ex_arraylength, ab_o1_s, ar1_70, ab_op_s]
  simp
theorem dal1_71 {M : ab_M} {K : ab_K} {Rt : ab_V → ab_S → Prop} {pc n : Nat} {L : ab_L} {r : List ab_V} {σ : ab_S} {i : Int} : ab_ex ab_G1 M K Rt pc n L (.inl i :: .inr (.inr (.inl 71)) :: r) σ .iaload = (n = 1 ∧ (0 ≤ i ∧ i < 4) ∧ K (pc + 1) L (.inl (σ 71 i) :: r) σ) := by
  rw [ex_iaload, ab_io_s, ar1_71, ab_op_s]
  simp
theorem das1_71 {M : ab_M} {K : ab_K} {Rt : ab_V → ab_S → Prop} {pc n : Nat} {L : ab_L} {r : List ab_V} {σ : ab_S} {i x : Int} : ab_ex ab_G1 M K Rt pc n L (.inl x :: .inl i :: .inr (.inr (.inl 71)) :: r) σ .iastore = (n = 1 ∧ (0 ≤ i ∧ i < 4) ∧ K (pc + 1) L r (ab_up σ 71 i x)) := by
  rw [ex_iastore, ab_iio_s, ar1_71, ab_op_s]
  simp
theorem dln1_71 {M : ab_M} {K : ab_K} {Rt : ab_V → ab_S → Prop} {pc n : Nat} {L : ab_L} {r : List ab_V} {σ : ab_S} : ab_ex ab_G1 M K Rt pc n L (.inr (.inr (.inl 71)) :: r) σ .arraylength = (n = 1 ∧ K (pc + 1) L (.inl 4 :: r) σ) := by
  rw [ex_arraylength, ab_o1_s, ar1_71, ab_op_s]
  simp
theorem dal1_72 {M : ab_M} {K : ab_K} {Rt : ab_V → ab_S → Prop} {pc n : Nat} {L : ab_L} {r : List ab_V} {σ : ab_S} {i : Int} : ab_ex ab_G1 M K Rt pc n L (.inl i :: .inr (.inr (.inl 72)) :: r) σ .iaload = (n = 1 ∧ (0 ≤ i ∧ i < 4) ∧ K (pc + 1) L (.inl (σ 72 i) :: r) σ) := by
  rw [ex_iaload, ab_io_s, ar1_72, ab_op_s]
  simp
theorem das1_72 {M : ab_M} {K : ab_K} {Rt : ab_V → ab_S → Prop} {pc n : Nat} {L : ab_L} {r : List ab_V} {σ : ab_S} {i x : Int} : ab_ex ab_G1 M K Rt pc n L (.inl x :: .inl i :: .inr (.inr (.inl 72)) :: r) σ .iastore = (n = 1 ∧ (0 ≤ i ∧ i < 4) ∧ K (pc + 1) L r (ab_up σ 72 i x)) := by
  rw [ex_iastore, ab_iio_s, ar1_72, ab_op_s]
  simp
theorem dln1_72 {M : ab_M} {K : ab_K} {Rt : ab_V → ab_S → Prop} {pc n : Nat} {L : ab_L} {r : List ab_V} {σ : ab_S} : ab_ex ab_G1 M K Rt pc n L (.inr (.inr (.inl 72)) :: r) σ .arraylength = (n = 1 ∧ K (pc + 1) L (.inl 4 :: r) σ) := by
  rw [ex_arraylength, ab_o1_s, ar1_72, ab_op_s]
  simp
theorem dal1_73 {M : ab_M} {K : ab_K} {Rt : ab_V → ab_S → Prop} {pc n : Nat} {L : ab_L} {r : List ab_V} {σ : ab_S} {i : Int} : ab_ex ab_G1 M K Rt pc n L (.inl i :: .inr (.inr (.inl 73)) :: r) σ .iaload = (n = 1 ∧ (0 ≤ i ∧ i < 16) ∧ K (pc + 1) L (.inl (σ 73 i) :: r) σ) := by
  rw [ex_iaload, ab_io_s, ar1_73, ab_op_s]
  simp
theorem das1_73 {M : ab_M} {K : ab_K} {Rt : ab_V → ab_S → Prop} {pc n : Nat} {L : ab_L} {r : List ab_V} {σ : ab_S} {i x : Int} : ab_ex ab_G1 M K Rt pc n L (.inl x :: .inl i :: .inr (.inr (.inl 73)) :: r) σ .iastore = (n = 1 ∧ (0 ≤ i ∧ i < 16) ∧ K (pc + 1) L r (ab_up σ 73 i x)) := by
  rw [ex_iastore, ab_iio_s, ar1_73, ab_op_s]
  simp
theorem dln1_73 {M : ab_M} {K : ab_K} {Rt : ab_V → ab_S → Prop} {pc n : Nat} {L : ab_L} {r : List ab_V} {σ : ab_S} : ab_ex ab_G1 M K Rt pc n L (.inr (.inr (.inl 73)) :: r) σ .arraylength = (n = 1 ∧ K (pc + 1) L (.inl 16 :: r) σ) := by
  rw [ex_arraylength, ab_o1_s, ar1_73, ab_op_s]
  simp
theorem dal1_74 {M : ab_M} {K : ab_K} {Rt : ab_V → ab_S → Prop} {pc n : Nat} {L : ab_L} {r : List ab_V} {σ : ab_S} {i : Int} : ab_ex ab_G1 M K Rt pc n L (.inl i :: .inr (.inr (.inl 74)) :: r) σ .iaload = (n = 1 ∧ (0 ≤ i ∧ i < 12) ∧ K (pc + 1) L (.inl (σ 74 i) :: r) σ) := by
  rw [ex_iaload, ab_io_s, ar1_74, ab_op_s]
  simp
theorem das1_74 {M : ab_M} {K : ab_K} {Rt : ab_V → ab_S → Prop} {pc n : Nat} {L : ab_L} {r : List ab_V} {σ : ab_S} {i x : Int} : ab_ex ab_G1 M K Rt pc n L (.inl x :: .inl i :: .inr (.inr (.inl 74)) :: r) σ .iastore = (n = 1 ∧ (0 ≤ i ∧ i < 12) ∧ K (pc + 1) L r (ab_up σ 74 i x)) := by
  rw [ex_iastore, ab_iio_s, ar1_74, ab_op_s]
  simp
theorem dln1_74 {M : ab_M} {K : ab_K} {Rt : ab_V → ab_S → Prop} {pc n : Nat} {L : ab_L} {r : List ab_V} {σ : ab_S} : ab_ex ab_G1 M K Rt pc n L (.inr (.inr (.inl 74)) :: r) σ .arraylength = (n = 1 ∧ K (pc + 1) L (.inl 12 :: r) σ) := by
  rw [ex_arraylength, ab_o1_s, ar1_74, ab_op_s]
  simp
theorem dal1_75 {M : ab_M} {K : ab_K} {Rt : ab_V → ab_S → Prop} {pc n : Nat} {L : ab_L} {r : List ab_V} {σ : ab_S} {i : Int} : ab_ex ab_G1 M K Rt pc n L (.inl i :: .inr (.inr (.inl 75)) :: r) σ .iaload = (n = 1 ∧ (0 ≤ i ∧ i < 4) ∧ K (pc + 1) L (.inl (σ 75 i) :: r) σ) := by
  rw [ex_iaload, ab_io_s, ar1_75, ab_op_s]
  simp
theorem das1_75 {M : ab_M} {K : ab_K} {Rt : ab_V → ab_S → Prop} {pc n : Nat} {L : ab_L} {r : List ab_V} {σ : ab_S} {i x : Int} : ab_ex ab_G1 M K Rt pc n L (.inl x :: .inl i :: .inr (.inr (.inl 75)) :: r) σ .iastore = (n = 1 ∧ (0 ≤ i ∧ i < 4) ∧ K (pc + 1) L r (ab_up σ 75 i x)) := by
  rw [ex_iastore, ab_iio_s, ar1_75, ab_op_s]
  simp
theorem dln1_75 {M : ab_M} {K : ab_K} {Rt : ab_V → ab_S → Prop} {pc n : Nat} {L : ab_L} {r : List ab_V} {σ : ab_S} : ab_ex ab_G1 M K Rt pc n L (.inr (.inr (.inl 75)) :: r) σ .arraylength = (n = 1 ∧ K (pc + 1) L (.inl 4 :: r) σ) := by
  rw [ex_arraylength, ab_o1_s, ar1_75, ab_op_s]
  simp
theorem dal1_77 {M : ab_M} {K : ab_K} {Rt : ab_V → ab_S → Prop} {pc n : Nat} {L : ab_L} {r : List ab_V} {σ : ab_S} {i : Int} : ab_ex ab_G1 M K Rt pc n L (.inl i :: .inr (.inr (.inl 77)) :: r) σ .iaload = (n = 1 ∧ (0 ≤ i ∧ i < 4) ∧ K (pc + 1) L (.inl (σ 77 i) :: r) σ) := by
  rw [ex_iaload, ab_io_s, ar1_77, ab_op_s]
  simp
theorem das1_77 {M : ab_M} {K : ab_K} {Rt : ab_V → ab_S → Prop} {pc n : Nat} {L : ab_L} {r : List ab_V} {σ : ab_S} {i x : Int} : ab_ex ab_G1 M K Rt pc n L (.inl x :: .inl i :: .inr (.inr (.inl 77)) :: r) σ .iastore = (n = 1 ∧ (0 ≤ i ∧ i < 4) ∧ K (pc + 1) L r (ab_up σ 77 i x)) := by
  rw [ex_iastore, ab_iio_s, ar1_77, ab_op_s]
  simp
theorem dln1_77 {M : ab_M} {K : ab_K} {Rt : ab_V → ab_S → Prop} {pc n : Nat} {L : ab_L} {r : List ab_V} {σ : ab_S} : ab_ex ab_G1 M K Rt pc n L (.inr (.inr (.inl 77)) :: r) σ .arraylength = (n = 1 ∧ K (pc + 1) L (.inl 4 :: r) σ) := by
  rw [ex_arraylength, ab_o1_s, ar1_77, ab_op_s]
  simp
theorem dal1_78 {M : ab_M} {K : ab_K} {Rt : ab_V → ab_S → Prop} {pc n : Nat} {L : ab_L} {r : List ab_V} {σ : ab_S} {i : Int} : ab_ex ab_G1 M K Rt pc n L (.inl i :: .inr (.inr (.inl 78)) :: r) σ .iaload = (n = 1 ∧ (0 ≤ i ∧ i < 4) ∧ K (pc + 1) L (.inl (σ 78 i) :: r) σ) := by
  rw [ex_iaload, ab_io_s, ar1_78, ab_op_s]
  simp
theorem das1_78 {M : ab_M} {K : ab_K} {Rt : ab_V → ab_S → Prop} {pc n : Nat} {L : ab_L} {r : List ab_V} {σ : ab_S} {i x : Int} : ab_ex ab_G1 M K Rt pc n L (.inl x :: .inl i :: .inr (.inr (.inl 78)) :: r) σ .iastore = (n = 1 ∧ (0 ≤ i ∧ i < 4) ∧ K (pc + 1) L r (ab_up σ 78 i x)) := by
  rw [ex_iastore, ab_iio_s, ar1_78, ab_op_s]
  simp
theorem dln1_78 {M : ab_M} {K : ab_K} {Rt : ab_V → ab_S → Prop} {pc n : Nat} {L : ab_L} {r : List ab_V} {σ : ab_S} : ab_ex ab_G1 M K Rt pc n L (.inr (.inr (.inl 78)) :: r) σ .arraylength = (n = 1 ∧ K (pc + 1) L (.inl 4 :: r) σ) := by
  rw [ex_arraylength, ab_o1_s, ar1_78, ab_op_s]
  simp
theorem dal1_79 {M : ab_M} {K : ab_K} {Rt : ab_V → ab_S → Prop} {pc n : Nat} {L : ab_L} {r : List ab_V} {σ : ab_S} {i : Int} : ab_ex ab_G1 M K Rt pc n L (.inl i :: .inr (.inr (.inl 79)) :: r) σ .iaload = (n = 1 ∧ (0 ≤ i ∧ i < 48) ∧ K (pc + 1) L (.inl (σ 79 i) :: r) σ) := by
  rw [ex_iaload, ab_io_s, ar1_79, ab_op_s]
  simp
theorem das1_79 {M : ab_M} {K : ab_K} {Rt : ab_V → ab_S → Prop} {pc n : Nat} {L : ab_L} {r : List ab_V} {σ : ab_S} {i x : Int} : ab_ex ab_G1 M K Rt pc n L (.inl x :: .inl i :: .inr (.inr (.inl 79)) :: r) σ .iastore = (n = 1 ∧ (0 ≤ i ∧ i < 48) ∧ K (pc + 1) L r (ab_up σ 79 i x)) := by
  rw [ex_iastore, ab_iio_s, ar1_79, ab_op_s]
  simp
theorem dln1_79 {M : ab_M} {K : ab_K} {Rt : ab_V → ab_S → Prop} {pc n : Nat} {L : ab_L} {r : List ab_V} {σ : ab_S} : ab_ex ab_G1 M K Rt pc n L (.inr (.inr (.inl 79)) :: r) σ .arraylength = (n = 1 ∧ K (pc + 1) L (.inl 48 :: r) σ) := by
  rw [ex_arraylength, ab_o1_s, ar1_79, ab_op_s]
  simp
theorem dal1_80 {M : ab_M} {K : ab_K} {Rt : ab_V → ab_S → Prop} {pc n : Nat} {L : ab_L} {r : List ab_V} {σ : ab_S} {i : Int} : ab_ex ab_G1 M K Rt pc n L (.inl i :: .inr (.inr (.inl 80)) :: r) σ .iaload = (n = 1 ∧ (0 ≤ i ∧ i < 12) ∧ K (pc + 1) L (.inl (σ 80 i) :: r) σ) := by
  rw [ex_iaload, ab_io_s, ar1_80, ab_op_s]
  simp
theorem das1_80 {M : ab_M} {K : ab_K} {Rt : ab_V → ab_S → Prop} {pc n : Nat} {L : ab_L} {r : List ab_V} {σ : ab_S} {i x : Int} : ab_ex ab_G1 M K Rt pc n L (.inl x :: .inl i :: .inr (.inr (.inl 80)) :: r) σ .iastore = (n = 1 ∧ (0 ≤ i ∧ i < 12) ∧ K (pc + 1) L r (ab_up σ 80 i x)) := by
  rw [ex_iastore, ab_iio_s, ar1_80, ab_op_s]
  simp
theorem dln1_80 {M : ab_M} {K : ab_K} {Rt : ab_V → ab_S → Prop} {pc n : Nat} {L : ab_L} {r : List ab_V} {σ : ab_S} : ab_ex ab_G1 M K Rt pc n L (.inr (.inr (.inl 80)) :: r) σ .arraylength = (n = 1 ∧ K (pc + 1) L (.inl 12 :: r) σ) := by
  rw [ex_arraylength, ab_o1_s, ar1_80, ab_op_s]
  simp
theorem dal1_81 {M : ab_M} {K : ab_K} {Rt : ab_V → ab_S → Prop} {pc n : Nat} {L : ab_L} {r : List ab_V} {σ : ab_S} {i : Int} : ab_ex ab_G1 M K Rt pc n L (.inl i :: .inr (.inr (.inl 81)) :: r) σ .iaload = (n = 1 ∧ (0 ≤ i ∧ i < 16) ∧ K (pc + 1) L (.inl (σ 81 i) :: r) σ) := by
  rw [ex_iaload, ab_io_s, ar1_81, ab_op_s]
  simp
theorem das1_81 {M : ab_M} {K : ab_K} {Rt : ab_V → ab_S → Prop} {pc n : Nat} {L : ab_L} {r : List ab_V} {σ : ab_S} {i x : Int} : ab_ex ab_G1 M K Rt pc n L (.inl x :: .inl i :: .inr (.inr (.inl 81)) :: r) σ .iastore = (n = 1 ∧ (0 ≤ i ∧ i < 16) ∧ K (pc + 1) L r (ab_up σ 81 i x)) := by
  rw [ex_iastore, ab_iio_s, ar1_81, ab_op_s]
  simp
theorem dln1_81 {M : ab_M} {K : ab_K} {Rt : ab_V → ab_S → Prop} {pc n : Nat} {L : ab_L} {r : List ab_V} {σ : ab_S} : ab_ex ab_G1 M K Rt pc n L (.inr (.inr (.inl 81)) :: r) σ .arraylength = (n = 1 ∧ K (pc + 1) L (.inl 16 :: r) σ) := by
  rw [ex_arraylength, ab_o1_s, ar1_81, ab_op_s]
  simp
theorem dal1_83 {M : ab_M} {K : ab_K} {Rt : ab_V → ab_S → Prop} {pc n : Nat} {L : ab_L} {r : List ab_V} {σ : ab_S} {i : Int} : ab_ex ab_G1 M K Rt pc n L (.inl i :: .inr (.inr (.inl 83)) :: r) σ .iaload = (n = 1 ∧ (0 ≤ i ∧ i < 188) ∧ K (pc + 1) L (.inl (σ 83 i) :: r) σ) := by
  rw [ex_iaload, ab_io_s, ar1_83, ab_op_s]
  simp
theorem das1_83 {M : ab_M} {K : ab_K} {Rt : ab_V → ab_S → Prop} {pc n : Nat} {L : ab_L} {r : List ab_V} {σ : ab_S} {i x : Int} : ab_ex ab_G1 M K Rt pc n L (.inl x :: .inl i :: .inr (.inr (.inl 83)) :: r) σ .iastore = (n = 1 ∧ (0 ≤ i ∧ i < 188) ∧ K (pc + 1) L r (ab_up σ 83 i x)) := by
  rw [ex_iastore, ab_iio_s, ar1_83, ab_op_s]
  simp
theorem dln1_83 {M : ab_M} {K : ab_K} {Rt : ab_V → ab_S → Prop} {pc n : Nat} {L : ab_L} {r : List ab_V} {σ : ab_S} : ab_ex ab_G1 M K Rt pc n L (.inr (.inr (.inl 83)) :: r) σ .arraylength = (n = 1 ∧ K (pc + 1) L (.inl 188 :: r) σ) := by
  rw [ex_arraylength, ab_o1_s, ar1_83, ab_op_s]
  simp
theorem dal1_84 {M : ab_M} {K : ab_K} {Rt : ab_V → ab_S → Prop} {pc n : Nat} {L : ab_L} {r : List ab_V} {σ : ab_S} {i : Int} : ab_ex ab_G1 M K Rt pc n L (.inl i :: .inr (.inr (.inl 84)) :: r) σ .laload = (n = 1 ∧ (0 ≤ i ∧ i < 61) ∧ K (pc + 1) L (.inr (.inl (σ 84 i)) :: r) σ) := by
  rw [ex_laload, ab_io_s, ar1_84, ab_op_s]
  simp
theorem das1_84 {M : ab_M} {K : ab_K} {Rt : ab_V → ab_S → Prop} {pc n : Nat} {L : ab_L} {r : List ab_V} {σ : ab_S} {i x : Int} : ab_ex ab_G1 M K Rt pc n L (.inr (.inl x) :: .inl i :: .inr (.inr (.inl 84)) :: r) σ .lastore = (n = 1 ∧ (0 ≤ i ∧ i < 61) ∧ K (pc + 1) L r (ab_up σ 84 i x)) := by
  rw [ex_lastore, ab_lio_s, ar1_84, ab_op_s]
  simp
theorem dln1_84 {M : ab_M} {K : ab_K} {Rt : ab_V → ab_S → Prop} {pc n : Nat} {L : ab_L} {r : List ab_V} {σ : ab_S} : ab_ex ab_G1 M K Rt pc n L (.inr (.inr (.inl 84)) :: r) σ .arraylength = (n = 1 ∧ K (pc + 1) L (.inl 61 :: r) σ) := by
  rw [ex_arraylength, ab_o1_s, ar1_84, ab_op_s]
  simp
theorem dal1_85 {M : ab_M} {K : ab_K} {Rt : ab_V → ab_S → Prop} {pc n : Nat} {L : ab_L} {r : List ab_V} {σ : ab_S} {i : Int} : ab_ex ab_G1 M K Rt pc n L (.inl i :: .inr (.inr (.inl 85)) :: r) σ .iaload = (n = 1 ∧ (0 ≤ i ∧ i < 4) ∧ K (pc + 1) L (.inl (σ 85 i) :: r) σ) := by
  rw [ex_iaload, ab_io_s, ar1_85, ab_op_s]
  simp
theorem das1_85 {M : ab_M} {K : ab_K} {Rt : ab_V → ab_S → Prop} {pc n : Nat} {L : ab_L} {r : List ab_V} {σ : ab_S} {i x : Int} : ab_ex ab_G1 M K Rt pc n L (.inl x :: .inl i :: .inr (.inr (.inl 85)) :: r) σ .iastore = (n = 1 ∧ (0 ≤ i ∧ i < 4) ∧ K (pc + 1) L r (ab_up σ 85 i x)) := by
  rw [ex_iastore, ab_iio_s, ar1_85, ab_op_s]
  simp
theorem dln1_85 {M : ab_M} {K : ab_K} {Rt : ab_V → ab_S → Prop} {pc n : Nat} {L : ab_L} {r : List ab_V} {σ : ab_S} : ab_ex ab_G1 M K Rt pc n L (.inr (.inr (.inl 85)) :: r) σ .arraylength = (n = 1 ∧ K (pc + 1) L (.inl 4 :: r) σ) := by
  rw [ex_arraylength, ab_o1_s, ar1_85, ab_op_s]
  simp
theorem dal1_86 {M : ab_M} {K : ab_K} {Rt : ab_V → ab_S → Prop} {pc n : Nat} {L : ab_L} {r : List ab_V} {σ : ab_S} {i : Int} : ab_ex ab_G1 M K Rt pc n L (.inl i :: .inr (.inr (.inl 86)) :: r) σ .iaload = (n = 1 ∧ (0 ≤ i ∧ i < 4) ∧ K (pc + 1) L (.inl (σ 86 i) :: r) σ) := by
  rw [ex_iaload, ab_io_s, ar1_86, ab_op_s]
  simp
theorem das1_86 {M : ab_M} {K : ab_K} {Rt : ab_V → ab_S → Prop} {pc n : Nat} {L : ab_L} {r : List ab_V} {σ : ab_S} {i x : Int} : ab_ex ab_G1 M K Rt pc n L (.inl x :: .inl i :: .inr (.inr (.inl 86)) :: r) σ .iastore = (n = 1 ∧ (0 ≤ i ∧ i < 4) ∧ K (pc + 1) L r (ab_up σ 86 i x)) := by
  rw [ex_iastore, ab_iio_s, ar1_86, ab_op_s]
  simp
theorem dln1_86 {M : ab_M} {K : ab_K} {Rt : ab_V → ab_S → Prop} {pc n : Nat} {L : ab_L} {r : List ab_V} {σ : ab_S} : ab_ex ab_G1 M K Rt pc n L (.inr (.inr (.inl 86)) :: r) σ .arraylength = (n = 1 ∧ K (pc + 1) L (.inl 4 :: r) σ) := by
  rw [ex_arraylength, ab_o1_s, ar1_86, ab_op_s]
  simp
theorem dal1_87 {M : ab_M} {K : ab_K} {Rt : ab_V → ab_S → Prop} {pc n : Nat} {L : ab_L} {r : List ab_V} {σ : ab_S} {i : Int} : ab_ex ab_G1 M K Rt pc n L (.inl i :: .inr (.inr (.inl 87)) :: r) σ .iaload = (n = 1 ∧ (0 ≤ i ∧ i < 3) ∧ K (pc + 1) L (.inl (σ 87 i) :: r) σ) := by
  rw [ex_iaload, ab_io_s, ar1_87, ab_op_s]
  simp
theorem das1_87 {M : ab_M} {K : ab_K} {Rt : ab_V → ab_S → Prop} {pc n : Nat} {L : ab_L} {r : List ab_V} {σ : ab_S} {i x : Int} : ab_ex ab_G1 M K Rt pc n L (.inl x :: .inl i :: .inr (.inr (.inl 87)) :: r) σ .iastore = (n = 1 ∧ (0 ≤ i ∧ i < 3) ∧ K (pc + 1) L r (ab_up σ 87 i x)) := by
  rw [ex_iastore, ab_iio_s, ar1_87, ab_op_s]
  simp
theorem dln1_87 {M : ab_M} {K : ab_K} {Rt : ab_V → ab_S → Prop} {pc n : Nat} {L : ab_L} {r : List ab_V} {σ : ab_S} : ab_ex ab_G1 M K Rt pc n L (.inr (.inr (.inl 87)) :: r) σ .arraylength = (n = 1 ∧ K (pc + 1) L (.inl 3 :: r) σ) := by
  rw [ex_arraylength, ab_o1_s, ar1_87, ab_op_s]
  simp
theorem dal1_89 {M : ab_M} {K : ab_K} {Rt : ab_V → ab_S → Prop} {pc n : Nat} {L : ab_L} {r : List ab_V} {σ : ab_S} {i : Int} : ab_ex ab_G1 M K Rt pc n L (.inl i :: .inr (.inr (.inl 89)) :: r) σ .laload = (n = 1 ∧ (0 ≤ i ∧ i < 5184) ∧ K (pc + 1) L (.inr (.inl (σ 89 i)) :: r) σ) := by
  rw [ex_laload, ab_io_s, ar1_89, ab_op_s]
  simp
theorem das1_89 {M : ab_M} {K : ab_K} {Rt : ab_V → ab_S → Prop} {pc n : Nat} {L : ab_L} {r : List ab_V} {σ : ab_S} {i x : Int} : ab_ex ab_G1 M K Rt pc n L (.inr (.inl x) :: .inl i :: .inr (.inr (.inl 89)) :: r) σ .lastore = (n = 1 ∧ (0 ≤ i ∧ i < 5184) ∧ K (pc + 1) L r (ab_up σ 89 i x)) := by
  rw [ex_lastore, ab_lio_s, ar1_89, ab_op_s]
  simp
theorem dln1_89 {M : ab_M} {K : ab_K} {Rt : ab_V → ab_S → Prop} {pc n : Nat} {L : ab_L} {r : List ab_V} {σ : ab_S} : ab_ex ab_G1 M K Rt pc n L (.inr (.inr (.inl 89)) :: r) σ .arraylength = (n = 1 ∧ K (pc + 1) L (.inl 5184 :: r) σ) := by
  rw [ex_arraylength, ab_o1_s, ar1_89, ab_op_s]
  simp
theorem dal1_90 {M : ab_M} {K : ab_K} {Rt : ab_V → ab_S → Prop} {pc n : Nat} {L : ab_L} {r : List ab_V} {σ : ab_S} {i : Int} : ab_ex ab_G1 M K Rt pc n L (.inl i :: .inr (.inr (.inl 90)) :: r) σ .iaload = (n = 1 ∧ (0 ≤ i ∧ i < 1728) ∧ K (pc + 1) L (.inl (σ 90 i) :: r) σ) := by
  rw [ex_iaload, ab_io_s, ar1_90, ab_op_s]
  simp
theorem das1_90 {M : ab_M} {K : ab_K} {Rt : ab_V → ab_S → Prop} {pc n : Nat} {L : ab_L} {r : List ab_V} {σ : ab_S} {i x : Int} : ab_ex ab_G1 M K Rt pc n L (.inl x :: .inl i :: .inr (.inr (.inl 90)) :: r) σ .iastore = (n = 1 ∧ (0 ≤ i ∧ i < 1728) ∧ K (pc + 1) L r (ab_up σ 90 i x)) := by
  rw [ex_iastore, ab_iio_s, ar1_90, ab_op_s]
  simp
theorem dln1_90 {M : ab_M} {K : ab_K} {Rt : ab_V → ab_S → Prop} {pc n : Nat} {L : ab_L} {r : List ab_V} {σ : ab_S} : ab_ex ab_G1 M K Rt pc n L (.inr (.inr (.inl 90)) :: r) σ .arraylength = (n = 1 ∧ K (pc + 1) L (.inl 1728 :: r) σ) := by
  rw [ex_arraylength, ab_o1_s, ar1_90, ab_op_s]
  simp
theorem dal1_91 {M : ab_M} {K : ab_K} {Rt : ab_V → ab_S → Prop} {pc n : Nat} {L : ab_L} {r : List ab_V} {σ : ab_S} {i : Int} : ab_ex ab_G1 M K Rt pc n L (.inl i :: .inr (.inr (.inl 91)) :: r) σ .iaload = (n = 1 ∧ (0 ≤ i ∧ i < 3) ∧ K (pc + 1) L (.inl (σ 91 i) :: r) σ) := by
  rw [ex_iaload, ab_io_s, ar1_91, ab_op_s]
  simp
theorem das1_91 {M : ab_M} {K : ab_K} {Rt : ab_V → ab_S → Prop} {pc n : Nat} {L : ab_L} {r : List ab_V} {σ : ab_S} {i x : Int} : ab_ex ab_G1 M K Rt pc n L (.inl x :: .inl i :: .inr (.inr (.inl 91)) :: r) σ .iastore = (n = 1 ∧ (0 ≤ i ∧ i < 3) ∧ K (pc + 1) L r (ab_up σ 91 i x)) := by
  rw [ex_iastore, ab_iio_s, ar1_91, ab_op_s]
  simp
theorem dln1_91 {M : ab_M} {K : ab_K} {Rt : ab_V → ab_S → Prop} {pc n : Nat} {L : ab_L} {r : List ab_V} {σ : ab_S} : ab_ex ab_G1 M K Rt pc n L (.inr (.inr (.inl 91)) :: r) σ .arraylength = (n = 1 ∧ K (pc + 1) L (.inl 3 :: r) σ) := by
  rw [ex_arraylength, ab_o1_s, ar1_91, ab_op_s]
  simp
theorem dal1_92 {M : ab_M} {K : ab_K} {Rt : ab_V → ab_S → Prop} {pc n : Nat} {L : ab_L} {r : List ab_V} {σ : ab_S} {i : Int} : ab_ex ab_G1 M K Rt pc n L (.inl i :: .inr (.inr (.inl 92)) :: r) σ .iaload = (n = 1 ∧ (0 ≤ i ∧ i < 3) ∧ K (pc + 1) L (.inl (σ 92 i) :: r) σ) := by
  rw [ex_iaload, ab_io_s, ar1_92, ab_op_s]
  simp
theorem das1_92 {M : ab_M} {K : ab_K} {Rt : ab_V → ab_S → Prop} {pc n : Nat} {L : ab_L} {r : List ab_V} {σ : ab_S} {i x : Int} : ab_ex ab_G1 M K Rt pc n L (.inl x :: .inl i :: .inr (.inr (.inl 92)) :: r) σ .iastore = (n = 1 ∧ (0 ≤ i ∧ i < 3) ∧ K (pc + 1) L r (ab_up σ 92 i x)) := by
  rw [ex_iastore, ab_iio_s, ar1_92, ab_op_s]
  simp
theorem dln1_92 {M : ab_M} {K : ab_K} {Rt : ab_V → ab_S → Prop} {pc n : Nat} {L : ab_L} {r : List ab_V} {σ : ab_S} : ab_ex ab_G1 M K Rt pc n L (.inr (.inr (.inl 92)) :: r) σ .arraylength = (n = 1 ∧ K (pc + 1) L (.inl 3 :: r) σ) := by
  rw [ex_arraylength, ab_o1_s, ar1_92, ab_op_s]
  simp
theorem dal1_93 {M : ab_M} {K : ab_K} {Rt : ab_V → ab_S → Prop} {pc n : Nat} {L : ab_L} {r : List ab_V} {σ : ab_S} {i : Int} : ab_ex ab_G1 M K Rt pc n L (.inl i :: .inr (.inr (.inl 93)) :: r) σ .laload = (n = 1 ∧ (0 ≤ i ∧ i < 4) ∧ K (pc + 1) L (.inr (.inl (σ 93 i)) :: r) σ) := by
  rw [ex_laload, ab_io_s, ar1_93, ab_op_s]
  simp
theorem das1_93 {M : ab_M} {K : ab_K} {Rt : ab_V → ab_S → Prop} {pc n : Nat} {L : ab_L} {r : List ab_V} {σ : ab_S} {i x : Int} : ab_ex ab_G1 M K Rt pc n L (.inr (.inl x) :: .inl i :: .inr (.inr (.inl 93)) :: r) σ .lastore = (n = 1 ∧ (0 ≤ i ∧ i < 4) ∧ K (pc + 1) L r (ab_up σ 93 i x)) := by
  rw [ex_lastore, ab_lio_s, ar1_93, ab_op_s]
  simp
theorem dln1_93 {M : ab_M} {K : ab_K} {Rt : ab_V → ab_S → Prop} {pc n : Nat} {L : ab_L} {r : List ab_V} {σ : ab_S} : ab_ex ab_G1 M K Rt pc n L (.inr (.inr (.inl 93)) :: r) σ .arraylength = (n = 1 ∧ K (pc + 1) L (.inl 4 :: r) σ) := by
  rw [ex_arraylength, ab_o1_s, ar1_93, ab_op_s]
  simp
theorem dal1_94 {M : ab_M} {K : ab_K} {Rt : ab_V → ab_S → Prop} {pc n : Nat} {L : ab_L} {r : List ab_V} {σ : ab_S} {i : Int} : ab_ex ab_G1 M K Rt pc n L (.inl i :: .inr (.inr (.inl 94)) :: r) σ .laload = (n = 1 ∧ (0 ≤ i ∧ i < 4) ∧ K (pc + 1) L (.inr (.inl (σ 94 i)) :: r) σ) := by
  rw [ex_laload, ab_io_s, ar1_94, ab_op_s]
  simp
theorem das1_94 {M : ab_M} {K : ab_K} {Rt : ab_V → ab_S → Prop} {pc n : Nat} {L : ab_L} {r : List ab_V} {σ : ab_S} {i x : Int} : ab_ex ab_G1 M K Rt pc n L (.inr (.inl x) :: .inl i :: .inr (.inr (.inl 94)) :: r) σ .lastore = (n = 1 ∧ (0 ≤ i ∧ i < 4) ∧ K (pc + 1) L r (ab_up σ 94 i x)) := by
  rw [ex_lastore, ab_lio_s, ar1_94, ab_op_s]
  simp
theorem dln1_94 {M : ab_M} {K : ab_K} {Rt : ab_V → ab_S → Prop} {pc n : Nat} {L : ab_L} {r : List ab_V} {σ : ab_S} : ab_ex ab_G1 M K Rt pc n L (.inr (.inr (.inl 94)) :: r) σ .arraylength = (n = 1 ∧ K (pc + 1) L (.inl 4 :: r) σ) := by
  rw [ex_arraylength, ab_o1_s, ar1_94, ab_op_s]
  simp
theorem dal1_95 {M : ab_M} {K : ab_K} {Rt : ab_V → ab_S → Prop} {pc n : Nat} {L : ab_L} {r : List ab_V} {σ : ab_S} {i : Int} : ab_ex ab_G1 M K Rt pc n L (.inl i :: .inr (.inr (.inl 95)) :: r) σ .laload = (n = 1 ∧ (0 ≤ i ∧ i < 3) ∧ K (pc + 1) L (.inr (.inl (σ 95 i)) :: r) σ) := by
  rw [ex_laload, ab_io_s, ar1_95, ab_op_s]
  simp
theorem das1_95 {M : ab_M} {K : ab_K} {Rt : ab_V → ab_S → Prop} {pc n : Nat} {L : ab_L} {r : List ab_V} {σ : ab_S} {i x : Int} : ab_ex ab_G1 M K Rt pc n L (.inr (.inl x) :: .inl i :: .inr (.inr (.inl 95)) :: r) σ .lastore = (n = 1 ∧ (0 ≤ i ∧ i < 3) ∧ K (pc + 1) L r (ab_up σ 95 i x)) := by
  rw [ex_lastore, ab_lio_s, ar1_95, ab_op_s]
  simp
theorem dln1_95 {M : ab_M} {K : ab_K} {Rt : ab_V → ab_S → Prop} {pc n : Nat} {L : ab_L} {r : List ab_V} {σ : ab_S} : ab_ex ab_G1 M K Rt pc n L (.inr (.inr (.inl 95)) :: r) σ .arraylength = (n = 1 ∧ K (pc + 1) L (.inl 3 :: r) σ) := by
  rw [ex_arraylength, ab_o1_s, ar1_95, ab_op_s]
  simp
theorem dal1_97 {M : ab_M} {K : ab_K} {Rt : ab_V → ab_S → Prop} {pc n : Nat} {L : ab_L} {r : List ab_V} {σ : ab_S} {i : Int} : ab_ex ab_G1 M K Rt pc n L (.inl i :: .inr (.inr (.inl 97)) :: r) σ .laload = (n = 1 ∧ (0 ≤ i ∧ i < 441) ∧ K (pc + 1) L (.inr (.inl (σ 97 i)) :: r) σ) := by
  rw [ex_laload, ab_io_s, ar1_97, ab_op_s]
  simp
theorem das1_97 {M : ab_M} {K : ab_K} {Rt : ab_V → ab_S → Prop} {pc n : Nat} {L : ab_L} {r : List ab_V} {σ : ab_S} {i x : Int} : ab_ex ab_G1 M K Rt pc n L (.inr (.inl x) :: .inl i :: .inr (.inr (.inl 97)) :: r) σ .lastore = (n = 1 ∧ (0 ≤ i ∧ i < 441) ∧ K (pc + 1) L r (ab_up σ 97 i x)) := by
  rw [ex_lastore, ab_lio_s, ar1_97, ab_op_s]
  simp
theorem dln1_97 {M : ab_M} {K : ab_K} {Rt : ab_V → ab_S → Prop} {pc n : Nat} {L : ab_L} {r : List ab_V} {σ : ab_S} : ab_ex ab_G1 M K Rt pc n L (.inr (.inr (.inl 97)) :: r) σ .arraylength = (n = 1 ∧ K (pc + 1) L (.inl 441 :: r) σ) := by
  rw [ex_arraylength, ab_o1_s, ar1_97, ab_op_s]
  simp
theorem dal1_98 {M : ab_M} {K : ab_K} {Rt : ab_V → ab_S → Prop} {pc n : Nat} {L : ab_L} {r : List ab_V} {σ : ab_S} {i : Int} : ab_ex ab_G1 M K Rt pc n L (.inl i :: .inr (.inr (.inl 98)) :: r) σ .laload = (n = 1 ∧ (0 ≤ i ∧ i < 441) ∧ K (pc + 1) L (.inr (.inl (σ 98 i)) :: r) σ) := by
  rw [ex_laload, ab_io_s, ar1_98, ab_op_s]
  simp
theorem das1_98 {M : ab_M} {K : ab_K} {Rt : ab_V → ab_S → Prop} {pc n : Nat} {L : ab_L} {r : List ab_V} {σ : ab_S} {i x : Int} : ab_ex ab_G1 M K Rt pc n L (.inr (.inl x) :: .inl i :: .inr (.inr (.inl 98)) :: r) σ .lastore = (n = 1 ∧ (0 ≤ i ∧ i < 441) ∧ K (pc + 1) L r (ab_up σ 98 i x)) := by
  rw [ex_lastore, ab_lio_s, ar1_98, ab_op_s]
  simp
theorem dln1_98 {M : ab_M} {K : ab_K} {Rt : ab_V → ab_S → Prop} {pc n : Nat} {L : ab_L} {r : List ab_V} {σ : ab_S} : ab_ex ab_G1 M K Rt pc n L (.inr (.inr (.inl 98)) :: r) σ .arraylength = (n = 1 ∧ K (pc + 1) L (.inl 441 :: r) σ) := by
  rw [ex_arraylength, ab_o1_s, ar1_98, ab_op_s]
  simp
theorem dal1_99 {M : ab_M} {K : ab_K} {Rt : ab_V → ab_S → Prop} {pc n : Nat} {L : ab_L} {r : List ab_V} {σ : ab_S} {i : Int} : ab_ex ab_G1 M K Rt pc n L (.inl i :: .inr (.inr (.inl 99)) :: r) σ .iaload = (n = 1 ∧ (0 ≤ i ∧ i < 441) ∧ K (pc + 1) L (.inl (σ 99 i) :: r) σ) := by
  rw [ex_iaload, ab_io_s, ar1_99, ab_op_s]
  simp
theorem das1_99 {M : ab_M} {K : ab_K} {Rt : ab_V → ab_S → Prop} {pc n : Nat} {L : ab_L} {r : List ab_V} {σ : ab_S} {i x : Int} : ab_ex ab_G1 M K Rt pc n L (.inl x :: .inl i :: .inr (.inr (.inl 99)) :: r) σ .iastore = (n = 1 ∧ (0 ≤ i ∧ i < 441) ∧ K (pc + 1) L r (ab_up σ 99 i x)) := by
  rw [ex_iastore, ab_iio_s, ar1_99, ab_op_s]
  simp
theorem dln1_99 {M : ab_M} {K : ab_K} {Rt : ab_V → ab_S → Prop} {pc n : Nat} {L : ab_L} {r : List ab_V} {σ : ab_S} : ab_ex ab_G1 M K Rt pc n L (.inr (.inr (.inl 99)) :: r) σ .arraylength = (n = 1 ∧ K (pc + 1) L (.inl 441 :: r) σ) := by
  rw [ex_arraylength, ab_o1_s, ar1_99, ab_op_s]
  simp
theorem dal1_100 {M : ab_M} {K : ab_K} {Rt : ab_V → ab_S → Prop} {pc n : Nat} {L : ab_L} {r : List ab_V} {σ : ab_S} {i : Int} : ab_ex ab_G1 M K Rt pc n L (.inl i :: .inr (.inr (.inl 100)) :: r) σ .laload = (n = 1 ∧ (0 ≤ i ∧ i < 4) ∧ K (pc + 1) L (.inr (.inl (σ 100 i)) :: r) σ) := by
  rw [ex_laload, ab_io_s, ar1_100, ab_op_s]
  simp
theorem das1_100 {M : ab_M} {K : ab_K} {Rt : ab_V → ab_S → Prop} {pc n : Nat} {L : ab_L} {r : List ab_V} {σ : ab_S} {i x : Int} : ab_ex ab_G1 M K Rt pc n L (.inr (.inl x) :: .inl i :: .inr (.inr (.inl 100)) :: r) σ .lastore = (n = 1 ∧ (0 ≤ i ∧ i < 4) ∧ K (pc + 1) L r (ab_up σ 100 i x)) := by
  rw [ex_lastore, ab_lio_s, ar1_100, ab_op_s]
  simp
theorem dln1_100 {M : ab_M} {K : ab_K} {Rt : ab_V → ab_S → Prop} {pc n : Nat} {L : ab_L} {r : List ab_V} {σ : ab_S} : ab_ex ab_G1 M K Rt pc n L (.inr (.inr (.inl 100)) :: r) σ .arraylength = (n = 1 ∧ K (pc + 1) L (.inl 4 :: r) σ) := by
  rw [ex_arraylength, ab_o1_s, ar1_100, ab_op_s]
  simp
theorem dal1_101 {M : ab_M} {K : ab_K} {Rt : ab_V → ab_S → Prop} {pc n : Nat} {L : ab_L} {r : List ab_V} {σ : ab_S} {i : Int} : ab_ex ab_G1 M K Rt pc n L (.inl i :: .inr (.inr (.inl 101)) :: r) σ .laload = (n = 1 ∧ (0 ≤ i ∧ i < 4) ∧ K (pc + 1) L (.inr (.inl (σ 101 i)) :: r) σ) := by
  rw [ex_laload, ab_io_s, ar1_101, ab_op_s]
  simp
theorem das1_101 {M : ab_M} {K : ab_K} {Rt : ab_V → ab_S → Prop} {pc n : Nat} {L : ab_L} {r : List ab_V} {σ : ab_S} {i x : Int} : ab_ex ab_G1 M K Rt pc n L (.inr (.inl x) :: .inl i :: .inr (.inr (.inl 101)) :: r) σ .lastore = (n = 1 ∧ (0 ≤ i ∧ i < 4) ∧ K (pc + 1) L r (ab_up σ 101 i x)) := by
  rw [ex_lastore, ab_lio_s, ar1_101, ab_op_s]
  simp
theorem dln1_101 {M : ab_M} {K : ab_K} {Rt : ab_V → ab_S → Prop} {pc n : Nat} {L : ab_L} {r : List ab_V} {σ : ab_S} : ab_ex ab_G1 M K Rt pc n L (.inr (.inr (.inl 101)) :: r) σ .arraylength = (n = 1 ∧ K (pc + 1) L (.inl 4 :: r) σ) := by
  rw [ex_arraylength, ab_o1_s, ar1_101, ab_op_s]
  simp
theorem dal1_102 {M : ab_M} {K : ab_K} {Rt : ab_V → ab_S → Prop} {pc n : Nat} {L : ab_L} {r : List ab_V} {σ : ab_S} {i : Int} : ab_ex ab_G1 M K Rt pc n L (.inl i :: .inr (.inr (.inl 102)) :: r) σ .iaload = (n = 1 ∧ (0 ≤ i ∧ i < 4) ∧ K (pc + 1) L (.inl (σ 102 i) :: r) σ) := by
  rw [ex_iaload, ab_io_s, ar1_102, ab_op_s]
  simp
theorem das1_102 {M : ab_M} {K : ab_K} {Rt : ab_V → ab_S → Prop} {pc n : Nat} {L : ab_L} {r : List ab_V} {σ : ab_S} {i x : Int} : ab_ex ab_G1 M K Rt pc n L (.inl x :: .inl i :: .inr (.inr (.inl 102)) :: r) σ .iastore = (n = 1 ∧ (0 ≤ i ∧ i < 4) ∧ K (pc + 1) L r (ab_up σ 102 i x)) := by
  rw [ex_iastore, ab_iio_s, ar1_102, ab_op_s]
  simp
theorem dln1_102 {M : ab_M} {K : ab_K} {Rt : ab_V → ab_S → Prop} {pc n : Nat} {L : ab_L} {r : List ab_V} {σ : ab_S} : ab_ex ab_G1 M K Rt pc n L (.inr (.inr (.inl 102)) :: r) σ .arraylength = (n = 1 ∧ K (pc + 1) L (.inl 4 :: r) σ) := by
  rw [ex_arraylength, ab_o1_s, ar1_102, ab_op_s]
  simp
theorem dal2_1 {M : ab_M} {K : ab_K} {Rt : ab_V → ab_S → Prop} {pc n : Nat} {L : ab_L} {r : List ab_V} {σ : ab_S} {i : Int} : ab_ex ab_G2 M K Rt pc n L (.inl i :: .inr (.inr (.inl 1)) :: r) σ .laload = (n = 1 ∧ (0 ≤ i ∧ i < 12) ∧ K (pc + 1) L (.inr (.inl (σ 1 i)) :: r) σ) := by
  rw [ex_laload, ab_io_s, ar2_1, ab_op_s]
  simp
theorem das2_1 {M : ab_M} {K : ab_K} {Rt : ab_V → ab_S → Prop} {pc n : Nat} {L : ab_L} {r : List ab_V} {σ : ab_S} {i x : Int} : ab_ex ab_G2 M K Rt pc n L (.inr (.inl x) :: .inl i :: .inr (.inr (.inl 1)) :: r) σ .lastore = (n = 1 ∧ (0 ≤ i ∧ i < 12) ∧ K (pc + 1) L r (ab_up σ 1 i x)) := by
  rw [ex_lastore, ab_lio_s, ar2_1, ab_op_s]
  simp
theorem dln2_1 {M : ab_M} {K : ab_K} {Rt : ab_V → ab_S → Prop} {pc n : Nat} {L : ab_L} {r : List ab_V} {σ : ab_S} : ab_ex ab_G2 M K Rt pc n L (.inr (.inr (.inl 1)) :: r) σ .arraylength = (n = 1 ∧ K (pc + 1) L (.inl 12 :: r) σ) := by
  rw [ex_arraylength, ab_o1_s, ar2_1, ab_op_s]
  simp
theorem dal2_2 {M : ab_M} {K : ab_K} {Rt : ab_V → ab_S → Prop} {pc n : Nat} {L : ab_L} {r : List ab_V} {σ : ab_S} {i : Int} : ab_ex ab_G2 M K Rt pc n L (.inl i :: .inr (.inr (.inl 2)) :: r) σ .laload = (n = 1 ∧ (0 ≤ i ∧ i < 12) ∧ K (pc + 1) L (.inr (.inl (σ 2 i)) :: r) σ) := by
  rw [ex_laload, ab_io_s, ar2_2, ab_op_s]
  simp
theorem das2_2 {M : ab_M} {K : ab_K} {Rt : ab_V → ab_S → Prop} {pc n : Nat} {L : ab_L} {r : List ab_V} {σ : ab_S} {i x : Int} : ab_ex ab_G2 M K Rt pc n L (.inr (.inl x) :: .inl i :: .inr (.inr (.inl 2)) :: r) σ .lastore = (n = 1 ∧ (0 ≤ i ∧ i < 12) ∧ K (pc + 1) L r (ab_up σ 2 i x)) := by
  rw [ex_lastore, ab_lio_s, ar2_2, ab_op_s]
  simp
theorem dln2_2 {M : ab_M} {K : ab_K} {Rt : ab_V → ab_S → Prop} {pc n : Nat} {L : ab_L} {r : List ab_V} {σ : ab_S} : ab_ex ab_G2 M K Rt pc n L (.inr (.inr (.inl 2)) :: r) σ .arraylength = (n = 1 ∧ K (pc + 1) L (.inl 12 :: r) σ) := by
  rw [ex_arraylength, ab_o1_s, ar2_2, ab_op_s]
  simp
theorem dal2_3 {M : ab_M} {K : ab_K} {Rt : ab_V → ab_S → Prop} {pc n : Nat} {L : ab_L} {r : List ab_V} {σ : ab_S} {i : Int} : ab_ex ab_G2 M K Rt pc n L (.inl i :: .inr (.inr (.inl 3)) :: r) σ .iaload = (n = 1 ∧ (0 ≤ i ∧ i < 12) ∧ K (pc + 1) L (.inl (σ 3 i) :: r) σ) := by
  rw [ex_iaload, ab_io_s, ar2_3, ab_op_s]
  simp
theorem das2_3 {M : ab_M} {K : ab_K} {Rt : ab_V → ab_S → Prop} {pc n : Nat} {L : ab_L} {r : List ab_V} {σ : ab_S} {i x : Int} : ab_ex ab_G2 M K Rt pc n L (.inl x :: .inl i :: .inr (.inr (.inl 3)) :: r) σ .iastore = (n = 1 ∧ (0 ≤ i ∧ i < 12) ∧ K (pc + 1) L r (ab_up σ 3 i x)) := by
  rw [ex_iastore, ab_iio_s, ar2_3, ab_op_s]
  simp
theorem dln2_3 {M : ab_M} {K : ab_K} {Rt : ab_V → ab_S → Prop} {pc n : Nat} {L : ab_L} {r : List ab_V} {σ : ab_S} : ab_ex ab_G2 M K Rt pc n L (.inr (.inr (.inl 3)) :: r) σ .arraylength = (n = 1 ∧ K (pc + 1) L (.inl 12 :: r) σ) := by
  rw [ex_arraylength, ab_o1_s, ar2_3, ab_op_s]
  simp
theorem dal2_4 {M : ab_M} {K : ab_K} {Rt : ab_V → ab_S → Prop} {pc n : Nat} {L : ab_L} {r : List ab_V} {σ : ab_S} {i : Int} : ab_ex ab_G2 M K Rt pc n L (.inl i :: .inr (.inr (.inl 4)) :: r) σ .iaload = (n = 1 ∧ (0 ≤ i ∧ i < 12) ∧ K (pc + 1) L (.inl (σ 4 i) :: r) σ) := by
  rw [ex_iaload, ab_io_s, ar2_4, ab_op_s]
  simp
theorem das2_4 {M : ab_M} {K : ab_K} {Rt : ab_V → ab_S → Prop} {pc n : Nat} {L : ab_L} {r : List ab_V} {σ : ab_S} {i x : Int} : ab_ex ab_G2 M K Rt pc n L (.inl x :: .inl i :: .inr (.inr (.inl 4)) :: r) σ .iastore = (n = 1 ∧ (0 ≤ i ∧ i < 12) ∧ K (pc + 1) L r (ab_up σ 4 i x)) := by
  rw [ex_iastore, ab_iio_s, ar2_4, ab_op_s]
  simp
theorem dln2_4 {M : ab_M} {K : ab_K} {Rt : ab_V → ab_S → Prop} {pc n : Nat} {L : ab_L} {r : List ab_V} {σ : ab_S} : ab_ex ab_G2 M K Rt pc n L (.inr (.inr (.inl 4)) :: r) σ .arraylength = (n = 1 ∧ K (pc + 1) L (.inl 12 :: r) σ) := by
  rw [ex_arraylength, ab_o1_s, ar2_4, ab_op_s]
  simp
theorem dal2_5 {M : ab_M} {K : ab_K} {Rt : ab_V → ab_S → Prop} {pc n : Nat} {L : ab_L} {r : List ab_V} {σ : ab_S} {i : Int} : ab_ex ab_G2 M K Rt pc n L (.inl i :: .inr (.inr (.inl 5)) :: r) σ .iaload = (n = 1 ∧ (0 ≤ i ∧ i < 36) ∧ K (pc + 1) L (.inl (σ 5 i) :: r) σ) := by
  rw [ex_iaload, ab_io_s, ar2_5, ab_op_s]
  simp
theorem das2_5 {M : ab_M} {K : ab_K} {Rt : ab_V → ab_S → Prop} {pc n : Nat} {L : ab_L} {r : List ab_V} {σ : ab_S} {i x : Int} : ab_ex ab_G2 M K Rt pc n L (.inl x :: .inl i :: .inr (.inr (.inl 5)) :: r) σ .iastore = (n = 1 ∧ (0 ≤ i ∧ i < 36) ∧ K (pc + 1) L r (ab_up σ 5 i x)) := by
  rw [ex_iastore, ab_iio_s, ar2_5, ab_op_s]
  simp
theorem dln2_5 {M : ab_M} {K : ab_K} {Rt : ab_V → ab_S → Prop} {pc n : Nat} {L : ab_L} {r : List ab_V} {σ : ab_S} : ab_ex ab_G2 M K Rt pc n L (.inr (.inr (.inl 5)) :: r) σ .arraylength = (n = 1 ∧ K (pc + 1) L (.inl 36 :: r) σ) := by
  rw [ex_arraylength, ab_o1_s, ar2_5, ab_op_s]
  simp
theorem dal2_6 {M : ab_M} {K : ab_K} {Rt : ab_V → ab_S → Prop} {pc n : Nat} {L : ab_L} {r : List ab_V} {σ : ab_S} {i : Int} : ab_ex ab_G2 M K Rt pc n L (.inl i :: .inr (.inr (.inl 6)) :: r) σ .iaload = (n = 1 ∧ (0 ≤ i ∧ i < 36) ∧ K (pc + 1) L (.inl (σ 6 i) :: r) σ) := by
  rw [ex_iaload, ab_io_s, ar2_6, ab_op_s]
  simp
theorem das2_6 {M : ab_M} {K : ab_K} {Rt : ab_V → ab_S → Prop} {pc n : Nat} {L : ab_L} {r : List ab_V} {σ : ab_S} {i x : Int} : ab_ex ab_G2 M K Rt pc n L (.inl x :: .inl i :: .inr (.inr (.inl 6)) :: r) σ .iastore = (n = 1 ∧ (0 ≤ i ∧ i < 36) ∧ K (pc + 1) L r (ab_up σ 6 i x)) := by
  rw [ex_iastore, ab_iio_s, ar2_6, ab_op_s]
  simp
theorem dln2_6 {M : ab_M} {K : ab_K} {Rt : ab_V → ab_S → Prop} {pc n : Nat} {L : ab_L} {r : List ab_V} {σ : ab_S} : ab_ex ab_G2 M K Rt pc n L (.inr (.inr (.inl 6)) :: r) σ .arraylength = (n = 1 ∧ K (pc + 1) L (.inl 36 :: r) σ) := by
  rw [ex_arraylength, ab_o1_s, ar2_6, ab_op_s]
  simp
theorem dal2_7 {M : ab_M} {K : ab_K} {Rt : ab_V → ab_S → Prop} {pc n : Nat} {L : ab_L} {r : List ab_V} {σ : ab_S} {i : Int} : ab_ex ab_G2 M K Rt pc n L (.inl i :: .inr (.inr (.inl 7)) :: r) σ .iaload = (n = 1 ∧ (0 ≤ i ∧ i < 16) ∧ K (pc + 1) L (.inl (σ 7 i) :: r) σ) := by
  rw [ex_iaload, ab_io_s, ar2_7, ab_op_s]
  simp
theorem das2_7 {M : ab_M} {K : ab_K} {Rt : ab_V → ab_S → Prop} {pc n : Nat} {L : ab_L} {r : List ab_V} {σ : ab_S} {i x : Int} : ab_ex ab_G2 M K Rt pc n L (.inl x :: .inl i :: .inr (.inr (.inl 7)) :: r) σ .iastore = (n = 1 ∧ (0 ≤ i ∧ i < 16) ∧ K (pc + 1) L r (ab_up σ 7 i x)) := by
  rw [ex_iastore, ab_iio_s, ar2_7, ab_op_s]
  simp
theorem dln2_7 {M : ab_M} {K : ab_K} {Rt : ab_V → ab_S → Prop} {pc n : Nat} {L : ab_L} {r : List ab_V} {σ : ab_S} : ab_ex ab_G2 M K Rt pc n L (.inr (.inr (.inl 7)) :: r) σ .arraylength = (n = 1 ∧ K (pc + 1) L (.inl 16 :: r) σ) := by
  rw [ex_arraylength, ab_o1_s, ar2_7, ab_op_s]
  simp
theorem dal2_8 {M : ab_M} {K : ab_K} {Rt : ab_V → ab_S → Prop} {pc n : Nat} {L : ab_L} {r : List ab_V} {σ : ab_S} {i : Int} : ab_ex ab_G2 M K Rt pc n L (.inl i :: .inr (.inr (.inl 8)) :: r) σ .iaload = (n = 1 ∧ (0 ≤ i ∧ i < 16) ∧ K (pc + 1) L (.inl (σ 8 i) :: r) σ) := by
  rw [ex_iaload, ab_io_s, ar2_8, ab_op_s]
  simp
theorem das2_8 {M : ab_M} {K : ab_K} {Rt : ab_V → ab_S → Prop} {pc n : Nat} {L : ab_L} {r : List ab_V} {σ : ab_S} {i x : Int} : ab_ex ab_G2 M K Rt pc n L (.inl x :: .inl i :: .inr (.inr (.inl 8)) :: r) σ .iastore = (n = 1 ∧ (0 ≤ i ∧ i < 16) ∧ K (pc + 1) L r (ab_up σ 8 i x)) := by
  rw [ex_iastore, ab_iio_s, ar2_8, ab_op_s]
  simp
theorem dln2_8 {M : ab_M} {K : ab_K} {Rt : ab_V → ab_S → Prop} {pc n : Nat} {L : ab_L} {r : List ab_V} {σ : ab_S} : ab_ex ab_G2 M K Rt pc n L (.inr (.inr (.inl 8)) :: r) σ .arraylength = (n = 1 ∧ K (pc + 1) L (.inl 16 :: r) σ) := by
  rw [ex_arraylength, ab_o1_s, ar2_8, ab_op_s]
  simp
theorem dal2_9 {M : ab_M} {K : ab_K} {Rt : ab_V → ab_S → Prop} {pc n : Nat} {L : ab_L} {r : List ab_V} {σ : ab_S} {i : Int} : ab_ex ab_G2 M K Rt pc n L (.inl i :: .inr (.inr (.inl 9)) :: r) σ .iaload = (n = 1 ∧ (0 ≤ i ∧ i < 16) ∧ K (pc + 1) L (.inl (σ 9 i) :: r) σ) := by
  rw [ex_iaload, ab_io_s, ar2_9, ab_op_s]
  simp
theorem das2_9 {M : ab_M} {K : ab_K} {Rt : ab_V → ab_S → Prop} {pc n : Nat} {L : ab_L} {r : List ab_V} {σ : ab_S} {i x : Int} : ab_ex ab_G2 M K Rt pc n L (.inl x :: .inl i :: .inr (.inr (.inl 9)) :: r) σ .iastore = (n = 1 ∧ (0 ≤ i ∧ i < 16) ∧ K (pc + 1) L r (ab_up σ 9 i x)) := by
  rw [ex_iastore, ab_iio_s, ar2_9, ab_op_s]
  simp
theorem dln2_9 {M : ab_M} {K : ab_K} {Rt : ab_V → ab_S → Prop} {pc n : Nat} {L : ab_L} {r : List ab_V} {σ : ab_S} : ab_ex ab_G2 M K Rt pc n L (.inr (.inr (.inl 9)) :: r) σ .arraylength = (n = 1 ∧ K (pc + 1) L (.inl 16 :: r) σ) := by
  rw [ex_arraylength, ab_o1_s, ar2_9, ab_op_s]
  simp
theorem dal2_10 {M : ab_M} {K : ab_K} {Rt : ab_V → ab_S → Prop} {pc n : Nat} {L : ab_L} {r : List ab_V} {σ : ab_S} {i : Int} : ab_ex ab_G2 M K Rt pc n L (.inl i :: .inr (.inr (.inl 10)) :: r) σ .iaload = (n = 1 ∧ (0 ≤ i ∧ i < 16) ∧ K (pc + 1) L (.inl (σ 10 i) :: r) σ) := by
  rw [ex_iaload, ab_io_s, ar2_10, ab_op_s]
  simp
theorem das2_10 {M : ab_M} {K : ab_K} {Rt : ab_V → ab_S → Prop} {pc n : Nat} {L : ab_L} {r : List ab_V} {σ : ab_S} {i x : Int} : ab_ex ab_G2 M K Rt pc n L (.inl x :: .inl i :: .inr (.inr (.inl 10)) :: r) σ .iastore = (n = 1 ∧ (0 ≤ i ∧ i < 16) ∧ K (pc + 1) L r (ab_up σ 10 i x)) := by
  rw [ex_iastore, ab_iio_s, ar2_10, ab_op_s]
  simp
theorem dln2_10 {M : ab_M} {K : ab_K} {Rt : ab_V → ab_S → Prop} {pc n : Nat} {L : ab_L} {r : List ab_V} {σ : ab_S} : ab_ex ab_G2 M K Rt pc n L (.inr (.inr (.inl 10)) :: r) σ .arraylength = (n = 1 ∧ K (pc + 1) L (.inl 16 :: r) σ) := by
  rw [ex_arraylength, ab_o1_s, ar2_10, ab_op_s]
  simp
theorem dal2_11 {M : ab_M} {K : ab_K} {Rt : ab_V → ab_S → Prop} {pc n : Nat} {L : ab_L} {r : List ab_V} {σ : ab_S} {i : Int} : ab_ex ab_G2 M K Rt pc n L (.inl i :: .inr (.inr (.inl 11)) :: r) σ .iaload = (n = 1 ∧ (0 ≤ i ∧ i < 16) ∧ K (pc + 1) L (.inl (σ 11 i) :: r) σ) := by
  rw [ex_iaload, ab_io_s, ar2_11, ab_op_s]
  simp
theorem das2_11 {M : ab_M} {K : ab_K} {Rt : ab_V → ab_S → Prop} {pc n : Nat} {L : ab_L} {r : List ab_V} {σ : ab_S} {i x : Int} : ab_ex ab_G2 M K Rt pc n L (.inl x :: .inl i :: .inr (.inr (.inl 11)) :: r) σ .iastore = (n = 1 ∧ (0 ≤ i ∧ i < 16) ∧ K (pc + 1) L r (ab_up σ 11 i x)) := by
  rw [ex_iastore, ab_iio_s, ar2_11, ab_op_s]
  simp
theorem dln2_11 {M : ab_M} {K : ab_K} {Rt : ab_V → ab_S → Prop} {pc n : Nat} {L : ab_L} {r : List ab_V} {σ : ab_S} : ab_ex ab_G2 M K Rt pc n L (.inr (.inr (.inl 11)) :: r) σ .arraylength = (n = 1 ∧ K (pc + 1) L (.inl 16 :: r) σ) := by
  rw [ex_arraylength, ab_o1_s, ar2_11, ab_op_s]
  simp
theorem dal2_12 {M : ab_M} {K : ab_K} {Rt : ab_V → ab_S → Prop} {pc n : Nat} {L : ab_L} {r : List ab_V} {σ : ab_S} {i : Int} : ab_ex ab_G2 M K Rt pc n L (.inl i :: .inr (.inr (.inl 12)) :: r) σ .iaload = (n = 1 ∧ (0 ≤ i ∧ i < 16) ∧ K (pc + 1) L (.inl (σ 12 i) :: r) σ) := by
  rw [ex_iaload, ab_io_s, ar2_12, ab_op_s]
  simp
theorem das2_12 {M : ab_M} {K : ab_K} {Rt : ab_V → ab_S → Prop} {pc n : Nat} {L : ab_L} {r : List ab_V} {σ : ab_S} {i x : Int} : ab_ex ab_G2 M K Rt pc n L (.inl x :: .inl i :: .inr (.inr (.inl 12)) :: r) σ .iastore = (n = 1 ∧ (0 ≤ i ∧ i < 16) ∧ K (pc + 1) L r (ab_up σ 12 i x)) := by
  rw [ex_iastore, ab_iio_s, ar2_12, ab_op_s]
  simp
theorem dln2_12 {M : ab_M} {K : ab_K} {Rt : ab_V → ab_S → Prop} {pc n : Nat} {L : ab_L} {r : List ab_V} {σ : ab_S} : ab_ex ab_G2 M K Rt pc n L (.inr (.inr (.inl 12)) :: r) σ .arraylength = (n = 1 ∧ K (pc + 1) L (.inl 16 :: r) σ) := by
  rw [ex_arraylength, ab_o1_s, ar2_12, ab_op_s]
  simp
theorem dal2_13 {M : ab_M} {K : ab_K} {Rt : ab_V → ab_S → Prop} {pc n : Nat} {L : ab_L} {r : List ab_V} {σ : ab_S} {i : Int} : ab_ex ab_G2 M K Rt pc n L (.inl i :: .inr (.inr (.inl 13)) :: r) σ .iaload = (n = 1 ∧ (0 ≤ i ∧ i < 16) ∧ K (pc + 1) L (.inl (σ 13 i) :: r) σ) := by
  rw [ex_iaload, ab_io_s, ar2_13, ab_op_s]
  simp
theorem das2_13 {M : ab_M} {K : ab_K} {Rt : ab_V → ab_S → Prop} {pc n : Nat} {L : ab_L} {r : List ab_V} {σ : ab_S} {i x : Int} : ab_ex ab_G2 M K Rt pc n L (.inl x :: .inl i :: .inr (.inr (.inl 13)) :: r) σ .iastore = (n = 1 ∧ (0 ≤ i ∧ i < 16) ∧ K (pc + 1) L r (ab_up σ 13 i x)) := by
  rw [ex_iastore, ab_iio_s, ar2_13, ab_op_s]
  simp
theorem dln2_13 {M : ab_M} {K : ab_K} {Rt : ab_V → ab_S → Prop} {pc n : Nat} {L : ab_L} {r : List ab_V} {σ : ab_S} : ab_ex ab_G2 M K Rt pc n L (.inr (.inr (.inl 13)) :: r) σ .arraylength = (n = 1 ∧ K (pc + 1) L (.inl 16 :: r) σ) := by
  rw [ex_arraylength, ab_o1_s, ar2_13, ab_op_s]
  simp
theorem dal2_14 {M : ab_M} {K : ab_K} {Rt : ab_V → ab_S → Prop} {pc n : Nat} {L : ab_L} {r : List ab_V} {σ : ab_S} {i : Int} : ab_ex ab_G2 M K Rt pc n L (.inl i :: .inr (.inr (.inl 14)) :: r) σ .iaload = (n = 1 ∧ (0 ≤ i ∧ i < 16) ∧ K (pc + 1) L (.inl (σ 14 i) :: r) σ) := by
  rw [ex_iaload, ab_io_s, ar2_14, ab_op_s]
  simp
theorem das2_14 {M : ab_M} {K : ab_K} {Rt : ab_V → ab_S → Prop} {pc n : Nat} {L : ab_L} {r : List ab_V} {σ : ab_S} {i x : Int} : ab_ex ab_G2 M K Rt pc n L (.inl x :: .inl i :: .inr (.inr (.inl 14)) :: r) σ .iastore = (n = 1 ∧ (0 ≤ i ∧ i < 16) ∧ K (pc + 1) L r (ab_up σ 14 i x)) := by
  rw [ex_iastore, ab_iio_s, ar2_14, ab_op_s]
  simp
theorem dln2_14 {M : ab_M} {K : ab_K} {Rt : ab_V → ab_S → Prop} {pc n : Nat} {L : ab_L} {r : List ab_V} {σ : ab_S} : ab_ex ab_G2 M K Rt pc n L (.inr (.inr (.inl 14)) :: r) σ .arraylength = (n = 1 ∧ K (pc + 1) L (.inl 16 :: r) σ) := by
  rw [ex_arraylength, ab_o1_s, ar2_14, ab_op_s]
  simp
theorem dal2_15 {M : ab_M} {K : ab_K} {Rt : ab_V → ab_S → Prop} {pc n : Nat} {L : ab_L} {r : List ab_V} {σ : ab_S} {i : Int} : ab_ex ab_G2 M K Rt pc n L (.inl i :: .inr (.inr (.inl 15)) :: r) σ .baload = (n = 1 ∧ (0 ≤ i ∧ i < 900) ∧ K (pc + 1) L (.inl (σ 15 i) :: r) σ) := by
  rw [ex_baload, ab_io_s, ar2_15, ab_op_s]
  simp
theorem das2_15 {M : ab_M} {K : ab_K} {Rt : ab_V → ab_S → Prop} {pc n : Nat} {L : ab_L} {r : List ab_V} {σ : ab_S} {i x : Int} : ab_ex ab_G2 M K Rt pc n L (.inl x :: .inl i :: .inr (.inr (.inl 15)) :: r) σ .bastore = (n = 1 ∧ (-128 ≤ x ∧ x ≤ 127) ∧ (0 ≤ i ∧ i < 900) ∧ K (pc + 1) L r (ab_up σ 15 i x)) := by
  rw [ex_bastore, ab_iio_s, ar2_15, ab_op_s]
  simp
theorem dln2_15 {M : ab_M} {K : ab_K} {Rt : ab_V → ab_S → Prop} {pc n : Nat} {L : ab_L} {r : List ab_V} {σ : ab_S} : ab_ex ab_G2 M K Rt pc n L (.inr (.inr (.inl 15)) :: r) σ .arraylength = (n = 1 ∧ K (pc + 1) L (.inl 900 :: r) σ) := by
  rw [ex_arraylength, ab_o1_s, ar2_15, ab_op_s]
  simp
theorem dal2_16 {M : ab_M} {K : ab_K} {Rt : ab_V → ab_S → Prop} {pc n : Nat} {L : ab_L} {r : List ab_V} {σ : ab_S} {i : Int} : ab_ex ab_G2 M K Rt pc n L (.inl i :: .inr (.inr (.inl 16)) :: r) σ .iaload = (n = 1 ∧ (0 ≤ i ∧ i < 9) ∧ K (pc + 1) L (.inl (σ 16 i) :: r) σ) := by
  rw [ex_iaload, ab_io_s, ar2_16, ab_op_s]
  simp
theorem das2_16 {M : ab_M} {K : ab_K} {Rt : ab_V → ab_S → Prop} {pc n : Nat} {L : ab_L} {r : List ab_V} {σ : ab_S} {i x : Int} : ab_ex ab_G2 M K Rt pc n L (.inl x :: .inl i :: .inr (.inr (.inl 16)) :: r) σ .iastore = (n = 1 ∧ (0 ≤ i ∧ i < 9) ∧ K (pc + 1) L r (ab_up σ 16 i x)) := by
  rw [ex_iastore, ab_iio_s, ar2_16, ab_op_s]
  simp
theorem dln2_16 {M : ab_M} {K : ab_K} {Rt : ab_V → ab_S → Prop} {pc n : Nat} {L : ab_L} {r : List ab_V} {σ : ab_S} : ab_ex ab_G2 M K Rt pc n L (.inr (.inr (.inl 16)) :: r) σ .arraylength = (n = 1 ∧ K (pc + 1) L (.inl 9 :: r) σ) := by
  rw [ex_arraylength, ab_o1_s, ar2_16, ab_op_s]
  simp
theorem dal2_17 {M : ab_M} {K : ab_K} {Rt : ab_V → ab_S → Prop} {pc n : Nat} {L : ab_L} {r : List ab_V} {σ : ab_S} {i : Int} : ab_ex ab_G2 M K Rt pc n L (.inl i :: .inr (.inr (.inl 17)) :: r) σ .iaload = (n = 1 ∧ (0 ≤ i ∧ i < 120) ∧ K (pc + 1) L (.inl (σ 17 i) :: r) σ) := by
  rw [ex_iaload, ab_io_s, ar2_17, ab_op_s]
  simp
theorem das2_17 {M : ab_M} {K : ab_K} {Rt : ab_V → ab_S → Prop} {pc n : Nat} {L : ab_L} {r : List ab_V} {σ : ab_S} {i x : Int} : ab_ex ab_G2 M K Rt pc n L (.inl x :: .inl i :: .inr (.inr (.inl 17)) :: r) σ .iastore = (n = 1 ∧ (0 ≤ i ∧ i < 120) ∧ K (pc + 1) L r (ab_up σ 17 i x)) := by
  rw [ex_iastore, ab_iio_s, ar2_17, ab_op_s]
  simp
theorem dln2_17 {M : ab_M} {K : ab_K} {Rt : ab_V → ab_S → Prop} {pc n : Nat} {L : ab_L} {r : List ab_V} {σ : ab_S} : ab_ex ab_G2 M K Rt pc n L (.inr (.inr (.inl 17)) :: r) σ .arraylength = (n = 1 ∧ K (pc + 1) L (.inl 120 :: r) σ) := by
  rw [ex_arraylength, ab_o1_s, ar2_17, ab_op_s]
  simp
theorem dal2_18 {M : ab_M} {K : ab_K} {Rt : ab_V → ab_S → Prop} {pc n : Nat} {L : ab_L} {r : List ab_V} {σ : ab_S} {i : Int} : ab_ex ab_G2 M K Rt pc n L (.inl i :: .inr (.inr (.inl 18)) :: r) σ .iaload = (n = 1 ∧ (0 ≤ i ∧ i < 120) ∧ K (pc + 1) L (.inl (σ 18 i) :: r) σ) := by
  rw [ex_iaload, ab_io_s, ar2_18, ab_op_s]
  simp
theorem das2_18 {M : ab_M} {K : ab_K} {Rt : ab_V → ab_S → Prop} {pc n : Nat} {L : ab_L} {r : List ab_V} {σ : ab_S} {i x : Int} : ab_ex ab_G2 M K Rt pc n L (.inl x :: .inl i :: .inr (.inr (.inl 18)) :: r) σ .iastore = (n = 1 ∧ (0 ≤ i ∧ i < 120) ∧ K (pc + 1) L r (ab_up σ 18 i x)) := by
  rw [ex_iastore, ab_iio_s, ar2_18, ab_op_s]
  simp
theorem dln2_18 {M : ab_M} {K : ab_K} {Rt : ab_V → ab_S → Prop} {pc n : Nat} {L : ab_L} {r : List ab_V} {σ : ab_S} : ab_ex ab_G2 M K Rt pc n L (.inr (.inr (.inl 18)) :: r) σ .arraylength = (n = 1 ∧ K (pc + 1) L (.inl 120 :: r) σ) := by
  rw [ex_arraylength, ab_o1_s, ar2_18, ab_op_s]
  simp
theorem dal2_19 {M : ab_M} {K : ab_K} {Rt : ab_V → ab_S → Prop} {pc n : Nat} {L : ab_L} {r : List ab_V} {σ : ab_S} {i : Int} : ab_ex ab_G2 M K Rt pc n L (.inl i :: .inr (.inr (.inl 19)) :: r) σ .iaload = (n = 1 ∧ (0 ≤ i ∧ i < 120) ∧ K (pc + 1) L (.inl (σ 19 i) :: r) σ) := by
  rw [ex_iaload, ab_io_s, ar2_19, ab_op_s]
  simp
theorem das2_19 {M : ab_M} {K : ab_K} {Rt : ab_V → ab_S → Prop} {pc n : Nat} {L : ab_L} {r : List ab_V} {σ : ab_S} {i x : Int} : ab_ex ab_G2 M K Rt pc n L (.inl x :: .inl i :: .inr (.inr (.inl 19)) :: r) σ .iastore = (n = 1 ∧ (0 ≤ i ∧ i < 120) ∧ K (pc + 1) L r (ab_up σ 19 i x)) := by
  rw [ex_iastore, ab_iio_s, ar2_19, ab_op_s]
  simp
theorem dln2_19 {M : ab_M} {K : ab_K} {Rt : ab_V → ab_S → Prop} {pc n : Nat} {L : ab_L} {r : List ab_V} {σ : ab_S} : ab_ex ab_G2 M K Rt pc n L (.inr (.inr (.inl 19)) :: r) σ .arraylength = (n = 1 ∧ K (pc + 1) L (.inl 120 :: r) σ) := by
  rw [ex_arraylength, ab_o1_s, ar2_19, ab_op_s]
  simp
theorem dal2_20 {M : ab_M} {K : ab_K} {Rt : ab_V → ab_S → Prop} {pc n : Nat} {L : ab_L} {r : List ab_V} {σ : ab_S} {i : Int} : ab_ex ab_G2 M K Rt pc n L (.inl i :: .inr (.inr (.inl 20)) :: r) σ .iaload = (n = 1 ∧ (0 ≤ i ∧ i < 120) ∧ K (pc + 1) L (.inl (σ 20 i) :: r) σ) := by
  rw [ex_iaload, ab_io_s, ar2_20, ab_op_s]
  simp
theorem das2_20 {M : ab_M} {K : ab_K} {Rt : ab_V → ab_S → Prop} {pc n : Nat} {L : ab_L} {r : List ab_V} {σ : ab_S} {i x : Int} : ab_ex ab_G2 M K Rt pc n L (.inl x :: .inl i :: .inr (.inr (.inl 20)) :: r) σ .iastore = (n = 1 ∧ (0 ≤ i ∧ i < 120) ∧ K (pc + 1) L r (ab_up σ 20 i x)) := by
  rw [ex_iastore, ab_iio_s, ar2_20, ab_op_s]
  simp
theorem dln2_20 {M : ab_M} {K : ab_K} {Rt : ab_V → ab_S → Prop} {pc n : Nat} {L : ab_L} {r : List ab_V} {σ : ab_S} : ab_ex ab_G2 M K Rt pc n L (.inr (.inr (.inl 20)) :: r) σ .arraylength = (n = 1 ∧ K (pc + 1) L (.inl 120 :: r) σ) := by
  rw [ex_arraylength, ab_o1_s, ar2_20, ab_op_s]
  simp
theorem dal2_21 {M : ab_M} {K : ab_K} {Rt : ab_V → ab_S → Prop} {pc n : Nat} {L : ab_L} {r : List ab_V} {σ : ab_S} {i : Int} : ab_ex ab_G2 M K Rt pc n L (.inl i :: .inr (.inr (.inl 21)) :: r) σ .iaload = (n = 1 ∧ (0 ≤ i ∧ i < 24) ∧ K (pc + 1) L (.inl (σ 21 i) :: r) σ) := by
  rw [ex_iaload, ab_io_s, ar2_21, ab_op_s]
  simp
theorem das2_21 {M : ab_M} {K : ab_K} {Rt : ab_V → ab_S → Prop} {pc n : Nat} {L : ab_L} {r : List ab_V} {σ : ab_S} {i x : Int} : ab_ex ab_G2 M K Rt pc n L (.inl x :: .inl i :: .inr (.inr (.inl 21)) :: r) σ .iastore = (n = 1 ∧ (0 ≤ i ∧ i < 24) ∧ K (pc + 1) L r (ab_up σ 21 i x)) := by
  rw [ex_iastore, ab_iio_s, ar2_21, ab_op_s]
  simp
theorem dln2_21 {M : ab_M} {K : ab_K} {Rt : ab_V → ab_S → Prop} {pc n : Nat} {L : ab_L} {r : List ab_V} {σ : ab_S} : ab_ex ab_G2 M K Rt pc n L (.inr (.inr (.inl 21)) :: r) σ .arraylength = (n = 1 ∧ K (pc + 1) L (.inl 24 :: r) σ) := by
  rw [ex_arraylength, ab_o1_s, ar2_21, ab_op_s]
  simp
theorem dal2_22 {M : ab_M} {K : ab_K} {Rt : ab_V → ab_S → Prop} {pc n : Nat} {L : ab_L} {r : List ab_V} {σ : ab_S} {i : Int} : ab_ex ab_G2 M K Rt pc n L (.inl i :: .inr (.inr (.inl 22)) :: r) σ .iaload = (n = 1 ∧ (0 ≤ i ∧ i < 24) ∧ K (pc + 1) L (.inl (σ 22 i) :: r) σ) := by
  rw [ex_iaload, ab_io_s, ar2_22, ab_op_s]
  simp
theorem das2_22 {M : ab_M} {K : ab_K} {Rt : ab_V → ab_S → Prop} {pc n : Nat} {L : ab_L} {r : List ab_V} {σ : ab_S} {i x : Int} : ab_ex ab_G2 M K Rt pc n L (.inl x :: .inl i :: .inr (.inr (.inl 22)) :: r) σ .iastore = (n = 1 ∧ (0 ≤ i ∧ i < 24) ∧ K (pc + 1) L r (ab_up σ 22 i x)) := by
  rw [ex_iastore, ab_iio_s, ar2_22, ab_op_s]
  simp
theorem dln2_22 {M : ab_M} {K : ab_K} {Rt : ab_V → ab_S → Prop} {pc n : Nat} {L : ab_L} {r : List ab_V} {σ : ab_S} : ab_ex ab_G2 M K Rt pc n L (.inr (.inr (.inl 22)) :: r) σ .arraylength = (n = 1 ∧ K (pc + 1) L (.inl 24 :: r) σ) := by
  rw [ex_arraylength, ab_o1_s, ar2_22, ab_op_s]
  simp
theorem dal2_23 {M : ab_M} {K : ab_K} {Rt : ab_V → ab_S → Prop} {pc n : Nat} {L : ab_L} {r : List ab_V} {σ : ab_S} {i : Int} : ab_ex ab_G2 M K Rt pc n L (.inl i :: .inr (.inr (.inl 23)) :: r) σ .iaload = (n = 1 ∧ (0 ≤ i ∧ i < 24) ∧ K (pc + 1) L (.inl (σ 23 i) :: r) σ) := by
  rw [ex_iaload, ab_io_s, ar2_23, ab_op_s]
  simp
theorem das2_23 {M : ab_M} {K : ab_K} {Rt : ab_V → ab_S → Prop} {pc n : Nat} {L : ab_L} {r : List ab_V} {σ : ab_S} {i x : Int} : ab_ex ab_G2 M K Rt pc n L (.inl x :: .inl i :: .inr (.inr (.inl 23)) :: r) σ .iastore = (n = 1 ∧ (0 ≤ i ∧ i < 24) ∧ K (pc + 1) L r (ab_up σ 23 i x)) := by
  rw [ex_iastore, ab_iio_s, ar2_23, ab_op_s]
  simp
theorem dln2_23 {M : ab_M} {K : ab_K} {Rt : ab_V → ab_S → Prop} {pc n : Nat} {L : ab_L} {r : List ab_V} {σ : ab_S} : ab_ex ab_G2 M K Rt pc n L (.inr (.inr (.inl 23)) :: r) σ .arraylength = (n = 1 ∧ K (pc + 1) L (.inl 24 :: r) σ) := by
  rw [ex_arraylength, ab_o1_s, ar2_23, ab_op_s]
  simp
theorem dal2_24 {M : ab_M} {K : ab_K} {Rt : ab_V → ab_S → Prop} {pc n : Nat} {L : ab_L} {r : List ab_V} {σ : ab_S} {i : Int} : ab_ex ab_G2 M K Rt pc n L (.inl i :: .inr (.inr (.inl 24)) :: r) σ .iaload = (n = 1 ∧ (0 ≤ i ∧ i < 144) ∧ K (pc + 1) L (.inl (σ 24 i) :: r) σ) := by
  rw [ex_iaload, ab_io_s, ar2_24, ab_op_s]
  simp
theorem das2_24 {M : ab_M} {K : ab_K} {Rt : ab_V → ab_S → Prop} {pc n : Nat} {L : ab_L} {r : List ab_V} {σ : ab_S} {i x : Int} : ab_ex ab_G2 M K Rt pc n L (.inl x :: .inl i :: .inr (.inr (.inl 24)) :: r) σ .iastore = (n = 1 ∧ (0 ≤ i ∧ i < 144) ∧ K (pc + 1) L r (ab_up σ 24 i x)) := by
  rw [ex_iastore, ab_iio_s, ar2_24, ab_op_s]
  simp
theorem dln2_24 {M : ab_M} {K : ab_K} {Rt : ab_V → ab_S → Prop} {pc n : Nat} {L : ab_L} {r : List ab_V} {σ : ab_S} : ab_ex ab_G2 M K Rt pc n L (.inr (.inr (.inl 24)) :: r) σ .arraylength = (n = 1 ∧ K (pc + 1) L (.inl 144 :: r) σ) := by
  rw [ex_arraylength, ab_o1_s, ar2_24, ab_op_s]
  simp
theorem dal2_25 {M : ab_M} {K : ab_K} {Rt : ab_V → ab_S → Prop} {pc n : Nat} {L : ab_L} {r : List ab_V} {σ : ab_S} {i : Int} : ab_ex ab_G2 M K Rt pc n L (.inl i :: .inr (.inr (.inl 25)) :: r) σ .baload = (n = 1 ∧ (0 ≤ i ∧ i < 24) ∧ K (pc + 1) L (.inl (σ 25 i) :: r) σ) := by
  rw [ex_baload, ab_io_s, ar2_25, ab_op_s]
  simp
theorem das2_25 {M : ab_M} {K : ab_K} {Rt : ab_V → ab_S → Prop} {pc n : Nat} {L : ab_L} {r : List ab_V} {σ : ab_S} {i x : Int} : ab_ex ab_G2 M K Rt pc n L (.inl x :: .inl i :: .inr (.inr (.inl 25)) :: r) σ .bastore = (n = 1 ∧ (x = 0 ∨ x = 1) ∧ (0 ≤ i ∧ i < 24) ∧ K (pc + 1) L r (ab_up σ 25 i x)) := by
  rw [ex_bastore, ab_iio_s, ar2_25, ab_op_s]
  simp
theorem dln2_25 {M : ab_M} {K : ab_K} {Rt : ab_V → ab_S → Prop} {pc n : Nat} {L : ab_L} {r : List ab_V} {σ : ab_S} : ab_ex ab_G2 M K Rt pc n L (.inr (.inr (.inl 25)) :: r) σ .arraylength = (n = 1 ∧ K (pc + 1) L (.inl 24 :: r) σ) := by
  rw [ex_arraylength, ab_o1_s, ar2_25, ab_op_s]
  simp
theorem dal2_26 {M : ab_M} {K : ab_K} {Rt : ab_V → ab_S → Prop} {pc n : Nat} {L : ab_L} {r : List ab_V} {σ : ab_S} {i : Int} : ab_ex ab_G2 M K Rt pc n L (.inl i :: .inr (.inr (.inl 26)) :: r) σ .iaload = (n = 1 ∧ (0 ≤ i ∧ i < 4) ∧ K (pc + 1) L (.inl (σ 26 i) :: r) σ) := by
  rw [ex_iaload, ab_io_s, ar2_26, ab_op_s]
  simp
theorem das2_26 {M : ab_M} {K : ab_K} {Rt : ab_V → ab_S → Prop} {pc n : Nat} {L : ab_L} {r : List ab_V} {σ : ab_S} {i x : Int} : ab_ex ab_G2 M K Rt pc n L (.inl x :: .inl i :: .inr (.inr (.inl 26)) :: r) σ .iastore = (n = 1 ∧ (0 ≤ i ∧ i < 4) ∧ K (pc + 1) L r (ab_up σ 26 i x)) := by
  rw [ex_iastore, ab_iio_s, ar2_26, ab_op_s]
  simp
theorem dln2_26 {M : ab_M} {K : ab_K} {Rt : ab_V → ab_S → Prop} {pc n : Nat} {L : ab_L} {r : List ab_V} {σ : ab_S} : ab_ex ab_G2 M K Rt pc n L (.inr (.inr (.inl 26)) :: r) σ .arraylength = (n = 1 ∧ K (pc + 1) L (.inl 4 :: r) σ) := by
  rw [ex_arraylength, ab_o1_s, ar2_26, ab_op_s]
  simp
theorem dal2_27 {M : ab_M} {K : ab_K} {Rt : ab_V → ab_S → Prop} {pc n : Nat} {L : ab_L} {r : List ab_V} {σ : ab_S} {i : Int} : ab_ex ab_G2 M K Rt pc n L (.inl i :: .inr (.inr (.inl 27)) :: r) σ .iaload = (n = 1 ∧ (0 ≤ i ∧ i < 4) ∧ K (pc + 1) L (.inl (σ 27 i) :: r) σ) := by
  rw [ex_iaload, ab_io_s, ar2_27, ab_op_s]
  simp
theorem das2_27 {M : ab_M} {K : ab_K} {Rt : ab_V → ab_S → Prop} {pc n : Nat} {L : ab_L} {r : List ab_V} {σ : ab_S} {i x : Int} : ab_ex ab_G2 M K Rt pc n L (.inl x :: .inl i :: .inr (.inr (.inl 27)) :: r) σ .iastore = (n = 1 ∧ (0 ≤ i ∧ i < 4) ∧ K (pc + 1) L r (ab_up σ 27 i x)) := by
  rw [ex_iastore, ab_iio_s, ar2_27, ab_op_s]
  simp
theorem dln2_27 {M : ab_M} {K : ab_K} {Rt : ab_V → ab_S → Prop} {pc n : Nat} {L : ab_L} {r : List ab_V} {σ : ab_S} : ab_ex ab_G2 M K Rt pc n L (.inr (.inr (.inl 27)) :: r) σ .arraylength = (n = 1 ∧ K (pc + 1) L (.inl 4 :: r) σ) := by
  rw [ex_arraylength, ab_o1_s, ar2_27, ab_op_s]
  simp
theorem dal2_28 {M : ab_M} {K : ab_K} {Rt : ab_V → ab_S → Prop} {pc n : Nat} {L : ab_L} {r : List ab_V} {σ : ab_S} {i : Int} : ab_ex ab_G2 M K Rt pc n L (.inl i :: .inr (.inr (.inl 28)) :: r) σ .iaload = (n = 1 ∧ (0 ≤ i ∧ i < 4) ∧ K (pc + 1) L (.inl (σ 28 i) :: r) σ) := by
  rw [ex_iaload, ab_io_s, ar2_28, ab_op_s]
  simp
theorem das2_28 {M : ab_M} {K : ab_K} {Rt : ab_V → ab_S → Prop} {pc n : Nat} {L : ab_L} {r : List ab_V} {σ : ab_S} {i x : Int} : ab_ex ab_G2 M K Rt pc n L (.inl x :: .inl i :: .inr (.inr (.inl 28)) :: r) σ .iastore = (n = 1 ∧ (0 ≤ i ∧ i < 4) ∧ K (pc + 1) L r (ab_up σ 28 i x)) := by
  rw [ex_iastore, ab_iio_s, ar2_28, ab_op_s]
  simp
theorem dln2_28 {M : ab_M} {K : ab_K} {Rt : ab_V → ab_S → Prop} {pc n : Nat} {L : ab_L} {r : List ab_V} {σ : ab_S} : ab_ex ab_G2 M K Rt pc n L (.inr (.inr (.inl 28)) :: r) σ .arraylength = (n = 1 ∧ K (pc + 1) L (.inl 4 :: r) σ) := by
  rw [ex_arraylength, ab_o1_s, ar2_28, ab_op_s]
  simp
theorem dal2_29 {M : ab_M} {K : ab_K} {Rt : ab_V → ab_S → Prop} {pc n : Nat} {L : ab_L} {r : List ab_V} {σ : ab_S} {i : Int} : ab_ex ab_G2 M K Rt pc n L (.inl i :: .inr (.inr (.inl 29)) :: r) σ .iaload = (n = 1 ∧ (0 ≤ i ∧ i < 4) ∧ K (pc + 1) L (.inl (σ 29 i) :: r) σ) := by
  rw [ex_iaload, ab_io_s, ar2_29, ab_op_s]
  simp
theorem das2_29 {M : ab_M} {K : ab_K} {Rt : ab_V → ab_S → Prop} {pc n : Nat} {L : ab_L} {r : List ab_V} {σ : ab_S} {i x : Int} : ab_ex ab_G2 M K Rt pc n L (.inl x :: .inl i :: .inr (.inr (.inl 29)) :: r) σ .iastore = (n = 1 ∧ (0 ≤ i ∧ i < 4) ∧ K (pc + 1) L r (ab_up σ 29 i x)) := by
  rw [ex_iastore, ab_iio_s, ar2_29, ab_op_s]
  simp
theorem dln2_29 {M : ab_M} {K : ab_K} {Rt : ab_V → ab_S → Prop} {pc n : Nat} {L : ab_L} {r : List ab_V} {σ : ab_S} : ab_ex ab_G2 M K Rt pc n L (.inr (.inr (.inl 29)) :: r) σ .arraylength = (n = 1 ∧ K (pc + 1) L (.inl 4 :: r) σ) := by
  rw [ex_arraylength, ab_o1_s, ar2_29, ab_op_s]
  simp
theorem dal2_30 {M : ab_M} {K : ab_K} {Rt : ab_V → ab_S → Prop} {pc n : Nat} {L : ab_L} {r : List ab_V} {σ : ab_S} {i : Int} : ab_ex ab_G2 M K Rt pc n L (.inl i :: .inr (.inr (.inl 30)) :: r) σ .iaload = (n = 1 ∧ (0 ≤ i ∧ i < 4) ∧ K (pc + 1) L (.inl (σ 30 i) :: r) σ) := by
  rw [ex_iaload, ab_io_s, ar2_30, ab_op_s]
  simp
theorem das2_30 {M : ab_M} {K : ab_K} {Rt : ab_V → ab_S → Prop} {pc n : Nat} {L : ab_L} {r : List ab_V} {σ : ab_S} {i x : Int} : ab_ex ab_G2 M K Rt pc n L (.inl x :: .inl i :: .inr (.inr (.inl 30)) :: r) σ .iastore = (n = 1 ∧ (0 ≤ i ∧ i < 4) ∧ K (pc + 1) L r (ab_up σ 30 i x)) := by
  rw [ex_iastore, ab_iio_s, ar2_30, ab_op_s]
  simp
theorem dln2_30 {M : ab_M} {K : ab_K} {Rt : ab_V → ab_S → Prop} {pc n : Nat} {L : ab_L} {r : List ab_V} {σ : ab_S} : ab_ex ab_G2 M K Rt pc n L (.inr (.inr (.inl 30)) :: r) σ .arraylength = (n = 1 ∧ K (pc + 1) L (.inl 4 :: r) σ) := by
  rw [ex_arraylength, ab_o1_s, ar2_30, ab_op_s]
  simp
theorem dal2_31 {M : ab_M} {K : ab_K} {Rt : ab_V → ab_S → Prop} {pc n : Nat} {L : ab_L} {r : List ab_V} {σ : ab_S} {i : Int} : ab_ex ab_G2 M K Rt pc n L (.inl i :: .inr (.inr (.inl 31)) :: r) σ .laload = (n = 1 ∧ (0 ≤ i ∧ i < 4) ∧ K (pc + 1) L (.inr (.inl (σ 31 i)) :: r) σ) := by
  rw [ex_laload, ab_io_s, ar2_31, ab_op_s]
  simp
theorem das2_31 {M : ab_M} {K : ab_K} {Rt : ab_V → ab_S → Prop} {pc n : Nat} {L : ab_L} {r : List ab_V} {σ : ab_S} {i x : Int} : ab_ex ab_G2 M K Rt pc n L (.inr (.inl x) :: .inl i :: .inr (.inr (.inl 31)) :: r) σ .lastore = (n = 1 ∧ (0 ≤ i ∧ i < 4) ∧ K (pc + 1) L r (ab_up σ 31 i x)) := by
  rw [ex_lastore, ab_lio_s, ar2_31, ab_op_s]
  simp
theorem dln2_31 {M : ab_M} {K : ab_K} {Rt : ab_V → ab_S → Prop} {pc n : Nat} {L : ab_L} {r : List ab_V} {σ : ab_S} : ab_ex ab_G2 M K Rt pc n L (.inr (.inr (.inl 31)) :: r) σ .arraylength = (n = 1 ∧ K (pc + 1) L (.inl 4 :: r) σ) := by
  rw [ex_arraylength, ab_o1_s, ar2_31, ab_op_s]
  simp
theorem dal2_32 {M : ab_M} {K : ab_K} {Rt : ab_V → ab_S → Prop} {pc n : Nat} {L : ab_L} {r : List ab_V} {σ : ab_S} {i : Int} : ab_ex ab_G2 M K Rt pc n L (.inl i :: .inr (.inr (.inl 32)) :: r) σ .iaload = (n = 1 ∧ (0 ≤ i ∧ i < 48) ∧ K (pc + 1) L (.inl (σ 32 i) :: r) σ) := by
  rw [ex_iaload, ab_io_s, ar2_32, ab_op_s]
  simp
theorem das2_32 {M : ab_M} {K : ab_K} {Rt : ab_V → ab_S → Prop} {pc n : Nat} {L : ab_L} {r : List ab_V} {σ : ab_S} {i x : Int} : ab_ex ab_G2 M K Rt pc n L (.inl x :: .inl i :: .inr (.inr (.inl 32)) :: r) σ .iastore = (n = 1 ∧ (0 ≤ i ∧ i < 48) ∧ K (pc + 1) L r (ab_up σ 32 i x)) := by
  rw [ex_iastore, ab_iio_s, ar2_32, ab_op_s]
  simp
theorem dln2_32 {M : ab_M} {K : ab_K} {Rt : ab_V → ab_S → Prop} {pc n : Nat} {L : ab_L} {r : List ab_V} {σ : ab_S} : ab_ex ab_G2 M K Rt pc n L (.inr (.inr (.inl 32)) :: r) σ .arraylength = (n = 1 ∧ K (pc + 1) L (.inl 48 :: r) σ) := by
  rw [ex_arraylength, ab_o1_s, ar2_32, ab_op_s]
  simp
theorem dal2_33 {M : ab_M} {K : ab_K} {Rt : ab_V → ab_S → Prop} {pc n : Nat} {L : ab_L} {r : List ab_V} {σ : ab_S} {i : Int} : ab_ex ab_G2 M K Rt pc n L (.inl i :: .inr (.inr (.inl 33)) :: r) σ .iaload = (n = 1 ∧ (0 ≤ i ∧ i < 256) ∧ K (pc + 1) L (.inl (σ 33 i) :: r) σ) := by
  rw [ex_iaload, ab_io_s, ar2_33, ab_op_s]
  simp
theorem das2_33 {M : ab_M} {K : ab_K} {Rt : ab_V → ab_S → Prop} {pc n : Nat} {L : ab_L} {r : List ab_V} {σ : ab_S} {i x : Int} : ab_ex ab_G2 M K Rt pc n L (.inl x :: .inl i :: .inr (.inr (.inl 33)) :: r) σ .iastore = (n = 1 ∧ (0 ≤ i ∧ i < 256) ∧ K (pc + 1) L r (ab_up σ 33 i x)) := by
  rw [ex_iastore, ab_iio_s, ar2_33, ab_op_s]
  simp
theorem dln2_33 {M : ab_M} {K : ab_K} {Rt : ab_V → ab_S → Prop} {pc n : Nat} {L : ab_L} {r : List ab_V} {σ : ab_S} : ab_ex ab_G2 M K Rt pc n L (.inr (.inr (.inl 33)) :: r) σ .arraylength = (n = 1 ∧ K (pc + 1) L (.inl 256 :: r) σ) := by
  rw [ex_arraylength, ab_o1_s, ar2_33, ab_op_s]
  simp
theorem dal2_34 {M : ab_M} {K : ab_K} {Rt : ab_V → ab_S → Prop} {pc n : Nat} {L : ab_L} {r : List ab_V} {σ : ab_S} {i : Int} : ab_ex ab_G2 M K Rt pc n L (.inl i :: .inr (.inr (.inl 34)) :: r) σ .iaload = (n = 1 ∧ (0 ≤ i ∧ i < 256) ∧ K (pc + 1) L (.inl (σ 34 i) :: r) σ) := by
  rw [ex_iaload, ab_io_s, ar2_34, ab_op_s]
  simp
theorem das2_34 {M : ab_M} {K : ab_K} {Rt : ab_V → ab_S → Prop} {pc n : Nat} {L : ab_L} {r : List ab_V} {σ : ab_S} {i x : Int} : ab_ex ab_G2 M K Rt pc n L (.inl x :: .inl i :: .inr (.inr (.inl 34)) :: r) σ .iastore = (n = 1 ∧ (0 ≤ i ∧ i < 256) ∧ K (pc + 1) L r (ab_up σ 34 i x)) := by
  rw [ex_iastore, ab_iio_s, ar2_34, ab_op_s]
  simp
theorem dln2_34 {M : ab_M} {K : ab_K} {Rt : ab_V → ab_S → Prop} {pc n : Nat} {L : ab_L} {r : List ab_V} {σ : ab_S} : ab_ex ab_G2 M K Rt pc n L (.inr (.inr (.inl 34)) :: r) σ .arraylength = (n = 1 ∧ K (pc + 1) L (.inl 256 :: r) σ) := by
  rw [ex_arraylength, ab_o1_s, ar2_34, ab_op_s]
  simp
theorem dal2_35 {M : ab_M} {K : ab_K} {Rt : ab_V → ab_S → Prop} {pc n : Nat} {L : ab_L} {r : List ab_V} {σ : ab_S} {i : Int} : ab_ex ab_G2 M K Rt pc n L (.inl i :: .inr (.inr (.inl 35)) :: r) σ .baload = (n = 1 ∧ (0 ≤ i ∧ i < 1728) ∧ K (pc + 1) L (.inl (σ 35 i) :: r) σ) := by
  rw [ex_baload, ab_io_s, ar2_35, ab_op_s]
  simp
theorem das2_35 {M : ab_M} {K : ab_K} {Rt : ab_V → ab_S → Prop} {pc n : Nat} {L : ab_L} {r : List ab_V} {σ : ab_S} {i x : Int} : ab_ex ab_G2 M K Rt pc n L (.inl x :: .inl i :: .inr (.inr (.inl 35)) :: r) σ .bastore = (n = 1 ∧ (x = 0 ∨ x = 1) ∧ (0 ≤ i ∧ i < 1728) ∧ K (pc + 1) L r (ab_up σ 35 i x)) := by
  rw [ex_bastore, ab_iio_s, ar2_35, ab_op_s]
  simp
theorem dln2_35 {M : ab_M} {K : ab_K} {Rt : ab_V → ab_S → Prop} {pc n : Nat} {L : ab_L} {r : List ab_V} {σ : ab_S} : ab_ex ab_G2 M K Rt pc n L (.inr (.inr (.inl 35)) :: r) σ .arraylength = (n = 1 ∧ K (pc + 1) L (.inl 1728 :: r) σ) := by
  rw [ex_arraylength, ab_o1_s, ar2_35, ab_op_s]
  simp
theorem dal2_36 {M : ab_M} {K : ab_K} {Rt : ab_V → ab_S → Prop} {pc n : Nat} {L : ab_L} {r : List ab_V} {σ : ab_S} {i : Int} : ab_ex ab_G2 M K Rt pc n L (.inl i :: .inr (.inr (.inl 36)) :: r) σ .laload = (n = 1 ∧ (0 ≤ i ∧ i < 1728) ∧ K (pc + 1) L (.inr (.inl (σ 36 i)) :: r) σ) := by
  rw [ex_laload, ab_io_s, ar2_36, ab_op_s]
  simp
theorem das2_36 {M : ab_M} {K : ab_K} {Rt : ab_V → ab_S → Prop} {pc n : Nat} {L : ab_L} {r : List ab_V} {σ : ab_S} {i x : Int} : ab_ex ab_G2 M K Rt pc n L (.inr (.inl x) :: .inl i :: .inr (.inr (.inl 36)) :: r) σ .lastore = (n = 1 ∧ (0 ≤ i ∧ i < 1728) ∧ K (pc + 1) L r (ab_up σ 36 i x)) := by
  rw [ex_lastore, ab_lio_s, ar2_36, ab_op_s]
  simp
theorem dln2_36 {M : ab_M} {K : ab_K} {Rt : ab_V → ab_S → Prop} {pc n : Nat} {L : ab_L} {r : List ab_V} {σ : ab_S} : ab_ex ab_G2 M K Rt pc n L (.inr (.inr (.inl 36)) :: r) σ .arraylength = (n = 1 ∧ K (pc + 1) L (.inl 1728 :: r) σ) := by
  rw [ex_arraylength, ab_o1_s, ar2_36, ab_op_s]
  simp
theorem dal2_37 {M : ab_M} {K : ab_K} {Rt : ab_V → ab_S → Prop} {pc n : Nat} {L : ab_L} {r : List ab_V} {σ : ab_S} {i : Int} : ab_ex ab_G2 M K Rt pc n L (.inl i :: .inr (.inr (.inl 37)) :: r) σ .laload = (n = 1 ∧ (0 ≤ i ∧ i < 1728) ∧ K (pc + 1) L (.inr (.inl (σ 37 i)) :: r) σ) := by
  rw [ex_laload, ab_io_s, ar2_37, ab_op_s]
  simp
theorem das2_37 {M : ab_M} {K : ab_K} {Rt : ab_V → ab_S → Prop} {pc n : Nat} {L : ab_L} {r : List ab_V} {σ : ab_S} {i x : Int} : ab_ex ab_G2 M K Rt pc n L (.inr (.inl x) :: .inl i :: .inr (.inr (.inl 37)) :: r) σ .lastore = (n = 1 ∧ (0 ≤ i ∧ i < 1728) ∧ K (pc + 1) L r (ab_up σ 37 i x)) := by
  rw [ex_lastore, ab_lio_s, ar2_37, ab_op_s]
  simp
theorem dln2_37 {M : ab_M} {K : ab_K} {Rt : ab_V → ab_S → Prop} {pc n : Nat} {L : ab_L} {r : List ab_V} {σ : ab_S} : ab_ex ab_G2 M K Rt pc n L (.inr (.inr (.inl 37)) :: r) σ .arraylength = (n = 1 ∧ K (pc + 1) L (.inl 1728 :: r) σ) := by
  rw [ex_arraylength, ab_o1_s, ar2_37, ab_op_s]
  simp
theorem dal2_38 {M : ab_M} {K : ab_K} {Rt : ab_V → ab_S → Prop} {pc n : Nat} {L : ab_L} {r : List ab_V} {σ : ab_S} {i : Int} : ab_ex ab_G2 M K Rt pc n L (.inl i :: .inr (.inr (.inl 38)) :: r) σ .laload = (n = 1 ∧ (0 ≤ i ∧ i < 1728) ∧ K (pc + 1) L (.inr (.inl (σ 38 i)) :: r) σ) := by
  rw [ex_laload, ab_io_s, ar2_38, ab_op_s]
  simp
theorem das2_38 {M : ab_M} {K : ab_K} {Rt : ab_V → ab_S → Prop} {pc n : Nat} {L : ab_L} {r : List ab_V} {σ : ab_S} {i x : Int} : ab_ex ab_G2 M K Rt pc n L (.inr (.inl x) :: .inl i :: .inr (.inr (.inl 38)) :: r) σ .lastore = (n = 1 ∧ (0 ≤ i ∧ i < 1728) ∧ K (pc + 1) L r (ab_up σ 38 i x)) := by
  rw [ex_lastore, ab_lio_s, ar2_38, ab_op_s]
  simp
theorem dln2_38 {M : ab_M} {K : ab_K} {Rt : ab_V → ab_S → Prop} {pc n : Nat} {L : ab_L} {r : List ab_V} {σ : ab_S} : ab_ex ab_G2 M K Rt pc n L (.inr (.inr (.inl 38)) :: r) σ .arraylength = (n = 1 ∧ K (pc + 1) L (.inl 1728 :: r) σ) := by
  rw [ex_arraylength, ab_o1_s, ar2_38, ab_op_s]
  simp
theorem dal2_39 {M : ab_M} {K : ab_K} {Rt : ab_V → ab_S → Prop} {pc n : Nat} {L : ab_L} {r : List ab_V} {σ : ab_S} {i : Int} : ab_ex ab_G2 M K Rt pc n L (.inl i :: .inr (.inr (.inl 39)) :: r) σ .laload = (n = 1 ∧ (0 ≤ i ∧ i < 441) ∧ K (pc + 1) L (.inr (.inl (σ 39 i)) :: r) σ) := by
  rw [ex_laload, ab_io_s, ar2_39, ab_op_s]
  simp
theorem das2_39 {M : ab_M} {K : ab_K} {Rt : ab_V → ab_S → Prop} {pc n : Nat} {L : ab_L} {r : List ab_V} {σ : ab_S} {i x : Int} : ab_ex ab_G2 M K Rt pc n L (.inr (.inl x) :: .inl i :: .inr (.inr (.inl 39)) :: r) σ .lastore = (n = 1 ∧ (0 ≤ i ∧ i < 441) ∧ K (pc + 1) L r (ab_up σ 39 i x)) := by
  rw [ex_lastore, ab_lio_s, ar2_39, ab_op_s]
  simp
theorem dln2_39 {M : ab_M} {K : ab_K} {Rt : ab_V → ab_S → Prop} {pc n : Nat} {L : ab_L} {r : List ab_V} {σ : ab_S} : ab_ex ab_G2 M K Rt pc n L (.inr (.inr (.inl 39)) :: r) σ .arraylength = (n = 1 ∧ K (pc + 1) L (.inl 441 :: r) σ) := by
  rw [ex_arraylength, ab_o1_s, ar2_39, ab_op_s]
  simp
theorem dal2_40 {M : ab_M} {K : ab_K} {Rt : ab_V → ab_S → Prop} {pc n : Nat} {L : ab_L} {r : List ab_V} {σ : ab_S} {i : Int} : ab_ex ab_G2 M K Rt pc n L (.inl i :: .inr (.inr (.inl 40)) :: r) σ .laload = (n = 1 ∧ (0 ≤ i ∧ i < 441) ∧ K (pc + 1) L (.inr (.inl (σ 40 i)) :: r) σ) := by
  rw [ex_laload, ab_io_s, ar2_40, ab_op_s]
  simp
theorem das2_40 {M : ab_M} {K : ab_K} {Rt : ab_V → ab_S → Prop} {pc n : Nat} {L : ab_L} {r : List ab_V} {σ : ab_S} {i x : Int} : ab_ex ab_G2 M K Rt pc n L (.inr (.inl x) :: .inl i :: .inr (.inr (.inl 40)) :: r) σ .lastore = (n = 1 ∧ (0 ≤ i ∧ i < 441) ∧ K (pc + 1) L r (ab_up σ 40 i x)) := by
  rw [ex_lastore, ab_lio_s, ar2_40, ab_op_s]
  simp
theorem dln2_40 {M : ab_M} {K : ab_K} {Rt : ab_V → ab_S → Prop} {pc n : Nat} {L : ab_L} {r : List ab_V} {σ : ab_S} : ab_ex ab_G2 M K Rt pc n L (.inr (.inr (.inl 40)) :: r) σ .arraylength = (n = 1 ∧ K (pc + 1) L (.inl 441 :: r) σ) := by
  rw [ex_arraylength, ab_o1_s, ar2_40, ab_op_s]
  simp
theorem dal2_41 {M : ab_M} {K : ab_K} {Rt : ab_V → ab_S → Prop} {pc n : Nat} {L : ab_L} {r : List ab_V} {σ : ab_S} {i : Int} : ab_ex ab_G2 M K Rt pc n L (.inl i :: .inr (.inr (.inl 41)) :: r) σ .laload = (n = 1 ∧ (0 ≤ i ∧ i < 4) ∧ K (pc + 1) L (.inr (.inl (σ 41 i)) :: r) σ) := by
  rw [ex_laload, ab_io_s, ar2_41, ab_op_s]
  simp
theorem das2_41 {M : ab_M} {K : ab_K} {Rt : ab_V → ab_S → Prop} {pc n : Nat} {L : ab_L} {r : List ab_V} {σ : ab_S} {i x : Int} : ab_ex ab_G2 M K Rt pc n L (.inr (.inl x) :: .inl i :: .inr (.inr (.inl 41)) :: r) σ .lastore = (n = 1 ∧ (0 ≤ i ∧ i < 4) ∧ K (pc + 1) L r (ab_up σ 41 i x)) := by
  rw [ex_lastore, ab_lio_s, ar2_41, ab_op_s]
  simp
theorem dln2_41 {M : ab_M} {K : ab_K} {Rt : ab_V → ab_S → Prop} {pc n : Nat} {L : ab_L} {r : List ab_V} {σ : ab_S} : ab_ex ab_G2 M K Rt pc n L (.inr (.inr (.inl 41)) :: r) σ .arraylength = (n = 1 ∧ K (pc + 1) L (.inl 4 :: r) σ) := by
  rw [ex_arraylength, ab_o1_s, ar2_41, ab_op_s]
  simp
theorem dal2_42 {M : ab_M} {K : ab_K} {Rt : ab_V → ab_S → Prop} {pc n : Nat} {L : ab_L} {r : List ab_V} {σ : ab_S} {i : Int} : ab_ex ab_G2 M K Rt pc n L (.inl i :: .inr (.inr (.inl 42)) :: r) σ .laload = (n = 1 ∧ (0 ≤ i ∧ i < 4) ∧ K (pc + 1) L (.inr (.inl (σ 42 i)) :: r) σ) := by
  rw [ex_laload, ab_io_s, ar2_42, ab_op_s]
  simp
theorem das2_42 {M : ab_M} {K : ab_K} {Rt : ab_V → ab_S → Prop} {pc n : Nat} {L : ab_L} {r : List ab_V} {σ : ab_S} {i x : Int} : ab_ex ab_G2 M K Rt pc n L (.inr (.inl x) :: .inl i :: .inr (.inr (.inl 42)) :: r) σ .lastore = (n = 1 ∧ (0 ≤ i ∧ i < 4) ∧ K (pc + 1) L r (ab_up σ 42 i x)) := by
  rw [ex_lastore, ab_lio_s, ar2_42, ab_op_s]
  simp
theorem dln2_42 {M : ab_M} {K : ab_K} {Rt : ab_V → ab_S → Prop} {pc n : Nat} {L : ab_L} {r : List ab_V} {σ : ab_S} : ab_ex ab_G2 M K Rt pc n L (.inr (.inr (.inl 42)) :: r) σ .arraylength = (n = 1 ∧ K (pc + 1) L (.inl 4 :: r) σ) := by
  rw [ex_arraylength, ab_o1_s, ar2_42, ab_op_s]
  simp
theorem dal2_43 {M : ab_M} {K : ab_K} {Rt : ab_V → ab_S → Prop} {pc n : Nat} {L : ab_L} {r : List ab_V} {σ : ab_S} {i : Int} : ab_ex ab_G2 M K Rt pc n L (.inl i :: .inr (.inr (.inl 43)) :: r) σ .iaload = (n = 1 ∧ (0 ≤ i ∧ i < 4) ∧ K (pc + 1) L (.inl (σ 43 i) :: r) σ) := by
  rw [ex_iaload, ab_io_s, ar2_43, ab_op_s]
  simp
theorem das2_43 {M : ab_M} {K : ab_K} {Rt : ab_V → ab_S → Prop} {pc n : Nat} {L : ab_L} {r : List ab_V} {σ : ab_S} {i x : Int} : ab_ex ab_G2 M K Rt pc n L (.inl x :: .inl i :: .inr (.inr (.inl 43)) :: r) σ .iastore = (n = 1 ∧ (0 ≤ i ∧ i < 4) ∧ K (pc + 1) L r (ab_up σ 43 i x)) := by
  rw [ex_iastore, ab_iio_s, ar2_43, ab_op_s]
  simp
theorem dln2_43 {M : ab_M} {K : ab_K} {Rt : ab_V → ab_S → Prop} {pc n : Nat} {L : ab_L} {r : List ab_V} {σ : ab_S} : ab_ex ab_G2 M K Rt pc n L (.inr (.inr (.inl 43)) :: r) σ .arraylength = (n = 1 ∧ K (pc + 1) L (.inl 4 :: r) σ) := by
  rw [ex_arraylength, ab_o1_s, ar2_43, ab_op_s]
  simp
theorem dal2_44 {M : ab_M} {K : ab_K} {Rt : ab_V → ab_S → Prop} {pc n : Nat} {L : ab_L} {r : List ab_V} {σ : ab_S} {i : Int} : ab_ex ab_G2 M K Rt pc n L (.inl i :: .inr (.inr (.inl 44)) :: r) σ .iaload = (n = 1 ∧ (0 ≤ i ∧ i < 12) ∧ K (pc + 1) L (.inl (σ 44 i) :: r) σ) := by
  rw [ex_iaload, ab_io_s, ar2_44, ab_op_s]
  simp
theorem das2_44 {M : ab_M} {K : ab_K} {Rt : ab_V → ab_S → Prop} {pc n : Nat} {L : ab_L} {r : List ab_V} {σ : ab_S} {i x : Int} : ab_ex ab_G2 M K Rt pc n L (.inl x :: .inl i :: .inr (.inr (.inl 44)) :: r) σ .iastore = (n = 1 ∧ (0 ≤ i ∧ i < 12) ∧ K (pc + 1) L r (ab_up σ 44 i x)) := by
  rw [ex_iastore, ab_iio_s, ar2_44, ab_op_s]
  simp
theorem dln2_44 {M : ab_M} {K : ab_K} {Rt : ab_V → ab_S → Prop} {pc n : Nat} {L : ab_L} {r : List ab_V} {σ : ab_S} : ab_ex ab_G2 M K Rt pc n L (.inr (.inr (.inl 44)) :: r) σ .arraylength = (n = 1 ∧ K (pc + 1) L (.inl 12 :: r) σ) := by
  rw [ex_arraylength, ab_o1_s, ar2_44, ab_op_s]
  simp
theorem dal2_45 {M : ab_M} {K : ab_K} {Rt : ab_V → ab_S → Prop} {pc n : Nat} {L : ab_L} {r : List ab_V} {σ : ab_S} {i : Int} : ab_ex ab_G2 M K Rt pc n L (.inl i :: .inr (.inr (.inl 45)) :: r) σ .iaload = (n = 1 ∧ (0 ≤ i ∧ i < 4) ∧ K (pc + 1) L (.inl (σ 45 i) :: r) σ) := by
  rw [ex_iaload, ab_io_s, ar2_45, ab_op_s]
  simp
theorem das2_45 {M : ab_M} {K : ab_K} {Rt : ab_V → ab_S → Prop} {pc n : Nat} {L : ab_L} {r : List ab_V} {σ : ab_S} {i x : Int} : ab_ex ab_G2 M K Rt pc n L (.inl x :: .inl i :: .inr (.inr (.inl 45)) :: r) σ .iastore = (n = 1 ∧ (0 ≤ i ∧ i < 4) ∧ K (pc + 1) L r (ab_up σ 45 i x)) := by
  rw [ex_iastore, ab_iio_s, ar2_45, ab_op_s]
  simp
theorem dln2_45 {M : ab_M} {K : ab_K} {Rt : ab_V → ab_S → Prop} {pc n : Nat} {L : ab_L} {r : List ab_V} {σ : ab_S} : ab_ex ab_G2 M K Rt pc n L (.inr (.inr (.inl 45)) :: r) σ .arraylength = (n = 1 ∧ K (pc + 1) L (.inl 4 :: r) σ) := by
  rw [ex_arraylength, ab_o1_s, ar2_45, ab_op_s]
  simp
theorem dal2_46 {M : ab_M} {K : ab_K} {Rt : ab_V → ab_S → Prop} {pc n : Nat} {L : ab_L} {r : List ab_V} {σ : ab_S} {i : Int} : ab_ex ab_G2 M K Rt pc n L (.inl i :: .inr (.inr (.inl 46)) :: r) σ .iaload = (n = 1 ∧ (0 ≤ i ∧ i < 4) ∧ K (pc + 1) L (.inl (σ 46 i) :: r) σ) := by
  rw [ex_iaload, ab_io_s, ar2_46, ab_op_s]
  simp
theorem das2_46 {M : ab_M} {K : ab_K} {Rt : ab_V → ab_S → Prop} {pc n : Nat} {L : ab_L} {r : List ab_V} {σ : ab_S} {i x : Int} : ab_ex ab_G2 M K Rt pc n L (.inl x :: .inl i :: .inr (.inr (.inl 46)) :: r) σ .iastore = (n = 1 ∧ (0 ≤ i ∧ i < 4) ∧ K (pc + 1) L r (ab_up σ 46 i x)) := by
  rw [ex_iastore, ab_iio_s, ar2_46, ab_op_s]
  simp
theorem dln2_46 {M : ab_M} {K : ab_K} {Rt : ab_V → ab_S → Prop} {pc n : Nat} {L : ab_L} {r : List ab_V} {σ : ab_S} : ab_ex ab_G2 M K Rt pc n L (.inr (.inr (.inl 46)) :: r) σ .arraylength = (n = 1 ∧ K (pc + 1) L (.inl 4 :: r) σ) := by
  rw [ex_arraylength, ab_o1_s, ar2_46, ab_op_s]
  simp
theorem dal2_47 {M : ab_M} {K : ab_K} {Rt : ab_V → ab_S → Prop} {pc n : Nat} {L : ab_L} {r : List ab_V} {σ : ab_S} {i : Int} : ab_ex ab_G2 M K Rt pc n L (.inl i :: .inr (.inr (.inl 47)) :: r) σ .iaload = (n = 1 ∧ (0 ≤ i ∧ i < 4) ∧ K (pc + 1) L (.inl (σ 47 i) :: r) σ) := by
  rw [ex_iaload, ab_io_s, ar2_47, ab_op_s]
  simp
theorem das2_47 {M : ab_M} {K : ab_K} {Rt : ab_V → ab_S → Prop} {pc n : Nat} {L : ab_L} {r : List ab_V} {σ : ab_S} {i x : Int} : ab_ex ab_G2 M K Rt pc n L (.inl x :: .inl i :: .inr (.inr (.inl 47)) :: r) σ .iastore = (n = 1 ∧ (0 ≤ i ∧ i < 4) ∧ K (pc + 1) L r (ab_up σ 47 i x)) := by
  rw [ex_iastore, ab_iio_s, ar2_47, ab_op_s]
  simp
theorem dln2_47 {M : ab_M} {K : ab_K} {Rt : ab_V → ab_S → Prop} {pc n : Nat} {L : ab_L} {r : List ab_V} {σ : ab_S} : ab_ex ab_G2 M K Rt pc n L (.inr (.inr (.inl 47)) :: r) σ .arraylength = (n = 1 ∧ K (pc + 1) L (.inl 4 :: r) σ) := by
  rw [ex_arraylength, ab_o1_s, ar2_47, ab_op_s]
  simp
theorem dal2_48 {M : ab_M} {K : ab_K} {Rt : ab_V → ab_S → Prop} {pc n : Nat} {L : ab_L} {r : List ab_V} {σ : ab_S} {i : Int} : ab_ex ab_G2 M K Rt pc n L (.inl i :: .inr (.inr (.inl 48)) :: r) σ .iaload = (n = 1 ∧ (0 ≤ i ∧ i < 16) ∧ K (pc + 1) L (.inl (σ 48 i) :: r) σ) := by
  rw [ex_iaload, ab_io_s, ar2_48, ab_op_s]
  simp
theorem das2_48 {M : ab_M} {K : ab_K} {Rt : ab_V → ab_S → Prop} {pc n : Nat} {L : ab_L} {r : List ab_V} {σ : ab_S} {i x : Int} : ab_ex ab_G2 M K Rt pc n L (.inl x :: .inl i :: .inr (.inr (.inl 48)) :: r) σ .iastore = (n = 1 ∧ (0 ≤ i ∧ i < 16) ∧ K (pc + 1) L r (ab_up σ 48 i x)) := by
  rw [ex_iastore, ab_iio_s, ar2_48, ab_op_s]
  simp
theorem dln2_48 {M : ab_M} {K : ab_K} {Rt : ab_V → ab_S → Prop} {pc n : Nat} {L : ab_L} {r : List ab_V} {σ : ab_S} : ab_ex ab_G2 M K Rt pc n L (.inr (.inr (.inl 48)) :: r) σ .arraylength = (n = 1 ∧ K (pc + 1) L (.inl 16 :: r) σ) := by
  rw [ex_arraylength, ab_o1_s, ar2_48, ab_op_s]
  simp
theorem dal2_49 {M : ab_M} {K : ab_K} {Rt : ab_V → ab_S → Prop} {pc n : Nat} {L : ab_L} {r : List ab_V} {σ : ab_S} {i : Int} : ab_ex ab_G2 M K Rt pc n L (.inl i :: .inr (.inr (.inl 49)) :: r) σ .iaload = (n = 1 ∧ (0 ≤ i ∧ i < 16) ∧ K (pc + 1) L (.inl (σ 49 i) :: r) σ) := by
  rw [ex_iaload, ab_io_s, ar2_49, ab_op_s]
  simp
theorem das2_49 {M : ab_M} {K : ab_K} {Rt : ab_V → ab_S → Prop} {pc n : Nat} {L : ab_L} {r : List ab_V} {σ : ab_S} {i x : Int} : ab_ex ab_G2 M K Rt pc n L (.inl x :: .inl i :: .inr (.inr (.inl 49)) :: r) σ .iastore = (n = 1 ∧ (0 ≤ i ∧ i < 16) ∧ K (pc + 1) L r (ab_up σ 49 i x)) := by
  rw [ex_iastore, ab_iio_s, ar2_49, ab_op_s]
  simp
theorem dln2_49 {M : ab_M} {K : ab_K} {Rt : ab_V → ab_S → Prop} {pc n : Nat} {L : ab_L} {r : List ab_V} {σ : ab_S} : ab_ex ab_G2 M K Rt pc n L (.inr (.inr (.inl 49)) :: r) σ .arraylength = (n = 1 ∧ K (pc + 1) L (.inl 16 :: r) σ) := by
  rw [ex_arraylength, ab_o1_s, ar2_49, ab_op_s]
  simp
theorem dal2_50 {M : ab_M} {K : ab_K} {Rt : ab_V → ab_S → Prop} {pc n : Nat} {L : ab_L} {r : List ab_V} {σ : ab_S} {i : Int} : ab_ex ab_G2 M K Rt pc n L (.inl i :: .inr (.inr (.inl 50)) :: r) σ .iaload = (n = 1 ∧ (0 ≤ i ∧ i < 16) ∧ K (pc + 1) L (.inl (σ 50 i) :: r) σ) := by
  rw [ex_iaload, ab_io_s, ar2_50, ab_op_s]
  simp
theorem das2_50 {M : ab_M} {K : ab_K} {Rt : ab_V → ab_S → Prop} {pc n : Nat} {L : ab_L} {r : List ab_V} {σ : ab_S} {i x : Int} : ab_ex ab_G2 M K Rt pc n L (.inl x :: .inl i :: .inr (.inr (.inl 50)) :: r) σ .iastore = (n = 1 ∧ (0 ≤ i ∧ i < 16) ∧ K (pc + 1) L r (ab_up σ 50 i x)) := by
  rw [ex_iastore, ab_iio_s, ar2_50, ab_op_s]
  simp
theorem dln2_50 {M : ab_M} {K : ab_K} {Rt : ab_V → ab_S → Prop} {pc n : Nat} {L : ab_L} {r : List ab_V} {σ : ab_S} : ab_ex ab_G2 M K Rt pc n L (.inr (.inr (.inl 50)) :: r) σ .arraylength = (n = 1 ∧ K (pc + 1) L (.inl 16 :: r) σ) := by
  rw [ex_arraylength, ab_o1_s, ar2_50, ab_op_s]
  simp
theorem dal2_51 {M : ab_M} {K : ab_K} {Rt : ab_V → ab_S → Prop} {pc n : Nat} {L : ab_L} {r : List ab_V} {σ : ab_S} {i : Int} : ab_ex ab_G2 M K Rt pc n L (.inl i :: .inr (.inr (.inl 51)) :: r) σ .iaload = (n = 1 ∧ (0 ≤ i ∧ i < 16) ∧ K (pc + 1) L (.inl (σ 51 i) :: r) σ) := by
  rw [ex_iaload, ab_io_s, ar2_51, ab_op_s]
  simp
theorem das2_51 {M : ab_M} {K : ab_K} {Rt : ab_V → ab_S → Prop} {pc n : Nat} {L : ab_L} {r : List ab_V} {σ : ab_S} {i x : Int} : ab_ex ab_G2 M K Rt pc n L (.inl x :: .inl i :: .inr (.inr (.inl 51)) :: r) σ .iastore = (n = 1 ∧ (0 ≤ i ∧ i < 16) ∧ K (pc + 1) L r (ab_up σ 51 i x)) := by
  rw [ex_iastore, ab_iio_s, ar2_51, ab_op_s]
  simp
theorem dln2_51 {M : ab_M} {K : ab_K} {Rt : ab_V → ab_S → Prop} {pc n : Nat} {L : ab_L} {r : List ab_V} {σ : ab_S} : ab_ex ab_G2 M K Rt pc n L (.inr (.inr (.inl 51)) :: r) σ .arraylength = (n = 1 ∧ K (pc + 1) L (.inl 16 :: r) σ) := by
  rw [ex_arraylength, ab_o1_s, ar2_51, ab_op_s]
  simp
theorem dal2_52 {M : ab_M} {K : ab_K} {Rt : ab_V → ab_S → Prop} {pc n : Nat} {L : ab_L} {r : List ab_V} {σ : ab_S} {i : Int} : ab_ex ab_G2 M K Rt pc n L (.inl i :: .inr (.inr (.inl 52)) :: r) σ .iaload = (n = 1 ∧ (0 ≤ i ∧ i < 16) ∧ K (pc + 1) L (.inl (σ 52 i) :: r) σ) := by
  rw [ex_iaload, ab_io_s, ar2_52, ab_op_s]
  simp
theorem das2_52 {M : ab_M} {K : ab_K} {Rt : ab_V → ab_S → Prop} {pc n : Nat} {L : ab_L} {r : List ab_V} {σ : ab_S} {i x : Int} : ab_ex ab_G2 M K Rt pc n L (.inl x :: .inl i :: .inr (.inr (.inl 52)) :: r) σ .iastore = (n = 1 ∧ (0 ≤ i ∧ i < 16) ∧ K (pc + 1) L r (ab_up σ 52 i x)) := by
  rw [ex_iastore, ab_iio_s, ar2_52, ab_op_s]
  simp
theorem dln2_52 {M : ab_M} {K : ab_K} {Rt : ab_V → ab_S → Prop} {pc n : Nat} {L : ab_L} {r : List ab_V} {σ : ab_S} : ab_ex ab_G2 M K Rt pc n L (.inr (.inr (.inl 52)) :: r) σ .arraylength = (n = 1 ∧ K (pc + 1) L (.inl 16 :: r) σ) := by
  rw [ex_arraylength, ab_o1_s, ar2_52, ab_op_s]
  simp
theorem dv1_1_69_88 {M : ab_M} {K : ab_K} {Rt : ab_V → ab_S → Prop} {pc n : Nat} {L : ab_L} {r : List ab_V} {σ : ab_S} {v0 v1 v2 : ab_V} (hM : ab_own M = 1) : ab_ex ab_G1 M K Rt pc n L (v2 :: v1 :: v0 :: .inr (.inr (.inl 88)) :: r) σ (.invokevirtual 69) = (n = 3 ∧ ab_rok M mdX1_weighAll r ∧ ab_Runs ab_G1 mdX1_weighAll [.inr (.inr (.inl 88)), v0, v1, v2] σ (fun v τ => K (pc + 3) L r τ)) := by
  rw [ex_invokevirtual, hM, vn1_69, ab_op_s]
  simp [ab_o1_s, ar1_88, ab_op_s, iv1_69_1, moX1_weighAll, ab_psh]
theorem dv1_1_73_88 {M : ab_M} {K : ab_K} {Rt : ab_V → ab_S → Prop} {pc n : Nat} {L : ab_L} {r : List ab_V} {σ : ab_S} (hM : ab_own M = 1) : ab_ex ab_G1 M K Rt pc n L (.inr (.inr (.inl 88)) :: r) σ (.invokevirtual 73) = (n = 3 ∧ ab_rok M mdX1_findRests r ∧ ab_Runs ab_G1 mdX1_findRests [.inr (.inr (.inl 88))] σ (fun v τ => K (pc + 3) L r τ)) := by
  rw [ex_invokevirtual, hM, vn1_73, ab_op_s]
  simp [ab_o1_s, ar1_88, ab_op_s, iv1_73_1, moX1_findRests, ab_psh]
theorem dv1_1_81_65 {M : ab_M} {K : ab_K} {Rt : ab_V → ab_S → Prop} {pc n : Nat} {L : ab_L} {r : List ab_V} {σ : ab_S} {v0 : ab_V} (hM : ab_own M = 1) : ab_ex ab_G1 M K Rt pc n L (v0 :: .inr (.inr (.inl 65)) :: r) σ (.invokevirtual 81) = (n = 3 ∧ ab_rok M mdX3_load r ∧ ab_Runs ab_G1 mdX3_load [.inr (.inr (.inl 65)), v0] σ (fun v τ => K (pc + 3) L r τ)) := by
  rw [ex_invokevirtual, hM, vn1_81, ab_op_s]
  simp [ab_o1_s, ar1_65, ab_op_s, iv1_81_3, moX3_load, ab_psh]
theorem dv1_1_87_65 {M : ab_M} {K : ab_K} {Rt : ab_V → ab_S → Prop} {pc n : Nat} {L : ab_L} {r : List ab_V} {σ : ab_S} {v0 v1 : ab_V} (hM : ab_own M = 1) : ab_ex ab_G1 M K Rt pc n L (v1 :: v0 :: .inr (.inr (.inl 65)) :: r) σ (.invokevirtual 87) = (n = 3 ∧ ab_rok M mdX8_place r ∧ ab_Runs ab_G1 mdX8_place [.inr (.inr (.inl 65)), v0, v1] σ (fun v τ => K (pc + 3) L r τ)) := by
  rw [ex_invokevirtual, hM, vn1_87, ab_op_s]
  simp [ab_o1_s, ar1_65, ab_op_s, iv1_87_3, moX8_place, ab_psh]
theorem dv1_1_91_88 {M : ab_M} {K : ab_K} {Rt : ab_V → ab_S → Prop} {pc n : Nat} {L : ab_L} {r : List ab_V} {σ : ab_S} {v0 : ab_V} (hM : ab_own M = 1) : ab_ex ab_G1 M K Rt pc n L (v0 :: .inr (.inr (.inl 88)) :: r) σ (.invokevirtual 91) = (n = 3 ∧ ab_rok M mdX1_weighRow r ∧ ab_Runs ab_G1 mdX1_weighRow [.inr (.inr (.inl 88)), v0] σ (fun v τ => K (pc + 3) L r τ)) := by
  rw [ex_invokevirtual, hM, vn1_91, ab_op_s]
  simp [ab_o1_s, ar1_88, ab_op_s, iv1_91_1, moX1_weighRow, ab_psh]
theorem dv1_1_98_65 {M : ab_M} {K : ab_K} {Rt : ab_V → ab_S → Prop} {pc n : Nat} {L : ab_L} {r : List ab_V} {σ : ab_S} {v0 v1 : ab_V} (hM : ab_own M = 1) : ab_ex ab_G1 M K Rt pc n L (v1 :: v0 :: .inr (.inr (.inl 65)) :: r) σ (.invokevirtual 98) = (n = 3 ∧ ab_rok M mdX3_isFarEnough r ∧ ab_Runs ab_G1 mdX3_isFarEnough [.inr (.inr (.inl 65)), v0, v1] σ (fun v τ => K (pc + 3) L (v :: r) τ)) := by
  rw [ex_invokevirtual, hM, vn1_98, ab_op_s]
  simp [ab_o1_s, ar1_65, ab_op_s, iv1_98_3, moX3_isFarEnough, ab_psh]
theorem dv1_1_102_65 {M : ab_M} {K : ab_K} {Rt : ab_V → ab_S → Prop} {pc n : Nat} {L : ab_L} {r : List ab_V} {σ : ab_S} (hM : ab_own M = 1) : ab_ex ab_G1 M K Rt pc n L (.inr (.inr (.inl 65)) :: r) σ (.invokevirtual 102) = (n = 3 ∧ ab_rok M mdX8_goRound r ∧ ab_Runs ab_G1 mdX8_goRound [.inr (.inr (.inl 65))] σ (fun v τ => K (pc + 3) L r τ)) := by
  rw [ex_invokevirtual, hM, vn1_102, ab_op_s]
  simp [ab_o1_s, ar1_65, ab_op_s, iv1_102_3, moX8_goRound, ab_psh]
theorem dv1_1_105_65 {M : ab_M} {K : ab_K} {Rt : ab_V → ab_S → Prop} {pc n : Nat} {L : ab_L} {r : List ab_V} {σ : ab_S} {v0 : ab_V} (hM : ab_own M = 1) : ab_ex ab_G1 M K Rt pc n L (v0 :: .inr (.inr (.inl 65)) :: r) σ (.invokevirtual 105) = (n = 3 ∧ ab_rok M mdX3_worth r ∧ ab_Runs ab_G1 mdX3_worth [.inr (.inr (.inl 65)), v0] σ (fun v τ => K (pc + 3) L (v :: r) τ)) := by
  rw [ex_invokevirtual, hM, vn1_105, ab_op_s]
  simp [ab_o1_s, ar1_65, ab_op_s, iv1_105_3, moX3_worth, ab_psh]
theorem dv1_1_110_88 {M : ab_M} {K : ab_K} {Rt : ab_V → ab_S → Prop} {pc n : Nat} {L : ab_L} {r : List ab_V} {σ : ab_S} {v0 : ab_V} (hM : ab_own M = 1) : ab_ex ab_G1 M K Rt pc n L (v0 :: .inr (.inr (.inl 88)) :: r) σ (.invokevirtual 110) = (n = 3 ∧ ab_rok M mdX1_isRest r ∧ ab_Runs ab_G1 mdX1_isRest [.inr (.inr (.inl 88)), v0] σ (fun v τ => K (pc + 3) L (v :: r) τ)) := by
  rw [ex_invokevirtual, hM, vn1_110, ab_op_s]
  simp [ab_o1_s, ar1_88, ab_op_s, iv1_110_1, moX1_isRest, ab_psh]
theorem dv1_1_114_88 {M : ab_M} {K : ab_K} {Rt : ab_V → ab_S → Prop} {pc n : Nat} {L : ab_L} {r : List ab_V} {σ : ab_S} {v0 v1 : ab_V} (hM : ab_own M = 1) : ab_ex ab_G1 M K Rt pc n L (v1 :: v0 :: .inr (.inr (.inl 88)) :: r) σ (.invokevirtual 114) = (n = 3 ∧ ab_rok M mdX1_cornerIn r ∧ ab_Runs ab_G1 mdX1_cornerIn [.inr (.inr (.inl 88)), v0, v1] σ (fun v τ => K (pc + 3) L (v :: r) τ)) := by
  rw [ex_invokevirtual, hM, vn1_114, ab_op_s]
  simp [ab_o1_s, ar1_88, ab_op_s, iv1_114_1, moX1_cornerIn, ab_psh]
theorem dv1_1_118_88 {M : ab_M} {K : ab_K} {Rt : ab_V → ab_S → Prop} {pc n : Nat} {L : ab_L} {r : List ab_V} {σ : ab_S} {v0 v1 : ab_V} (hM : ab_own M = 1) : ab_ex ab_G1 M K Rt pc n L (v1 :: v0 :: .inr (.inr (.inl 88)) :: r) σ (.invokevirtual 118) = (n = 3 ∧ ab_rok M mdX1_answerTo r ∧ ab_Runs ab_G1 mdX1_answerTo [.inr (.inr (.inl 88)), v0, v1] σ (fun v τ => K (pc + 3) L (v :: r) τ)) := by
  rw [ex_invokevirtual, hM, vn1_118, ab_op_s]
  simp [ab_o1_s, ar1_88, ab_op_s, iv1_118_1, moX1_answerTo, ab_psh]
theorem dv1_1_121_88 {M : ab_M} {K : ab_K} {Rt : ab_V → ab_S → Prop} {pc n : Nat} {L : ab_L} {r : List ab_V} {σ : ab_S} {v0 v1 : ab_V} (hM : ab_own M = 1) : ab_ex ab_G1 M K Rt pc n L (v1 :: v0 :: .inr (.inr (.inl 88)) :: r) σ (.invokevirtual 121) = (n = 3 ∧ ab_rok M mdX1_worthOf r ∧ ab_Runs ab_G1 mdX1_worthOf [.inr (.inr (.inl 88)), v0, v1] σ (fun v τ => K (pc + 3) L (v :: r) τ)) := by
  rw [ex_invokevirtual, hM, vn1_121, ab_op_s]
  simp [ab_o1_s, ar1_88, ab_op_s, iv1_121_1, moX1_worthOf, ab_psh]
theorem dv1_1_162_28 {M : ab_M} {K : ab_K} {Rt : ab_V → ab_S → Prop} {pc n : Nat} {L : ab_L} {r : List ab_V} {σ : ab_S} {v0 v1 : ab_V} (hM : ab_own M = 1) : ab_ex ab_G1 M K Rt pc n L (v1 :: v0 :: .inr (.inr (.inl 28)) :: r) σ (.invokevirtual 162) = (n = 3 ∧ ab_rok M mdX7_lay r ∧ ab_Runs ab_G1 mdX7_lay [.inr (.inr (.inl 28)), v0, v1] σ (fun v τ => K (pc + 3) L r τ)) := by
  rw [ex_invokevirtual, hM, vn1_162, ab_op_s]
  simp [ab_o1_s, ar1_28, ab_op_s, iv1_162_7, moX7_lay, ab_psh]
theorem dv1_1_168_88 {M : ab_M} {K : ab_K} {Rt : ab_V → ab_S → Prop} {pc n : Nat} {L : ab_L} {r : List ab_V} {σ : ab_S} (hM : ab_own M = 1) : ab_ex ab_G1 M K Rt pc n L (.inr (.inr (.inl 88)) :: r) σ (.invokevirtual 168) = (n = 3 ∧ ab_rok M mdX1_leastWalk r ∧ ab_Runs ab_G1 mdX1_leastWalk [.inr (.inr (.inl 88))] σ (fun v τ => K (pc + 3) L (v :: r) τ)) := by
  rw [ex_invokevirtual, hM, vn1_168, ab_op_s]
  simp [ab_o1_s, ar1_88, ab_op_s, iv1_168_1, moX1_leastWalk, ab_psh]
theorem dv1_1_179_76 {M : ab_M} {K : ab_K} {Rt : ab_V → ab_S → Prop} {pc n : Nat} {L : ab_L} {r : List ab_V} {σ : ab_S} {v0 v1 : ab_V} (hM : ab_own M = 1) : ab_ex ab_G1 M K Rt pc n L (v1 :: v0 :: .inr (.inr (.inl 76)) :: r) σ (.invokevirtual 179) = (n = 3 ∧ ab_rok M mdX10_toSpots r ∧ ab_Runs ab_G1 mdX10_toSpots [.inr (.inr (.inl 76)), v0, v1] σ (fun v τ => K (pc + 3) L (v :: r) τ)) := by
  rw [ex_invokevirtual, hM, vn1_179, ab_op_s]
  simp [ab_o1_s, ar1_76, ab_op_s, iv1_179_9, moX10_toSpots, ab_psh]
theorem dv1_3_49_65 {M : ab_M} {K : ab_K} {Rt : ab_V → ab_S → Prop} {pc n : Nat} {L : ab_L} {r : List ab_V} {σ : ab_S} {v0 v1 : ab_V} (hM : ab_own M = 3) : ab_ex ab_G1 M K Rt pc n L (v1 :: v0 :: .inr (.inr (.inl 65)) :: r) σ (.invokevirtual 49) = (n = 3 ∧ ab_rok M mdX8_place r ∧ ab_Runs ab_G1 mdX8_place [.inr (.inr (.inl 65)), v0, v1] σ (fun v τ => K (pc + 3) L r τ)) := by
  rw [ex_invokevirtual, hM, vn3_49, ab_op_s]
  simp [ab_o1_s, ar1_65, ab_op_s, iv3_49_3, moX8_place, ab_psh]
theorem dv1_3_100_65 {M : ab_M} {K : ab_K} {Rt : ab_V → ab_S → Prop} {pc n : Nat} {L : ab_L} {r : List ab_V} {σ : ab_S} {v0 : ab_V} (hM : ab_own M = 3) : ab_ex ab_G1 M K Rt pc n L (v0 :: .inr (.inr (.inl 65)) :: r) σ (.invokevirtual 100) = (n = 3 ∧ ab_rok M mdX3_worth r ∧ ab_Runs ab_G1 mdX3_worth [.inr (.inr (.inl 65)), v0] σ (fun v τ => K (pc + 3) L (v :: r) τ)) := by
  rw [ex_invokevirtual, hM, vn3_100, ab_op_s]
  simp [ab_o1_s, ar1_65, ab_op_s, iv3_100_3, moX3_worth, ab_psh]
theorem dv1_3_107_65 {M : ab_M} {K : ab_K} {Rt : ab_V → ab_S → Prop} {pc n : Nat} {L : ab_L} {r : List ab_V} {σ : ab_S} {v0 v1 : ab_V} (hM : ab_own M = 3) : ab_ex ab_G1 M K Rt pc n L (v1 :: v0 :: .inr (.inr (.inl 65)) :: r) σ (.invokevirtual 107) = (n = 3 ∧ ab_rok M mdX8_stepsTo r ∧ ab_Runs ab_G1 mdX8_stepsTo [.inr (.inr (.inl 65)), v0, v1] σ (fun v τ => K (pc + 3) L (v :: r) τ)) := by
  rw [ex_invokevirtual, hM, vn3_107, ab_op_s]
  simp [ab_o1_s, ar1_65, ab_op_s, iv3_107_3, moX8_stepsTo, ab_psh]
theorem dv1_4_74_65 {M : ab_M} {K : ab_K} {Rt : ab_V → ab_S → Prop} {pc n : Nat} {L : ab_L} {r : List ab_V} {σ : ab_S} {v0 v1 : ab_V} (hM : ab_own M = 4) : ab_ex ab_G1 M K Rt pc n L (v1 :: v0 :: .inr (.inr (.inl 65)) :: r) σ (.invokevirtual 74) = (n = 3 ∧ ab_rok M mdX8_place r ∧ ab_Runs ab_G1 mdX8_place [.inr (.inr (.inl 65)), v0, v1] σ (fun v τ => K (pc + 3) L r τ)) := by
  rw [ex_invokevirtual, hM, vn4_74, ab_op_s]
  simp [ab_o1_s, ar1_65, ab_op_s, iv4_74_3, moX8_place, ab_psh]
theorem dv1_4_86_82 {M : ab_M} {K : ab_K} {Rt : ab_V → ab_S → Prop} {pc n : Nat} {L : ab_L} {r : List ab_V} {σ : ab_S} {v0 : ab_V} (hM : ab_own M = 4) : ab_ex ab_G1 M K Rt pc n L (v0 :: .inr (.inr (.inl 82)) :: r) σ (.invokevirtual 86) = (n = 3 ∧ ab_rok M mdX4_standing r ∧ ab_Runs ab_G1 mdX4_standing [.inr (.inr (.inl 82)), v0] σ (fun v τ => K (pc + 3) L (v :: r) τ)) := by
  rw [ex_invokevirtual, hM, vn4_86, ab_op_s]
  simp [ab_o1_s, ar1_82, ab_op_s, iv4_86_4, moX4_standing, ab_psh]
theorem dv1_4_98_82 {M : ab_M} {K : ab_K} {Rt : ab_V → ab_S → Prop} {pc n : Nat} {L : ab_L} {r : List ab_V} {σ : ab_S} {v0 v1 : ab_V} (hM : ab_own M = 4) : ab_ex ab_G1 M K Rt pc n L (v1 :: v0 :: .inr (.inr (.inl 82)) :: r) σ (.invokevirtual 98) = (n = 3 ∧ ab_rok M mdX4_addOther r ∧ ab_Runs ab_G1 mdX4_addOther [.inr (.inr (.inl 82)), v0, v1] σ (fun v τ => K (pc + 3) L r τ)) := by
  rw [ex_invokevirtual, hM, vn4_98, ab_op_s]
  simp [ab_o1_s, ar1_82, ab_op_s, iv4_98_4, moX4_addOther, ab_psh]
theorem dv1_4_105_65 {M : ab_M} {K : ab_K} {Rt : ab_V → ab_S → Prop} {pc n : Nat} {L : ab_L} {r : List ab_V} {σ : ab_S} {v0 v1 : ab_V} (hM : ab_own M = 4) : ab_ex ab_G1 M K Rt pc n L (v1 :: v0 :: .inr (.inr (.inl 65)) :: r) σ (.invokevirtual 105) = (n = 3 ∧ ab_rok M mdX3_isFarEnough r ∧ ab_Runs ab_G1 mdX3_isFarEnough [.inr (.inr (.inl 65)), v0, v1] σ (fun v τ => K (pc + 3) L (v :: r) τ)) := by
  rw [ex_invokevirtual, hM, vn4_105, ab_op_s]
  simp [ab_o1_s, ar1_65, ab_op_s, iv4_105_3, moX3_isFarEnough, ab_psh]
theorem dv1_4_126_65 {M : ab_M} {K : ab_K} {Rt : ab_V → ab_S → Prop} {pc n : Nat} {L : ab_L} {r : List ab_V} {σ : ab_S} (hM : ab_own M = 4) : ab_ex ab_G1 M K Rt pc n L (.inr (.inr (.inl 65)) :: r) σ (.invokevirtual 126) = (n = 3 ∧ ab_rok M mdX8_goRound r ∧ ab_Runs ab_G1 mdX8_goRound [.inr (.inr (.inl 65))] σ (fun v τ => K (pc + 3) L r τ)) := by
  rw [ex_invokevirtual, hM, vn4_126, ab_op_s]
  simp [ab_o1_s, ar1_65, ab_op_s, iv4_126_3, moX8_goRound, ab_psh]
theorem dv1_4_129_65 {M : ab_M} {K : ab_K} {Rt : ab_V → ab_S → Prop} {pc n : Nat} {L : ab_L} {r : List ab_V} {σ : ab_S} {v0 : ab_V} (hM : ab_own M = 4) : ab_ex ab_G1 M K Rt pc n L (v0 :: .inr (.inr (.inl 65)) :: r) σ (.invokevirtual 129) = (n = 3 ∧ ab_rok M mdX3_takings r ∧ ab_Runs ab_G1 mdX3_takings [.inr (.inr (.inl 65)), v0] σ (fun v τ => K (pc + 3) L (v :: r) τ)) := by
  rw [ex_invokevirtual, hM, vn4_129, ab_op_s]
  simp [ab_o1_s, ar1_65, ab_op_s, iv4_129_3, moX3_takings, ab_psh]
theorem dv1_4_133_82 {M : ab_M} {K : ab_K} {Rt : ab_V → ab_S → Prop} {pc n : Nat} {L : ab_L} {r : List ab_V} {σ : ab_S} {v0 : ab_V} (hM : ab_own M = 4) : ab_ex ab_G1 M K Rt pc n L (v0 :: .inr (.inr (.inl 82)) :: r) σ (.invokevirtual 133) = (n = 3 ∧ ab_rok M mdX4_listOthers r ∧ ab_Runs ab_G1 mdX4_listOthers [.inr (.inr (.inl 82)), v0] σ (fun v τ => K (pc + 3) L r τ)) := by
  rw [ex_invokevirtual, hM, vn4_133, ab_op_s]
  simp [ab_o1_s, ar1_82, ab_op_s, iv4_133_4, moX4_listOthers, ab_psh]
theorem dv1_4_137_82 {M : ab_M} {K : ab_K} {Rt : ab_V → ab_S → Prop} {pc n : Nat} {L : ab_L} {r : List ab_V} {σ : ab_S} {v0 v1 : ab_V} (hM : ab_own M = 4) : ab_ex ab_G1 M K Rt pc n L (v1 :: v0 :: .inr (.inr (.inl 82)) :: r) σ (.invokevirtual 137) = (n = 3 ∧ ab_rok M mdX4_take r ∧ ab_Runs ab_G1 mdX4_take [.inr (.inr (.inl 82)), v0, v1] σ (fun v τ => K (pc + 3) L r τ)) := by
  rw [ex_invokevirtual, hM, vn4_137, ab_op_s]
  simp [ab_o1_s, ar1_82, ab_op_s, iv4_137_4, moX4_take, ab_psh]
theorem dv1_4_143_82 {M : ab_M} {K : ab_K} {Rt : ab_V → ab_S → Prop} {pc n : Nat} {L : ab_L} {r : List ab_V} {σ : ab_S} {v0 : ab_V} (hM : ab_own M = 4) : ab_ex ab_G1 M K Rt pc n L (v0 :: .inr (.inr (.inl 82)) :: r) σ (.invokevirtual 143) = (n = 3 ∧ ab_rok M mdX4_findBest r ∧ ab_Runs ab_G1 mdX4_findBest [.inr (.inr (.inl 82)), v0] σ (fun v τ => K (pc + 3) L r τ)) := by
  rw [ex_invokevirtual, hM, vn4_143, ab_op_s]
  simp [ab_o1_s, ar1_82, ab_op_s, iv4_143_4, moX4_findBest, ab_psh]
theorem dv1_4_146_65 {M : ab_M} {K : ab_K} {Rt : ab_V → ab_S → Prop} {pc n : Nat} {L : ab_L} {r : List ab_V} {σ : ab_S} {v0 : ab_V} (hM : ab_own M = 4) : ab_ex ab_G1 M K Rt pc n L (v0 :: .inr (.inr (.inl 65)) :: r) σ (.invokevirtual 146) = (n = 3 ∧ ab_rok M mdX3_load r ∧ ab_Runs ab_G1 mdX3_load [.inr (.inr (.inl 65)), v0] σ (fun v τ => K (pc + 3) L r τ)) := by
  rw [ex_invokevirtual, hM, vn4_146, ab_op_s]
  simp [ab_o1_s, ar1_65, ab_op_s, iv4_146_3, moX3_load, ab_psh]
theorem dv1_4_150_82 {M : ab_M} {K : ab_K} {Rt : ab_V → ab_S → Prop} {pc n : Nat} {L : ab_L} {r : List ab_V} {σ : ab_S} (hM : ab_own M = 4) : ab_ex ab_G1 M K Rt pc n L (.inr (.inr (.inl 82)) :: r) σ (.invokevirtual 150) = (n = 3 ∧ ab_rok M mdX4_snapshot r ∧ ab_Runs ab_G1 mdX4_snapshot [.inr (.inr (.inl 82))] σ (fun v τ => K (pc + 3) L (v :: r) τ)) := by
  rw [ex_invokevirtual, hM, vn4_150, ab_op_s]
  simp [ab_o1_s, ar1_82, ab_op_s, iv4_150_4, moX4_snapshot, ab_psh]
theorem dv1_4_154_82 {M : ab_M} {K : ab_K} {Rt : ab_V → ab_S → Prop} {pc n : Nat} {L : ab_L} {r : List ab_V} {σ : ab_S} {v0 v1 v2 : ab_V} (hM : ab_own M = 4) : ab_ex ab_G1 M K Rt pc n L (v2 :: v1 :: v0 :: .inr (.inr (.inl 82)) :: r) σ (.invokevirtual 154) = (n = 3 ∧ ab_rok M mdX4_endChase r ∧ ab_Runs ab_G1 mdX4_endChase [.inr (.inr (.inl 82)), v0, v1, v2] σ (fun v τ => K (pc + 3) L r τ)) := by
  rw [ex_invokevirtual, hM, vn4_154, ab_op_s]
  simp [ab_o1_s, ar1_82, ab_op_s, iv4_154_4, moX4_endChase, ab_psh]
theorem dv1_4_158_82 {M : ab_M} {K : ab_K} {Rt : ab_V → ab_S → Prop} {pc n : Nat} {L : ab_L} {r : List ab_V} {σ : ab_S} (hM : ab_own M = 4) : ab_ex ab_G1 M K Rt pc n L (.inr (.inr (.inl 82)) :: r) σ (.invokevirtual 158) = (n = 3 ∧ ab_rok M mdX4_goOneRound r ∧ ab_Runs ab_G1 mdX4_goOneRound [.inr (.inr (.inl 82))] σ (fun v τ => K (pc + 3) L (v :: r) τ)) := by
  rw [ex_invokevirtual, hM, vn4_158, ab_op_s]
  simp [ab_o1_s, ar1_82, ab_op_s, iv4_158_4, moX4_goOneRound, ab_psh]
theorem dv1_4_162_82 {M : ab_M} {K : ab_K} {Rt : ab_V → ab_S → Prop} {pc n : Nat} {L : ab_L} {r : List ab_V} {σ : ab_S} {v0 : ab_V} (hM : ab_own M = 4) : ab_ex ab_G1 M K Rt pc n L (v0 :: .inr (.inr (.inl 82)) :: r) σ (.invokevirtual 162) = (n = 3 ∧ ab_rok M mdX4_sameAgo r ∧ ab_Runs ab_G1 mdX4_sameAgo [.inr (.inr (.inl 82)), v0] σ (fun v τ => K (pc + 3) L (v :: r) τ)) := by
  rw [ex_invokevirtual, hM, vn4_162, ab_op_s]
  simp [ab_o1_s, ar1_82, ab_op_s, iv4_162_4, moX4_sameAgo, ab_psh]
theorem dv1_4_174_82 {M : ab_M} {K : ab_K} {Rt : ab_V → ab_S → Prop} {pc n : Nat} {L : ab_L} {r : List ab_V} {σ : ab_S} {v0 v1 v2 : ab_V} (hM : ab_own M = 4) : ab_ex ab_G1 M K Rt pc n L (v2 :: v1 :: v0 :: .inr (.inr (.inl 82)) :: r) σ (.invokevirtual 174) = (n = 3 ∧ ab_rok M mdX4_leastShiftFor r ∧ ab_Runs ab_G1 mdX4_leastShiftFor [.inr (.inr (.inl 82)), v0, v1, v2] σ (fun v τ => K (pc + 3) L (v :: r) τ)) := by
  rw [ex_invokevirtual, hM, vn4_174, ab_op_s]
  simp [ab_o1_s, ar1_82, ab_op_s, iv4_174_4, moX4_leastShiftFor, ab_psh]
theorem dv1_4_183_65 {M : ab_M} {K : ab_K} {Rt : ab_V → ab_S → Prop} {pc n : Nat} {L : ab_L} {r : List ab_V} {σ : ab_S} {v0 v1 : ab_V} (hM : ab_own M = 4) : ab_ex ab_G1 M K Rt pc n L (v1 :: v0 :: .inr (.inr (.inl 65)) :: r) σ (.invokevirtual 183) = (n = 3 ∧ ab_rok M mdX3_takingsOfOne r ∧ ab_Runs ab_G1 mdX3_takingsOfOne [.inr (.inr (.inl 65)), v0, v1] σ (fun v τ => K (pc + 3) L (v :: r) τ)) := by
  rw [ex_invokevirtual, hM, vn4_183, ab_op_s]
  simp [ab_o1_s, ar1_65, ab_op_s, iv4_183_3, moX3_takingsOfOne, ab_psh]
theorem dv1_5_62_65 {M : ab_M} {K : ab_K} {Rt : ab_V → ab_S → Prop} {pc n : Nat} {L : ab_L} {r : List ab_V} {σ : ab_S} {v0 : ab_V} (hM : ab_own M = 5) : ab_ex ab_G1 M K Rt pc n L (v0 :: .inr (.inr (.inl 65)) :: r) σ (.invokevirtual 62) = (n = 3 ∧ ab_rok M mdX3_load r ∧ ab_Runs ab_G1 mdX3_load [.inr (.inr (.inl 65)), v0] σ (fun v τ => K (pc + 3) L r τ)) := by
  rw [ex_invokevirtual, hM, vn5_62, ab_op_s]
  simp [ab_o1_s, ar1_65, ab_op_s, iv5_62_3, moX3_load, ab_psh]
theorem dv1_5_68_96 {M : ab_M} {K : ab_K} {Rt : ab_V → ab_S → Prop} {pc n : Nat} {L : ab_L} {r : List ab_V} {σ : ab_S} {v0 v1 : ab_V} (hM : ab_own M = 5) : ab_ex ab_G1 M K Rt pc n L (v1 :: v0 :: .inr (.inr (.inl 96)) :: r) σ (.invokevirtual 68) = (n = 3 ∧ ab_rok M mdX5_findPairs r ∧ ab_Runs ab_G1 mdX5_findPairs [.inr (.inr (.inl 96)), v0, v1] σ (fun v τ => K (pc + 3) L r τ)) := by
  rw [ex_invokevirtual, hM, vn5_68, ab_op_s]
  simp [ab_o1_s, ar1_96, ab_op_s, iv5_68_5, moX5_findPairs, ab_psh]
theorem dv1_5_97_65 {M : ab_M} {K : ab_K} {Rt : ab_V → ab_S → Prop} {pc n : Nat} {L : ab_L} {r : List ab_V} {σ : ab_S} (hM : ab_own M = 5) : ab_ex ab_G1 M K Rt pc n L (.inr (.inr (.inl 65)) :: r) σ (.invokevirtual 97) = (n = 3 ∧ ab_rok M mdX8_goRound r ∧ ab_Runs ab_G1 mdX8_goRound [.inr (.inr (.inl 65))] σ (fun v τ => K (pc + 3) L r τ)) := by
  rw [ex_invokevirtual, hM, vn5_97, ab_op_s]
  simp [ab_o1_s, ar1_65, ab_op_s, iv5_97_3, moX8_goRound, ab_psh]
theorem dv1_5_100_65 {M : ab_M} {K : ab_K} {Rt : ab_V → ab_S → Prop} {pc n : Nat} {L : ab_L} {r : List ab_V} {σ : ab_S} {v0 : ab_V} (hM : ab_own M = 5) : ab_ex ab_G1 M K Rt pc n L (v0 :: .inr (.inr (.inl 65)) :: r) σ (.invokevirtual 100) = (n = 3 ∧ ab_rok M mdX3_worth r ∧ ab_Runs ab_G1 mdX3_worth [.inr (.inr (.inl 65)), v0] σ (fun v τ => K (pc + 3) L (v :: r) τ)) := by
  rw [ex_invokevirtual, hM, vn5_100, ab_op_s]
  simp [ab_o1_s, ar1_65, ab_op_s, iv5_100_3, moX3_worth, ab_psh]
theorem dv1_5_104_96 {M : ab_M} {K : ab_K} {Rt : ab_V → ab_S → Prop} {pc n : Nat} {L : ab_L} {r : List ab_V} {σ : ab_S} {v0 v1 : ab_V} (hM : ab_own M = 5) : ab_ex ab_G1 M K Rt pc n L (v1 :: v0 :: .inr (.inr (.inl 96)) :: r) σ (.invokevirtual 104) = (n = 3 ∧ ab_rok M mdX5_isRest r ∧ ab_Runs ab_G1 mdX5_isRest [.inr (.inr (.inl 96)), v0, v1] σ (fun v τ => K (pc + 3) L (v :: r) τ)) := by
  rw [ex_invokevirtual, hM, vn5_104, ab_op_s]
  simp [ab_o1_s, ar1_96, ab_op_s, iv5_104_5, moX5_isRest, ab_psh]
theorem dv1_5_108_65 {M : ab_M} {K : ab_K} {Rt : ab_V → ab_S → Prop} {pc n : Nat} {L : ab_L} {r : List ab_V} {σ : ab_S} {v0 v1 : ab_V} (hM : ab_own M = 5) : ab_ex ab_G1 M K Rt pc n L (v1 :: v0 :: .inr (.inr (.inl 65)) :: r) σ (.invokevirtual 108) = (n = 3 ∧ ab_rok M mdX8_place r ∧ ab_Runs ab_G1 mdX8_place [.inr (.inr (.inl 65)), v0, v1] σ (fun v τ => K (pc + 3) L r τ)) := by
  rw [ex_invokevirtual, hM, vn5_108, ab_op_s]
  simp [ab_o1_s, ar1_65, ab_op_s, iv5_108_3, moX8_place, ab_psh]
theorem dv1_5_111_96 {M : ab_M} {K : ab_K} {Rt : ab_V → ab_S → Prop} {pc n : Nat} {L : ab_L} {r : List ab_V} {σ : ab_S} {v0 v1 v2 : ab_V} (hM : ab_own M = 5) : ab_ex ab_G1 M K Rt pc n L (v2 :: v1 :: v0 :: .inr (.inr (.inl 96)) :: r) σ (.invokevirtual 111) = (n = 3 ∧ ab_rok M mdX5_weighStage r ∧ ab_Runs ab_G1 mdX5_weighStage [.inr (.inr (.inl 96)), v0, v1, v2] σ (fun v τ => K (pc + 3) L r τ)) := by
  rw [ex_invokevirtual, hM, vn5_111, ab_op_s]
  simp [ab_o1_s, ar1_96, ab_op_s, iv5_111_5, moX5_weighStage, ab_psh]
theorem dv1_5_124_65 {M : ab_M} {K : ab_K} {Rt : ab_V → ab_S → Prop} {pc n : Nat} {L : ab_L} {r : List ab_V} {σ : ab_S} {v0 v1 : ab_V} (hM : ab_own M = 5) : ab_ex ab_G1 M K Rt pc n L (v1 :: v0 :: .inr (.inr (.inl 65)) :: r) σ (.invokevirtual 124) = (n = 3 ∧ ab_rok M mdX3_isFarEnough r ∧ ab_Runs ab_G1 mdX3_isFarEnough [.inr (.inr (.inl 65)), v0, v1] σ (fun v τ => K (pc + 3) L (v :: r) τ)) := by
  rw [ex_invokevirtual, hM, vn5_124, ab_op_s]
  simp [ab_o1_s, ar1_65, ab_op_s, iv5_124_3, moX3_isFarEnough, ab_psh]
theorem dv1_5_127_96 {M : ab_M} {K : ab_K} {Rt : ab_V → ab_S → Prop} {pc n : Nat} {L : ab_L} {r : List ab_V} {σ : ab_S} {v0 : ab_V} (hM : ab_own M = 5) : ab_ex ab_G1 M K Rt pc n L (v0 :: .inr (.inr (.inl 96)) :: r) σ (.invokevirtual 127) = (n = 3 ∧ ab_rok M mdX5_pairAt r ∧ ab_Runs ab_G1 mdX5_pairAt [.inr (.inr (.inl 96)), v0] σ (fun v τ => K (pc + 3) L (v :: r) τ)) := by
  rw [ex_invokevirtual, hM, vn5_127, ab_op_s]
  simp [ab_o1_s, ar1_96, ab_op_s, iv5_127_5, moX5_pairAt, ab_psh]
theorem dv1_6_34_1 {M : ab_M} {K : ab_K} {Rt : ab_V → ab_S → Prop} {pc n : Nat} {L : ab_L} {r : List ab_V} {σ : ab_S} {v0 : ab_V} (hM : ab_own M = 6) : ab_ex ab_G1 M K Rt pc n L (v0 :: .inr (.inr (.inl 1)) :: r) σ (.invokevirtual 34) = (n = 3 ∧ ab_rok M mdX6_begin r ∧ ab_Runs ab_G1 mdX6_begin [.inr (.inr (.inl 1)), v0] σ (fun v τ => K (pc + 3) L r τ)) := by
  rw [ex_invokevirtual, hM, vn6_34, ab_op_s]
  simp [ab_o1_s, ar1_1, ab_op_s, iv6_34_6, moX6_begin, ab_psh]
theorem dv1_6_38_3 {M : ab_M} {K : ab_K} {Rt : ab_V → ab_S → Prop} {pc n : Nat} {L : ab_L} {r : List ab_V} {σ : ab_S} (hM : ab_own M = 6) : ab_ex ab_G1 M K Rt pc n L (.inr (.inr (.inl 3)) :: r) σ (.invokevirtual 38) = (n = 3 ∧ ab_rok M mdX9_clear r ∧ ab_Runs ab_G1 mdX9_clear [.inr (.inr (.inl 3))] σ (fun v τ => K (pc + 3) L r τ)) := by
  rw [ex_invokevirtual, hM, vn6_38, ab_op_s]
  simp [ab_o1_s, ar1_3, ab_op_s, iv6_38_8, moX9_clear, ab_psh]
theorem dv1_6_38_12 {M : ab_M} {K : ab_K} {Rt : ab_V → ab_S → Prop} {pc n : Nat} {L : ab_L} {r : List ab_V} {σ : ab_S} (hM : ab_own M = 6) : ab_ex ab_G1 M K Rt pc n L (.inr (.inr (.inl 12)) :: r) σ (.invokevirtual 38) = (n = 3 ∧ ab_rok M mdX9_clear r ∧ ab_Runs ab_G1 mdX9_clear [.inr (.inr (.inl 12))] σ (fun v τ => K (pc + 3) L r τ)) := by
  rw [ex_invokevirtual, hM, vn6_38, ab_op_s]
  simp [ab_o1_s, ar1_12, ab_op_s, iv6_38_8, moX9_clear, ab_psh]
theorem dv1_6_46_1 {M : ab_M} {K : ab_K} {Rt : ab_V → ab_S → Prop} {pc n : Nat} {L : ab_L} {r : List ab_V} {σ : ab_S} {v0 : ab_V} (hM : ab_own M = 6) : ab_ex ab_G1 M K Rt pc n L (v0 :: .inr (.inr (.inl 1)) :: r) σ (.invokevirtual 46) = (n = 3 ∧ ab_rok M mdX6_takeStatement r ∧ ab_Runs ab_G1 mdX6_takeStatement [.inr (.inr (.inl 1)), v0] σ (fun v τ => K (pc + 3) L (v :: r) τ)) := by
  rw [ex_invokevirtual, hM, vn6_46, ab_op_s]
  simp [ab_o1_s, ar1_1, ab_op_s, iv6_46_6, moX6_takeStatement, ab_psh]
theorem dv1_6_53_21 {M : ab_M} {K : ab_K} {Rt : ab_V → ab_S → Prop} {pc n : Nat} {L : ab_L} {r : List ab_V} {σ : ab_S} (hM : ab_own M = 6) : ab_ex ab_G1 M K Rt pc n L (.inr (.inr (.inl 21)) :: r) σ (.invokevirtual 53) = (n = 3 ∧ ab_rok M mdX2_clearNext r ∧ ab_Runs ab_G1 mdX2_clearNext [.inr (.inr (.inl 21))] σ (fun v τ => K (pc + 3) L r τ)) := by
  rw [ex_invokevirtual, hM, vn6_53, ab_op_s]
  simp [ab_o1_s, ar1_21, ab_op_s, iv6_53_2, moX2_clearNext, ab_psh]
theorem dv1_6_60_1 {M : ab_M} {K : ab_K} {Rt : ab_V → ab_S → Prop} {pc n : Nat} {L : ab_L} {r : List ab_V} {σ : ab_S} {v0 : ab_V} (hM : ab_own M = 6) : ab_ex ab_G1 M K Rt pc n L (v0 :: .inr (.inr (.inl 1)) :: r) σ (.invokevirtual 60) = (n = 3 ∧ ab_rok M mdX6_isWord r ∧ ab_Runs ab_G1 mdX6_isWord [.inr (.inr (.inl 1)), v0] σ (fun v τ => K (pc + 3) L (v :: r) τ)) := by
  rw [ex_invokevirtual, hM, vn6_60, ab_op_s]
  simp [ab_o1_s, ar1_1, ab_op_s, iv6_60_6, moX6_isWord, ab_psh]
theorem dv1_6_64_1 {M : ab_M} {K : ab_K} {Rt : ab_V → ab_S → Prop} {pc n : Nat} {L : ab_L} {r : List ab_V} {σ : ab_S} {v0 v1 v2 : ab_V} (hM : ab_own M = 6) : ab_ex ab_G1 M K Rt pc n L (v2 :: v1 :: v0 :: .inr (.inr (.inl 1)) :: r) σ (.invokevirtual 64) = (n = 3 ∧ ab_rok M mdX6_takeRule r ∧ ab_Runs ab_G1 mdX6_takeRule [.inr (.inr (.inl 1)), v0, v1, v2] σ (fun v τ => K (pc + 3) L (v :: r) τ)) := by
  rw [ex_invokevirtual, hM, vn6_64, ab_op_s]
  simp [ab_o1_s, ar1_1, ab_op_s, iv6_64_6, moX6_takeRule, ab_psh]
theorem dv1_6_74_1 {M : ab_M} {K : ab_K} {Rt : ab_V → ab_S → Prop} {pc n : Nat} {L : ab_L} {r : List ab_V} {σ : ab_S} (hM : ab_own M = 6) : ab_ex ab_G1 M K Rt pc n L (.inr (.inr (.inl 1)) :: r) σ (.invokevirtual 74) = (n = 3 ∧ ab_rok M mdX6_advance r ∧ ab_Runs ab_G1 mdX6_advance [.inr (.inr (.inl 1))] σ (fun v τ => K (pc + 3) L r τ)) := by
  rw [ex_invokevirtual, hM, vn6_74, ab_op_s]
  simp [ab_o1_s, ar1_1, ab_op_s, iv6_74_6, moX6_advance, ab_psh]
theorem dv1_6_119_1 {M : ab_M} {K : ab_K} {Rt : ab_V → ab_S → Prop} {pc n : Nat} {L : ab_L} {r : List ab_V} {σ : ab_S} {v0 v1 : ab_V} (hM : ab_own M = 6) : ab_ex ab_G1 M K Rt pc n L (v1 :: v0 :: .inr (.inr (.inl 1)) :: r) σ (.invokevirtual 119) = (n = 3 ∧ ab_rok M mdX6_isName r ∧ ab_Runs ab_G1 mdX6_isName [.inr (.inr (.inl 1)), v0, v1] σ (fun v τ => K (pc + 3) L (v :: r) τ)) := by
  rw [ex_invokevirtual, hM, vn6_119, ab_op_s]
  simp [ab_o1_s, ar1_1, ab_op_s, iv6_119_6, moX6_isName, ab_psh]
theorem dv1_6_129_1 {M : ab_M} {K : ab_K} {Rt : ab_V → ab_S → Prop} {pc n : Nat} {L : ab_L} {r : List ab_V} {σ : ab_S} {v0 : ab_V} (hM : ab_own M = 6) : ab_ex ab_G1 M K Rt pc n L (v0 :: .inr (.inr (.inl 1)) :: r) σ (.invokevirtual 129) = (n = 3 ∧ ab_rok M mdX6_takeWord r ∧ ab_Runs ab_G1 mdX6_takeWord [.inr (.inr (.inl 1)), v0] σ (fun v τ => K (pc + 3) L (v :: r) τ)) := by
  rw [ex_invokevirtual, hM, vn6_129, ab_op_s]
  simp [ab_o1_s, ar1_1, ab_op_s, iv6_129_6, moX6_takeWord, ab_psh]
theorem dv1_6_132_1 {M : ab_M} {K : ab_K} {Rt : ab_V → ab_S → Prop} {pc n : Nat} {L : ab_L} {r : List ab_V} {σ : ab_S} {v0 : ab_V} (hM : ab_own M = 6) : ab_ex ab_G1 M K Rt pc n L (v0 :: .inr (.inr (.inl 1)) :: r) σ (.invokevirtual 132) = (n = 3 ∧ ab_rok M mdX6_takeCorner r ∧ ab_Runs ab_G1 mdX6_takeCorner [.inr (.inr (.inl 1)), v0] σ (fun v τ => K (pc + 3) L (v :: r) τ)) := by
  rw [ex_invokevirtual, hM, vn6_132, ab_op_s]
  simp [ab_o1_s, ar1_1, ab_op_s, iv6_132_6, moX6_takeCorner, ab_psh]
theorem dv1_6_135_1 {M : ab_M} {K : ab_K} {Rt : ab_V → ab_S → Prop} {pc n : Nat} {L : ab_L} {r : List ab_V} {σ : ab_S} {v0 : ab_V} (hM : ab_own M = 6) : ab_ex ab_G1 M K Rt pc n L (v0 :: .inr (.inr (.inl 1)) :: r) σ (.invokevirtual 135) = (n = 3 ∧ ab_rok M mdX6_takeStreet r ∧ ab_Runs ab_G1 mdX6_takeStreet [.inr (.inr (.inl 1)), v0] σ (fun v τ => K (pc + 3) L (v :: r) τ)) := by
  rw [ex_invokevirtual, hM, vn6_135, ab_op_s]
  simp [ab_o1_s, ar1_1, ab_op_s, iv6_135_6, moX6_takeStreet, ab_psh]
theorem dv1_6_138_1 {M : ab_M} {K : ab_K} {Rt : ab_V → ab_S → Prop} {pc n : Nat} {L : ab_L} {r : List ab_V} {σ : ab_S} {v0 v1 : ab_V} (hM : ab_own M = 6) : ab_ex ab_G1 M K Rt pc n L (v1 :: v0 :: .inr (.inr (.inl 1)) :: r) σ (.invokevirtual 138) = (n = 3 ∧ ab_rok M mdX6_takeNumber r ∧ ab_Runs ab_G1 mdX6_takeNumber [.inr (.inr (.inl 1)), v0, v1] σ (fun v τ => K (pc + 3) L (v :: r) τ)) := by
  rw [ex_invokevirtual, hM, vn6_138, ab_op_s]
  simp [ab_o1_s, ar1_1, ab_op_s, iv6_138_6, moX6_takeNumber, ab_psh]
theorem dv1_6_146_1 {M : ab_M} {K : ab_K} {Rt : ab_V → ab_S → Prop} {pc n : Nat} {L : ab_L} {r : List ab_V} {σ : ab_S} {v0 : ab_V} (hM : ab_own M = 6) : ab_ex ab_G1 M K Rt pc n L (v0 :: .inr (.inr (.inl 1)) :: r) σ (.invokevirtual 146) = (n = 3 ∧ ab_rok M mdX6_takeAsk r ∧ ab_Runs ab_G1 mdX6_takeAsk [.inr (.inr (.inl 1)), v0] σ (fun v τ => K (pc + 3) L (v :: r) τ)) := by
  rw [ex_invokevirtual, hM, vn6_146, ab_op_s]
  simp [ab_o1_s, ar1_1, ab_op_s, iv6_146_6, moX6_takeAsk, ab_psh]
theorem dv1_6_149_1 {M : ab_M} {K : ab_K} {Rt : ab_V → ab_S → Prop} {pc n : Nat} {L : ab_L} {r : List ab_V} {σ : ab_S} (hM : ab_own M = 6) : ab_ex ab_G1 M K Rt pc n L (.inr (.inr (.inl 1)) :: r) σ (.invokevirtual 149) = (n = 3 ∧ ab_rok M mdX6_takeEnd r ∧ ab_Runs ab_G1 mdX6_takeEnd [.inr (.inr (.inl 1))] σ (fun v τ => K (pc + 3) L (v :: r) τ)) := by
  rw [ex_invokevirtual, hM, vn6_149, ab_op_s]
  simp [ab_o1_s, ar1_1, ab_op_s, iv6_149_6, moX6_takeEnd, ab_psh]
theorem dv1_6_159_1 {M : ab_M} {K : ab_K} {Rt : ab_V → ab_S → Prop} {pc n : Nat} {L : ab_L} {r : List ab_V} {σ : ab_S} {v0 : ab_V} (hM : ab_own M = 6) : ab_ex ab_G1 M K Rt pc n L (v0 :: .inr (.inr (.inl 1)) :: r) σ (.invokevirtual 159) = (n = 3 ∧ ab_rok M mdX6_takeNewName r ∧ ab_Runs ab_G1 mdX6_takeNewName [.inr (.inr (.inl 1)), v0] σ (fun v τ => K (pc + 3) L (v :: r) τ)) := by
  rw [ex_invokevirtual, hM, vn6_159, ab_op_s]
  simp [ab_o1_s, ar1_1, ab_op_s, iv6_159_6, moX6_takeNewName, ab_psh]
theorem dv1_6_164_1 {M : ab_M} {K : ab_K} {Rt : ab_V → ab_S → Prop} {pc n : Nat} {L : ab_L} {r : List ab_V} {σ : ab_S} (hM : ab_own M = 6) : ab_ex ab_G1 M K Rt pc n L (.inr (.inr (.inl 1)) :: r) σ (.invokevirtual 164) = (n = 3 ∧ ab_rok M mdX6_breadNamed r ∧ ab_Runs ab_G1 mdX6_breadNamed [.inr (.inr (.inl 1))] σ (fun v τ => K (pc + 3) L (v :: r) τ)) := by
  rw [ex_invokevirtual, hM, vn6_164, ab_op_s]
  simp [ab_o1_s, ar1_1, ab_op_s, iv6_164_6, moX6_breadNamed, ab_psh]
theorem dv1_6_170_1 {M : ab_M} {K : ab_K} {Rt : ab_V → ab_S → Prop} {pc n : Nat} {L : ab_L} {r : List ab_V} {σ : ab_S} (hM : ab_own M = 6) : ab_ex ab_G1 M K Rt pc n L (.inr (.inr (.inl 1)) :: r) σ (.invokevirtual 170) = (n = 3 ∧ ab_rok M mdX6_isReserved r ∧ ab_Runs ab_G1 mdX6_isReserved [.inr (.inr (.inl 1))] σ (fun v τ => K (pc + 3) L (v :: r) τ)) := by
  rw [ex_invokevirtual, hM, vn6_170, ab_op_s]
  simp [ab_o1_s, ar1_1, ab_op_s, iv6_170_6, moX6_isReserved, ab_psh]
theorem dv1_6_173_1 {M : ab_M} {K : ab_K} {Rt : ab_V → ab_S → Prop} {pc n : Nat} {L : ab_L} {r : List ab_V} {σ : ab_S} {v0 : ab_V} (hM : ab_own M = 6) : ab_ex ab_G1 M K Rt pc n L (v0 :: .inr (.inr (.inl 1)) :: r) σ (.invokevirtual 173) = (n = 3 ∧ ab_rok M mdX6_cornerNamed r ∧ ab_Runs ab_G1 mdX6_cornerNamed [.inr (.inr (.inl 1)), v0] σ (fun v τ => K (pc + 3) L (v :: r) τ)) := by
  rw [ex_invokevirtual, hM, vn6_173, ab_op_s]
  simp [ab_o1_s, ar1_1, ab_op_s, iv6_173_6, moX6_cornerNamed, ab_psh]
theorem dv1_6_186_3 {M : ab_M} {K : ab_K} {Rt : ab_V → ab_S → Prop} {pc n : Nat} {L : ab_L} {r : List ab_V} {σ : ab_S} {v0 v1 : ab_V} (hM : ab_own M = 6) : ab_ex ab_G1 M K Rt pc n L (v1 :: v0 :: .inr (.inr (.inl 3)) :: r) σ (.invokevirtual 186) = (n = 3 ∧ ab_rok M mdX9_hasStreet r ∧ ab_Runs ab_G1 mdX9_hasStreet [.inr (.inr (.inl 3)), v0, v1] σ (fun v τ => K (pc + 3) L (v :: r) τ)) := by
  rw [ex_invokevirtual, hM, vn6_186, ab_op_s]
  simp [ab_o1_s, ar1_3, ab_op_s, iv6_186_8, moX9_hasStreet, ab_psh]
theorem dv1_6_186_12 {M : ab_M} {K : ab_K} {Rt : ab_V → ab_S → Prop} {pc n : Nat} {L : ab_L} {r : List ab_V} {σ : ab_S} {v0 v1 : ab_V} (hM : ab_own M = 6) : ab_ex ab_G1 M K Rt pc n L (v1 :: v0 :: .inr (.inr (.inl 12)) :: r) σ (.invokevirtual 186) = (n = 3 ∧ ab_rok M mdX9_hasStreet r ∧ ab_Runs ab_G1 mdX9_hasStreet [.inr (.inr (.inl 12)), v0, v1] σ (fun v τ => K (pc + 3) L (v :: r) τ)) := by
  rw [ex_invokevirtual, hM, vn6_186, ab_op_s]
  simp [ab_o1_s, ar1_12, ab_op_s, iv6_186_8, moX9_hasStreet, ab_psh]
theorem dv1_6_208_1 {M : ab_M} {K : ab_K} {Rt : ab_V → ab_S → Prop} {pc n : Nat} {L : ab_L} {r : List ab_V} {σ : ab_S} {v0 v1 v2 v3 : ab_V} (hM : ab_own M = 6) : ab_ex ab_G1 M K Rt pc n L (v3 :: v2 :: v1 :: v0 :: .inr (.inr (.inl 1)) :: r) σ (.invokevirtual 208) = (n = 3 ∧ ab_rok M mdX6_takeBetween r ∧ ab_Runs ab_G1 mdX6_takeBetween [.inr (.inr (.inl 1)), v0, v1, v2, v3] σ (fun v τ => K (pc + 3) L (v :: r) τ)) := by
  rw [ex_invokevirtual, hM, vn6_208, ab_op_s]
  simp [ab_o1_s, ar1_1, ab_op_s, iv6_208_6, moX6_takeBetween, ab_psh]
theorem dv1_6_212_21 {M : ab_M} {K : ab_K} {Rt : ab_V → ab_S → Prop} {pc n : Nat} {L : ab_L} {r : List ab_V} {σ : ab_S} {v0 v1 v2 : ab_V} (hM : ab_own M = 6) : ab_ex ab_G1 M K Rt pc n L (v2 :: v1 :: v0 :: .inr (.inr (.inl 21)) :: r) σ (.invokevirtual 212) = (n = 3 ∧ ab_rok M mdX2_addChange r ∧ ab_Runs ab_G1 mdX2_addChange [.inr (.inr (.inl 21)), v0, v1, v2] σ (fun v τ => K (pc + 3) L r τ)) := by
  rw [ex_invokevirtual, hM, vn6_212, ab_op_s]
  simp [ab_o1_s, ar1_21, ab_op_s, iv6_212_2, moX2_addChange, ab_psh]
theorem dv1_7_51_28 {M : ab_M} {K : ab_K} {Rt : ab_V → ab_S → Prop} {pc n : Nat} {L : ab_L} {r : List ab_V} {σ : ab_S} {v0 v1 : ab_V} (hM : ab_own M = 7) : ab_ex ab_G1 M K Rt pc n L (v1 :: v0 :: .inr (.inr (.inl 28)) :: r) σ (.invokevirtual 51) = (n = 3 ∧ ab_rok M mdX7_change r ∧ ab_Runs ab_G1 mdX7_change [.inr (.inr (.inl 28)), v0, v1] σ (fun v τ => K (pc + 3) L r τ)) := by
  rw [ex_invokevirtual, hM, vn7_51, ab_op_s]
  simp [ab_o1_s, ar1_28, ab_op_s, iv7_51_7, moX7_change, ab_psh]
theorem dv1_7_55_28 {M : ab_M} {K : ab_K} {Rt : ab_V → ab_S → Prop} {pc n : Nat} {L : ab_L} {r : List ab_V} {σ : ab_S} (hM : ab_own M = 7) : ab_ex ab_G1 M K Rt pc n L (.inr (.inr (.inl 28)) :: r) σ (.invokevirtual 55) = (n = 3 ∧ ab_rok M mdX7_joinNeighbours r ∧ ab_Runs ab_G1 mdX7_joinNeighbours [.inr (.inr (.inl 28))] σ (fun v τ => K (pc + 3) L r τ)) := by
  rw [ex_invokevirtual, hM, vn7_55, ab_op_s]
  simp [ab_o1_s, ar1_28, ab_op_s, iv7_55_7, moX7_joinNeighbours, ab_psh]
theorem dv1_7_58_28 {M : ab_M} {K : ab_K} {Rt : ab_V → ab_S → Prop} {pc n : Nat} {L : ab_L} {r : List ab_V} {σ : ab_S} (hM : ab_own M = 7) : ab_ex ab_G1 M K Rt pc n L (.inr (.inr (.inl 28)) :: r) σ (.invokevirtual 58) = (n = 3 ∧ ab_rok M mdX7_joinAll r ∧ ab_Runs ab_G1 mdX7_joinAll [.inr (.inr (.inl 28))] σ (fun v τ => K (pc + 3) L r τ)) := by
  rw [ex_invokevirtual, hM, vn7_58, ab_op_s]
  simp [ab_o1_s, ar1_28, ab_op_s, iv7_58_7, moX7_joinAll, ab_psh]
theorem dv1_7_61_21 {M : ab_M} {K : ab_K} {Rt : ab_V → ab_S → Prop} {pc n : Nat} {L : ab_L} {r : List ab_V} {σ : ab_S} {v0 : ab_V} (hM : ab_own M = 7) : ab_ex ab_G1 M K Rt pc n L (v0 :: .inr (.inr (.inl 21)) :: r) σ (.invokevirtual 61) = (n = 3 ∧ ab_rok M mdX2_firstChange r ∧ ab_Runs ab_G1 mdX2_firstChange [.inr (.inr (.inl 21)), v0] σ (fun v τ => K (pc + 3) L (v :: r) τ)) := by
  rw [ex_invokevirtual, hM, vn7_61, ab_op_s]
  simp [ab_o1_s, ar1_21, ab_op_s, iv7_61_2, moX2_firstChange, ab_psh]
theorem dv1_7_77_28 {M : ab_M} {K : ab_K} {Rt : ab_V → ab_S → Prop} {pc n : Nat} {L : ab_L} {r : List ab_V} {σ : ab_S} {v0 v1 : ab_V} (hM : ab_own M = 7) : ab_ex ab_G1 M K Rt pc n L (v1 :: v0 :: .inr (.inr (.inl 28)) :: r) σ (.invokevirtual 77) = (n = 3 ∧ ab_rok M mdX7_shutBetween r ∧ ab_Runs ab_G1 mdX7_shutBetween [.inr (.inr (.inl 28)), v0, v1] σ (fun v τ => K (pc + 3) L r τ)) := by
  rw [ex_invokevirtual, hM, vn7_77, ab_op_s]
  simp [ab_o1_s, ar1_28, ab_op_s, iv7_77_7, moX7_shutBetween, ab_psh]
theorem dv1_7_86_3 {M : ab_M} {K : ab_K} {Rt : ab_V → ab_S → Prop} {pc n : Nat} {L : ab_L} {r : List ab_V} {σ : ab_S} {v0 v1 v2 : ab_V} (hM : ab_own M = 7) : ab_ex ab_G1 M K Rt pc n L (v2 :: v1 :: v0 :: .inr (.inr (.inl 3)) :: r) σ (.invokevirtual 86) = (n = 3 ∧ ab_rok M mdX9_joins r ∧ ab_Runs ab_G1 mdX9_joins [.inr (.inr (.inl 3)), v0, v1, v2] σ (fun v τ => K (pc + 3) L (v :: r) τ)) := by
  rw [ex_invokevirtual, hM, vn7_86, ab_op_s]
  simp [ab_o1_s, ar1_3, ab_op_s, iv7_86_8, moX9_joins, ab_psh]
theorem dv1_7_86_12 {M : ab_M} {K : ab_K} {Rt : ab_V → ab_S → Prop} {pc n : Nat} {L : ab_L} {r : List ab_V} {σ : ab_S} {v0 v1 v2 : ab_V} (hM : ab_own M = 7) : ab_ex ab_G1 M K Rt pc n L (v2 :: v1 :: v0 :: .inr (.inr (.inl 12)) :: r) σ (.invokevirtual 86) = (n = 3 ∧ ab_rok M mdX9_joins r ∧ ab_Runs ab_G1 mdX9_joins [.inr (.inr (.inl 12)), v0, v1, v2] σ (fun v τ => K (pc + 3) L (v :: r) τ)) := by
  rw [ex_invokevirtual, hM, vn7_86, ab_op_s]
  simp [ab_o1_s, ar1_12, ab_op_s, iv7_86_8, moX9_joins, ab_psh]
theorem dv1_7_107_28 {M : ab_M} {K : ab_K} {Rt : ab_V → ab_S → Prop} {pc n : Nat} {L : ab_L} {r : List ab_V} {σ : ab_S} {v0 v1 v2 : ab_V} (hM : ab_own M = 7) : ab_ex ab_G1 M K Rt pc n L (v2 :: v1 :: v0 :: .inr (.inr (.inl 28)) :: r) σ (.invokevirtual 107) = (n = 3 ∧ ab_rok M mdX7_join r ∧ ab_Runs ab_G1 mdX7_join [.inr (.inr (.inl 28)), v0, v1, v2] σ (fun v τ => K (pc + 3) L r τ)) := by
  rw [ex_invokevirtual, hM, vn7_107, ab_op_s]
  simp [ab_o1_s, ar1_28, ab_op_s, iv7_107_7, moX7_join, ab_psh]
theorem dv1_7_129_28 {M : ab_M} {K : ab_K} {Rt : ab_V → ab_S → Prop} {pc n : Nat} {L : ab_L} {r : List ab_V} {σ : ab_S} {v0 : ab_V} (hM : ab_own M = 7) : ab_ex ab_G1 M K Rt pc n L (v0 :: .inr (.inr (.inl 28)) :: r) σ (.invokevirtual 129) = (n = 3 ∧ ab_rok M mdX7_isShut r ∧ ab_Runs ab_G1 mdX7_isShut [.inr (.inr (.inl 28)), v0] σ (fun v τ => K (pc + 3) L (v :: r) τ)) := by
  rw [ex_invokevirtual, hM, vn7_129, ab_op_s]
  simp [ab_o1_s, ar1_28, ab_op_s, iv7_129_7, moX7_isShut, ab_psh]
theorem dv1_7_133_28 {M : ab_M} {K : ab_K} {Rt : ab_V → ab_S → Prop} {pc n : Nat} {L : ab_L} {r : List ab_V} {σ : ab_S} {v0 v1 : ab_V} (hM : ab_own M = 7) : ab_ex ab_G1 M K Rt pc n L (v1 :: v0 :: .inr (.inr (.inl 28)) :: r) σ (.invokevirtual 133) = (n = 3 ∧ ab_rok M mdX7_toCorner r ∧ ab_Runs ab_G1 mdX7_toCorner [.inr (.inr (.inl 28)), v0, v1] σ (fun v τ => K (pc + 3) L (v :: r) τ)) := by
  rw [ex_invokevirtual, hM, vn7_133, ab_op_s]
  simp [ab_o1_s, ar1_28, ab_op_s, iv7_133_7, moX7_toCorner, ab_psh]
theorem dv1_8_42_28 {M : ab_M} {K : ab_K} {Rt : ab_V → ab_S → Prop} {pc n : Nat} {L : ab_L} {r : List ab_V} {σ : ab_S} {v0 v1 v2 : ab_V} (hM : ab_own M = 8) : ab_ex ab_G1 M K Rt pc n L (v2 :: v1 :: v0 :: .inr (.inr (.inl 28)) :: r) σ (.invokevirtual 42) = (n = 3 ∧ ab_rok M mdX7_reach r ∧ ab_Runs ab_G1 mdX7_reach [.inr (.inr (.inl 28)), v0, v1, v2] σ (fun v τ => K (pc + 3) L r τ)) := by
  rw [ex_invokevirtual, hM, vn8_42, ab_op_s]
  simp [ab_o1_s, ar1_28, ab_op_s, iv8_42_7, moX7_reach, ab_psh]
theorem dv1_8_47_65 {M : ab_M} {K : ab_K} {Rt : ab_V → ab_S → Prop} {pc n : Nat} {L : ab_L} {r : List ab_V} {σ : ab_S} (hM : ab_own M = 8) : ab_ex ab_G1 M K Rt pc n L (.inr (.inr (.inl 65)) :: r) σ (.invokevirtual 47) = (n = 3 ∧ ab_rok M mdX3_open r ∧ ab_Runs ab_G1 mdX3_open [.inr (.inr (.inl 65))] σ (fun v τ => K (pc + 3) L r τ)) := by
  rw [ex_invokevirtual, hM, vn8_47, ab_op_s]
  simp [ab_o1_s, ar1_65, ab_op_s, iv8_47_3, moX3_open, ab_psh]
theorem dv1_8_47_76 {M : ab_M} {K : ab_K} {Rt : ab_V → ab_S → Prop} {pc n : Nat} {L : ab_L} {r : List ab_V} {σ : ab_S} (hM : ab_own M = 8) : ab_ex ab_G1 M K Rt pc n L (.inr (.inr (.inl 76)) :: r) σ (.invokevirtual 47) = (n = 3 ∧ ab_rok M mdX10_open r ∧ ab_Runs ab_G1 mdX10_open [.inr (.inr (.inl 76))] σ (fun v τ => K (pc + 3) L r τ)) := by
  rw [ex_invokevirtual, hM, vn8_47, ab_op_s]
  simp [ab_o1_s, ar1_76, ab_op_s, iv8_47_9, moX10_open, ab_psh]
theorem dv1_8_50_65 {M : ab_M} {K : ab_K} {Rt : ab_V → ab_S → Prop} {pc n : Nat} {L : ab_L} {r : List ab_V} {σ : ab_S} (hM : ab_own M = 8) : ab_ex ab_G1 M K Rt pc n L (.inr (.inr (.inl 65)) :: r) σ (.invokevirtual 50) = (n = 3 ∧ ab_rok M mdX8_markStreets r ∧ ab_Runs ab_G1 mdX8_markStreets [.inr (.inr (.inl 65))] σ (fun v τ => K (pc + 3) L r τ)) := by
  rw [ex_invokevirtual, hM, vn8_50, ab_op_s]
  simp [ab_o1_s, ar1_65, ab_op_s, iv8_50_3, moX8_markStreets, ab_psh]
theorem dv1_8_50_76 {M : ab_M} {K : ab_K} {Rt : ab_V → ab_S → Prop} {pc n : Nat} {L : ab_L} {r : List ab_V} {σ : ab_S} (hM : ab_own M = 8) : ab_ex ab_G1 M K Rt pc n L (.inr (.inr (.inl 76)) :: r) σ (.invokevirtual 50) = (n = 3 ∧ ab_rok M mdX8_markStreets r ∧ ab_Runs ab_G1 mdX8_markStreets [.inr (.inr (.inl 76))] σ (fun v τ => K (pc + 3) L r τ)) := by
  rw [ex_invokevirtual, hM, vn8_50, ab_op_s]
  simp [ab_o1_s, ar1_76, ab_op_s, iv8_50_9, moX8_markStreets, ab_psh]
theorem dv1_8_58_65 {M : ab_M} {K : ab_K} {Rt : ab_V → ab_S → Prop} {pc n : Nat} {L : ab_L} {r : List ab_V} {σ : ab_S} {v0 : ab_V} (hM : ab_own M = 8) : ab_ex ab_G1 M K Rt pc n L (v0 :: .inr (.inr (.inl 65)) :: r) σ (.invokevirtual 58) = (n = 3 ∧ ab_rok M mdX8_cheapest r ∧ ab_Runs ab_G1 mdX8_cheapest [.inr (.inr (.inl 65)), v0] σ (fun v τ => K (pc + 3) L (v :: r) τ)) := by
  rw [ex_invokevirtual, hM, vn8_58, ab_op_s]
  simp [ab_o1_s, ar1_65, ab_op_s, iv8_58_3, moX8_cheapest, ab_psh]
theorem dv1_8_58_76 {M : ab_M} {K : ab_K} {Rt : ab_V → ab_S → Prop} {pc n : Nat} {L : ab_L} {r : List ab_V} {σ : ab_S} {v0 : ab_V} (hM : ab_own M = 8) : ab_ex ab_G1 M K Rt pc n L (v0 :: .inr (.inr (.inl 76)) :: r) σ (.invokevirtual 58) = (n = 3 ∧ ab_rok M mdX8_cheapest r ∧ ab_Runs ab_G1 mdX8_cheapest [.inr (.inr (.inl 76)), v0] σ (fun v τ => K (pc + 3) L (v :: r) τ)) := by
  rw [ex_invokevirtual, hM, vn8_58, ab_op_s]
  simp [ab_o1_s, ar1_76, ab_op_s, iv8_58_9, moX8_cheapest, ab_psh]
theorem dv1_8_62_65 {M : ab_M} {K : ab_K} {Rt : ab_V → ab_S → Prop} {pc n : Nat} {L : ab_L} {r : List ab_V} {σ : ab_S} {v0 : ab_V} (hM : ab_own M = 8) : ab_ex ab_G1 M K Rt pc n L (v0 :: .inr (.inr (.inl 65)) :: r) σ (.invokevirtual 62) = (n = 3 ∧ ab_rok M mdX3_meetCorner r ∧ ab_Runs ab_G1 mdX3_meetCorner [.inr (.inr (.inl 65)), v0] σ (fun v τ => K (pc + 3) L r τ)) := by
  rw [ex_invokevirtual, hM, vn8_62, ab_op_s]
  simp [ab_o1_s, ar1_65, ab_op_s, iv8_62_3, moX3_meetCorner, ab_psh]
theorem dv1_8_62_76 {M : ab_M} {K : ab_K} {Rt : ab_V → ab_S → Prop} {pc n : Nat} {L : ab_L} {r : List ab_V} {σ : ab_S} {v0 : ab_V} (hM : ab_own M = 8) : ab_ex ab_G1 M K Rt pc n L (v0 :: .inr (.inr (.inl 76)) :: r) σ (.invokevirtual 62) = (n = 3 ∧ ab_rok M mdX10_meetCorner r ∧ ab_Runs ab_G1 mdX10_meetCorner [.inr (.inr (.inl 76)), v0] σ (fun v τ => K (pc + 3) L r τ)) := by
  rw [ex_invokevirtual, hM, vn8_62, ab_op_s]
  simp [ab_o1_s, ar1_76, ab_op_s, iv8_62_9, moX10_meetCorner, ab_psh]
theorem dv1_8_76_65 {M : ab_M} {K : ab_K} {Rt : ab_V → ab_S → Prop} {pc n : Nat} {L : ab_L} {r : List ab_V} {σ : ab_S} {v0 : ab_V} (hM : ab_own M = 8) : ab_ex ab_G1 M K Rt pc n L (v0 :: .inr (.inr (.inl 65)) :: r) σ (.invokevirtual 76) = (n = 3 ∧ ab_rok M mdX8_meetStreet r ∧ ab_Runs ab_G1 mdX8_meetStreet [.inr (.inr (.inl 65)), v0] σ (fun v τ => K (pc + 3) L r τ)) := by
  rw [ex_invokevirtual, hM, vn8_76, ab_op_s]
  simp [ab_o1_s, ar1_65, ab_op_s, iv8_76_3, moX8_meetStreet, ab_psh]
theorem dv1_8_76_76 {M : ab_M} {K : ab_K} {Rt : ab_V → ab_S → Prop} {pc n : Nat} {L : ab_L} {r : List ab_V} {σ : ab_S} {v0 : ab_V} (hM : ab_own M = 8) : ab_ex ab_G1 M K Rt pc n L (v0 :: .inr (.inr (.inl 76)) :: r) σ (.invokevirtual 76) = (n = 3 ∧ ab_rok M mdX8_meetStreet r ∧ ab_Runs ab_G1 mdX8_meetStreet [.inr (.inr (.inl 76)), v0] σ (fun v τ => K (pc + 3) L r τ)) := by
  rw [ex_invokevirtual, hM, vn8_76, ab_op_s]
  simp [ab_o1_s, ar1_76, ab_op_s, iv8_76_9, moX8_meetStreet, ab_psh]
theorem dv1_8_79_65 {M : ab_M} {K : ab_K} {Rt : ab_V → ab_S → Prop} {pc n : Nat} {L : ab_L} {r : List ab_V} {σ : ab_S} (hM : ab_own M = 8) : ab_ex ab_G1 M K Rt pc n L (.inr (.inr (.inl 65)) :: r) σ (.invokevirtual 79) = (n = 3 ∧ ab_rok M mdX3_close r ∧ ab_Runs ab_G1 mdX3_close [.inr (.inr (.inl 65))] σ (fun v τ => K (pc + 3) L r τ)) := by
  rw [ex_invokevirtual, hM, vn8_79, ab_op_s]
  simp [ab_o1_s, ar1_65, ab_op_s, iv8_79_3, moX3_close, ab_psh]
theorem dv1_8_79_76 {M : ab_M} {K : ab_K} {Rt : ab_V → ab_S → Prop} {pc n : Nat} {L : ab_L} {r : List ab_V} {σ : ab_S} (hM : ab_own M = 8) : ab_ex ab_G1 M K Rt pc n L (.inr (.inr (.inl 76)) :: r) σ (.invokevirtual 79) = (n = 3 ∧ ab_rok M mdX10_close r ∧ ab_Runs ab_G1 mdX10_close [.inr (.inr (.inl 76))] σ (fun v τ => K (pc + 3) L r τ)) := by
  rw [ex_invokevirtual, hM, vn8_79, ab_op_s]
  simp [ab_o1_s, ar1_76, ab_op_s, iv8_79_9, moX10_close, ab_psh]
theorem dv1_8_116_65 {M : ab_M} {K : ab_K} {Rt : ab_V → ab_S → Prop} {pc n : Nat} {L : ab_L} {r : List ab_V} {σ : ab_S} {v0 v1 : ab_V} (hM : ab_own M = 8) : ab_ex ab_G1 M K Rt pc n L (v1 :: v0 :: .inr (.inr (.inl 65)) :: r) σ (.invokevirtual 116) = (n = 3 ∧ ab_rok M mdX8_cheapestOn r ∧ ab_Runs ab_G1 mdX8_cheapestOn [.inr (.inr (.inl 65)), v0, v1] σ (fun v τ => K (pc + 3) L (v :: r) τ)) := by
  rw [ex_invokevirtual, hM, vn8_116, ab_op_s]
  simp [ab_o1_s, ar1_65, ab_op_s, iv8_116_3, moX8_cheapestOn, ab_psh]
theorem dv1_8_116_76 {M : ab_M} {K : ab_K} {Rt : ab_V → ab_S → Prop} {pc n : Nat} {L : ab_L} {r : List ab_V} {σ : ab_S} {v0 v1 : ab_V} (hM : ab_own M = 8) : ab_ex ab_G1 M K Rt pc n L (v1 :: v0 :: .inr (.inr (.inl 76)) :: r) σ (.invokevirtual 116) = (n = 3 ∧ ab_rok M mdX8_cheapestOn r ∧ ab_Runs ab_G1 mdX8_cheapestOn [.inr (.inr (.inl 76)), v0, v1] σ (fun v τ => K (pc + 3) L (v :: r) τ)) := by
  rw [ex_invokevirtual, hM, vn8_116, ab_op_s]
  simp [ab_o1_s, ar1_76, ab_op_s, iv8_116_9, moX8_cheapestOn, ab_psh]
theorem dv1_8_119_65 {M : ab_M} {K : ab_K} {Rt : ab_V → ab_S → Prop} {pc n : Nat} {L : ab_L} {r : List ab_V} {σ : ab_S} {v0 v1 v2 v3 : ab_V} (hM : ab_own M = 8) : ab_ex ab_G1 M K Rt pc n L (v3 :: v2 :: v1 :: v0 :: .inr (.inr (.inl 65)) :: r) σ (.invokevirtual 119) = (n = 3 ∧ ab_rok M mdX3_meetStretch r ∧ ab_Runs ab_G1 mdX3_meetStretch [.inr (.inr (.inl 65)), v0, v1, v2, v3] σ (fun v τ => K (pc + 3) L r τ)) := by
  rw [ex_invokevirtual, hM, vn8_119, ab_op_s]
  simp [ab_o1_s, ar1_65, ab_op_s, iv8_119_3, moX3_meetStretch, ab_psh]
theorem dv1_8_119_76 {M : ab_M} {K : ab_K} {Rt : ab_V → ab_S → Prop} {pc n : Nat} {L : ab_L} {r : List ab_V} {σ : ab_S} {v0 v1 v2 v3 : ab_V} (hM : ab_own M = 8) : ab_ex ab_G1 M K Rt pc n L (v3 :: v2 :: v1 :: v0 :: .inr (.inr (.inl 76)) :: r) σ (.invokevirtual 119) = (n = 3 ∧ ab_rok M mdX10_meetStretch r ∧ ab_Runs ab_G1 mdX10_meetStretch [.inr (.inr (.inl 76)), v0, v1, v2, v3] σ (fun v τ => K (pc + 3) L r τ)) := by
  rw [ex_invokevirtual, hM, vn8_119, ab_op_s]
  simp [ab_o1_s, ar1_76, ab_op_s, iv8_119_9, moX10_meetStretch, ab_psh]
theorem dv1_9_70_3 {M : ab_M} {K : ab_K} {Rt : ab_V → ab_S → Prop} {pc n : Nat} {L : ab_L} {r : List ab_V} {σ : ab_S} {v0 : ab_V} (hM : ab_own M = 9) : ab_ex ab_G1 M K Rt pc n L (v0 :: .inr (.inr (.inl 3)) :: r) σ (.invokevirtual 70) = (n = 3 ∧ ab_rok M mdX9_isCorner r ∧ ab_Runs ab_G1 mdX9_isCorner [.inr (.inr (.inl 3)), v0] σ (fun v τ => K (pc + 3) L (v :: r) τ)) := by
  rw [ex_invokevirtual, hM, vn9_70, ab_op_s]
  simp [ab_o1_s, ar1_3, ab_op_s, iv9_70_8, moX9_isCorner, ab_psh]
theorem dv1_9_70_12 {M : ab_M} {K : ab_K} {Rt : ab_V → ab_S → Prop} {pc n : Nat} {L : ab_L} {r : List ab_V} {σ : ab_S} {v0 : ab_V} (hM : ab_own M = 9) : ab_ex ab_G1 M K Rt pc n L (v0 :: .inr (.inr (.inl 12)) :: r) σ (.invokevirtual 70) = (n = 3 ∧ ab_rok M mdX9_isCorner r ∧ ab_Runs ab_G1 mdX9_isCorner [.inr (.inr (.inl 12)), v0] σ (fun v τ => K (pc + 3) L (v :: r) τ)) := by
  rw [ex_invokevirtual, hM, vn9_70, ab_op_s]
  simp [ab_o1_s, ar1_12, ab_op_s, iv9_70_8, moX9_isCorner, ab_psh]
theorem dv1_9_81_3 {M : ab_M} {K : ab_K} {Rt : ab_V → ab_S → Prop} {pc n : Nat} {L : ab_L} {r : List ab_V} {σ : ab_S} {v0 v1 v2 : ab_V} (hM : ab_own M = 9) : ab_ex ab_G1 M K Rt pc n L (v2 :: v1 :: v0 :: .inr (.inr (.inl 3)) :: r) σ (.invokevirtual 81) = (n = 3 ∧ ab_rok M mdX9_joins r ∧ ab_Runs ab_G1 mdX9_joins [.inr (.inr (.inl 3)), v0, v1, v2] σ (fun v τ => K (pc + 3) L (v :: r) τ)) := by
  rw [ex_invokevirtual, hM, vn9_81, ab_op_s]
  simp [ab_o1_s, ar1_3, ab_op_s, iv9_81_8, moX9_joins, ab_psh]
theorem dv1_9_81_12 {M : ab_M} {K : ab_K} {Rt : ab_V → ab_S → Prop} {pc n : Nat} {L : ab_L} {r : List ab_V} {σ : ab_S} {v0 v1 v2 : ab_V} (hM : ab_own M = 9) : ab_ex ab_G1 M K Rt pc n L (v2 :: v1 :: v0 :: .inr (.inr (.inl 12)) :: r) σ (.invokevirtual 81) = (n = 3 ∧ ab_rok M mdX9_joins r ∧ ab_Runs ab_G1 mdX9_joins [.inr (.inr (.inl 12)), v0, v1, v2] σ (fun v τ => K (pc + 3) L (v :: r) τ)) := by
  rw [ex_invokevirtual, hM, vn9_81, ab_op_s]
  simp [ab_o1_s, ar1_12, ab_op_s, iv9_81_8, moX9_joins, ab_psh]
theorem dv1_10_56_76 {M : ab_M} {K : ab_K} {Rt : ab_V → ab_S → Prop} {pc n : Nat} {L : ab_L} {r : List ab_V} {σ : ab_S} {v0 v1 : ab_V} (hM : ab_own M = 10) : ab_ex ab_G1 M K Rt pc n L (v1 :: v0 :: .inr (.inr (.inl 76)) :: r) σ (.invokevirtual 56) = (n = 3 ∧ ab_rok M mdX8_place r ∧ ab_Runs ab_G1 mdX8_place [.inr (.inr (.inl 76)), v0, v1] σ (fun v τ => K (pc + 3) L r τ)) := by
  rw [ex_invokevirtual, hM, vn10_56, ab_op_s]
  simp [ab_o1_s, ar1_76, ab_op_s, iv10_56_9, moX8_place, ab_psh]
theorem dv1_10_60_76 {M : ab_M} {K : ab_K} {Rt : ab_V → ab_S → Prop} {pc n : Nat} {L : ab_L} {r : List ab_V} {σ : ab_S} (hM : ab_own M = 10) : ab_ex ab_G1 M K Rt pc n L (.inr (.inr (.inl 76)) :: r) σ (.invokevirtual 60) = (n = 3 ∧ ab_rok M mdX8_goRound r ∧ ab_Runs ab_G1 mdX8_goRound [.inr (.inr (.inl 76))] σ (fun v τ => K (pc + 3) L r τ)) := by
  rw [ex_invokevirtual, hM, vn10_60, ab_op_s]
  simp [ab_o1_s, ar1_76, ab_op_s, iv10_60_9, moX8_goRound, ab_psh]
theorem dv1_10_73_76 {M : ab_M} {K : ab_K} {Rt : ab_V → ab_S → Prop} {pc n : Nat} {L : ab_L} {r : List ab_V} {σ : ab_S} {v0 v1 : ab_V} (hM : ab_own M = 10) : ab_ex ab_G1 M K Rt pc n L (v1 :: v0 :: .inr (.inr (.inl 76)) :: r) σ (.invokevirtual 73) = (n = 3 ∧ ab_rok M mdX10_noteOwn r ∧ ab_Runs ab_G1 mdX10_noteOwn [.inr (.inr (.inl 76)), v0, v1] σ (fun v τ => K (pc + 3) L r τ)) := by
  rw [ex_invokevirtual, hM, vn10_73, ab_op_s]
  simp [ab_o1_s, ar1_76, ab_op_s, iv10_73_9, moX10_noteOwn, ab_psh]
theorem dv1_10_76_76 {M : ab_M} {K : ab_K} {Rt : ab_V → ab_S → Prop} {pc n : Nat} {L : ab_L} {r : List ab_V} {σ : ab_S} {v0 v1 : ab_V} (hM : ab_own M = 10) : ab_ex ab_G1 M K Rt pc n L (v1 :: v0 :: .inr (.inr (.inl 76)) :: r) σ (.invokevirtual 76) = (n = 3 ∧ ab_rok M mdX10_toSpots r ∧ ab_Runs ab_G1 mdX10_toSpots [.inr (.inr (.inl 76)), v0, v1] σ (fun v τ => K (pc + 3) L (v :: r) τ)) := by
  rw [ex_invokevirtual, hM, vn10_76, ab_op_s]
  simp [ab_o1_s, ar1_76, ab_op_s, iv10_76_9, moX10_toSpots, ab_psh]
theorem dv1_11_107_28 {M : ab_M} {K : ab_K} {Rt : ab_V → ab_S → Prop} {pc n : Nat} {L : ab_L} {r : List ab_V} {σ : ab_S} {v0 v1 : ab_V} (hM : ab_own M = 11) : ab_ex ab_G1 M K Rt pc n L (v1 :: v0 :: .inr (.inr (.inl 28)) :: r) σ (.invokevirtual 107) = (n = 3 ∧ ab_rok M mdX7_lay r ∧ ab_Runs ab_G1 mdX7_lay [.inr (.inr (.inl 28)), v0, v1] σ (fun v τ => K (pc + 3) L r τ)) := by
  rw [ex_invokevirtual, hM, vn11_107, ab_op_s]
  simp [ab_o1_s, ar1_28, ab_op_s, iv11_107_7, moX7_lay, ab_psh]
theorem dv1_11_114_1 {M : ab_M} {K : ab_K} {Rt : ab_V → ab_S → Prop} {pc n : Nat} {L : ab_L} {r : List ab_V} {σ : ab_S} {v0 : ab_V} (hM : ab_own M = 11) : ab_ex ab_G1 M K Rt pc n L (v0 :: .inr (.inr (.inl 1)) :: r) σ (.invokevirtual 114) = (n = 3 ∧ ab_rok M mdX6_append r ∧ ab_Runs ab_G1 mdX6_append [.inr (.inr (.inl 1)), v0] σ (fun v τ => K (pc + 3) L r τ)) := by
  rw [ex_invokevirtual, hM, vn11_114, ab_op_s]
  simp [ab_o1_s, ar1_1, ab_op_s, iv11_114_6, moX6_append, ab_psh]
theorem dv1_11_118_1 {M : ab_M} {K : ab_K} {Rt : ab_V → ab_S → Prop} {pc n : Nat} {L : ab_L} {r : List ab_V} {σ : ab_S} {v0 v1 : ab_V} (hM : ab_own M = 11) : ab_ex ab_G1 M K Rt pc n L (v1 :: v0 :: .inr (.inr (.inl 1)) :: r) σ (.invokevirtual 118) = (n = 3 ∧ ab_rok M mdX6_readTown r ∧ ab_Runs ab_G1 mdX6_readTown [.inr (.inr (.inl 1)), v0, v1] σ (fun v τ => K (pc + 3) L (v :: r) τ)) := by
  rw [ex_invokevirtual, hM, vn11_118, ab_op_s]
  simp [ab_o1_s, ar1_1, ab_op_s, iv11_118_6, moX6_readTown, ab_psh]
theorem dv1_11_125_3 {M : ab_M} {K : ab_K} {Rt : ab_V → ab_S → Prop} {pc n : Nat} {L : ab_L} {r : List ab_V} {σ : ab_S} {v0 : ab_V} (hM : ab_own M = 11) : ab_ex ab_G1 M K Rt pc n L (v0 :: .inr (.inr (.inl 3)) :: r) σ (.invokevirtual 125) = (n = 3 ∧ ab_rok M mdX9_copyFrom r ∧ ab_Runs ab_G1 mdX9_copyFrom [.inr (.inr (.inl 3)), v0] σ (fun v τ => K (pc + 3) L r τ)) := by
  rw [ex_invokevirtual, hM, vn11_125, ab_op_s]
  simp [ab_o1_s, ar1_3, ab_op_s, iv11_125_8, moX9_copyFrom, ab_psh]
theorem dv1_11_125_12 {M : ab_M} {K : ab_K} {Rt : ab_V → ab_S → Prop} {pc n : Nat} {L : ab_L} {r : List ab_V} {σ : ab_S} {v0 : ab_V} (hM : ab_own M = 11) : ab_ex ab_G1 M K Rt pc n L (v0 :: .inr (.inr (.inl 12)) :: r) σ (.invokevirtual 125) = (n = 3 ∧ ab_rok M mdX9_copyFrom r ∧ ab_Runs ab_G1 mdX9_copyFrom [.inr (.inr (.inl 12)), v0] σ (fun v τ => K (pc + 3) L r τ)) := by
  rw [ex_invokevirtual, hM, vn11_125, ab_op_s]
  simp [ab_o1_s, ar1_12, ab_op_s, iv11_125_8, moX9_copyFrom, ab_psh]
theorem dv1_11_128_34 {M : ab_M} {K : ab_K} {Rt : ab_V → ab_S → Prop} {pc n : Nat} {L : ab_L} {r : List ab_V} {σ : ab_S} (hM : ab_own M = 11) : ab_ex ab_G1 M K Rt pc n L (.inr (.inr (.inl 34)) :: r) σ (.invokevirtual 128) = (n = 3 ∧ ab_rok M mdX0_clear r ∧ ab_Runs ab_G1 mdX0_clear [.inr (.inr (.inl 34))] σ (fun v τ => K (pc + 3) L r τ)) := by
  rw [ex_invokevirtual, hM, vn11_128, ab_op_s]
  simp [ab_o1_s, ar1_34, ab_op_s, iv11_128_0, moX0_clear, ab_psh]
theorem dv1_11_128_41 {M : ab_M} {K : ab_K} {Rt : ab_V → ab_S → Prop} {pc n : Nat} {L : ab_L} {r : List ab_V} {σ : ab_S} (hM : ab_own M = 11) : ab_ex ab_G1 M K Rt pc n L (.inr (.inr (.inl 41)) :: r) σ (.invokevirtual 128) = (n = 3 ∧ ab_rok M mdX0_clear r ∧ ab_Runs ab_G1 mdX0_clear [.inr (.inr (.inl 41))] σ (fun v τ => K (pc + 3) L r τ)) := by
  rw [ex_invokevirtual, hM, vn11_128, ab_op_s]
  simp [ab_o1_s, ar1_41, ab_op_s, iv11_128_0, moX0_clear, ab_psh]
theorem dv1_11_128_47 {M : ab_M} {K : ab_K} {Rt : ab_V → ab_S → Prop} {pc n : Nat} {L : ab_L} {r : List ab_V} {σ : ab_S} (hM : ab_own M = 11) : ab_ex ab_G1 M K Rt pc n L (.inr (.inr (.inl 47)) :: r) σ (.invokevirtual 128) = (n = 3 ∧ ab_rok M mdX0_clear r ∧ ab_Runs ab_G1 mdX0_clear [.inr (.inr (.inl 47))] σ (fun v τ => K (pc + 3) L r τ)) := by
  rw [ex_invokevirtual, hM, vn11_128, ab_op_s]
  simp [ab_o1_s, ar1_47, ab_op_s, iv11_128_0, moX0_clear, ab_psh]
theorem dv1_11_128_53 {M : ab_M} {K : ab_K} {Rt : ab_V → ab_S → Prop} {pc n : Nat} {L : ab_L} {r : List ab_V} {σ : ab_S} (hM : ab_own M = 11) : ab_ex ab_G1 M K Rt pc n L (.inr (.inr (.inl 53)) :: r) σ (.invokevirtual 128) = (n = 3 ∧ ab_rok M mdX0_clear r ∧ ab_Runs ab_G1 mdX0_clear [.inr (.inr (.inl 53))] σ (fun v τ => K (pc + 3) L r τ)) := by
  rw [ex_invokevirtual, hM, vn11_128, ab_op_s]
  simp [ab_o1_s, ar1_53, ab_op_s, iv11_128_0, moX0_clear, ab_psh]
theorem dv1_11_128_59 {M : ab_M} {K : ab_K} {Rt : ab_V → ab_S → Prop} {pc n : Nat} {L : ab_L} {r : List ab_V} {σ : ab_S} (hM : ab_own M = 11) : ab_ex ab_G1 M K Rt pc n L (.inr (.inr (.inl 59)) :: r) σ (.invokevirtual 128) = (n = 3 ∧ ab_rok M mdX0_clear r ∧ ab_Runs ab_G1 mdX0_clear [.inr (.inr (.inl 59))] σ (fun v τ => K (pc + 3) L r τ)) := by
  rw [ex_invokevirtual, hM, vn11_128, ab_op_s]
  simp [ab_o1_s, ar1_59, ab_op_s, iv11_128_0, moX0_clear, ab_psh]
theorem dv1_11_134_0 {M : ab_M} {K : ab_K} {Rt : ab_V → ab_S → Prop} {pc n : Nat} {L : ab_L} {r : List ab_V} {σ : ab_S} (hM : ab_own M = 11) : ab_ex ab_G1 M K Rt pc n L (.inr (.inr (.inl 0)) :: r) σ (.invokevirtual 134) = (n = 3 ∧ ab_rok M mdX11_changeRoads r ∧ ab_Runs ab_G1 mdX11_changeRoads [.inr (.inr (.inl 0))] σ (fun v τ => K (pc + 3) L r τ)) := by
  rw [ex_invokevirtual, hM, vn11_134, ab_op_s]
  simp [ab_o1_s, ar1_0, ab_op_s, iv11_134_10, moX11_changeRoads, ab_psh]
theorem dv1_11_140_1 {M : ab_M} {K : ab_K} {Rt : ab_V → ab_S → Prop} {pc n : Nat} {L : ab_L} {r : List ab_V} {σ : ab_S} {v0 v1 v2 : ab_V} (hM : ab_own M = 11) : ab_ex ab_G1 M K Rt pc n L (v2 :: v1 :: v0 :: .inr (.inr (.inl 1)) :: r) σ (.invokevirtual 140) = (n = 3 ∧ ab_rok M mdX6_readLaw r ∧ ab_Runs ab_G1 mdX6_readLaw [.inr (.inr (.inl 1)), v0, v1, v2] σ (fun v τ => K (pc + 3) L (v :: r) τ)) := by
  rw [ex_invokevirtual, hM, vn11_140, ab_op_s]
  simp [ab_o1_s, ar1_1, ab_op_s, iv11_140_6, moX6_readLaw, ab_psh]
theorem dv1_11_154_3 {M : ab_M} {K : ab_K} {Rt : ab_V → ab_S → Prop} {pc n : Nat} {L : ab_L} {r : List ab_V} {σ : ab_S} {v0 v1 : ab_V} (hM : ab_own M = 11) : ab_ex ab_G1 M K Rt pc n L (v1 :: v0 :: .inr (.inr (.inl 3)) :: r) σ (.invokevirtual 154) = (n = 3 ∧ ab_rok M mdX9_streetTold r ∧ ab_Runs ab_G1 mdX9_streetTold [.inr (.inr (.inl 3)), v0, v1] σ (fun v τ => K (pc + 3) L (v :: r) τ)) := by
  rw [ex_invokevirtual, hM, vn11_154, ab_op_s]
  simp [ab_o1_s, ar1_3, ab_op_s, iv11_154_8, moX9_streetTold, ab_psh]
theorem dv1_11_154_12 {M : ab_M} {K : ab_K} {Rt : ab_V → ab_S → Prop} {pc n : Nat} {L : ab_L} {r : List ab_V} {σ : ab_S} {v0 v1 : ab_V} (hM : ab_own M = 11) : ab_ex ab_G1 M K Rt pc n L (v1 :: v0 :: .inr (.inr (.inl 12)) :: r) σ (.invokevirtual 154) = (n = 3 ∧ ab_rok M mdX9_streetTold r ∧ ab_Runs ab_G1 mdX9_streetTold [.inr (.inr (.inl 12)), v0, v1] σ (fun v τ => K (pc + 3) L (v :: r) τ)) := by
  rw [ex_invokevirtual, hM, vn11_154, ab_op_s]
  simp [ab_o1_s, ar1_12, ab_op_s, iv11_154_8, moX9_streetTold, ab_psh]
theorem dv1_11_158_3 {M : ab_M} {K : ab_K} {Rt : ab_V → ab_S → Prop} {pc n : Nat} {L : ab_L} {r : List ab_V} {σ : ab_S} {v0 : ab_V} (hM : ab_own M = 11) : ab_ex ab_G1 M K Rt pc n L (v0 :: .inr (.inr (.inl 3)) :: r) σ (.invokevirtual 158) = (n = 3 ∧ ab_rok M mdX9_plainTold r ∧ ab_Runs ab_G1 mdX9_plainTold [.inr (.inr (.inl 3)), v0] σ (fun v τ => K (pc + 3) L (v :: r) τ)) := by
  rw [ex_invokevirtual, hM, vn11_158, ab_op_s]
  simp [ab_o1_s, ar1_3, ab_op_s, iv11_158_8, moX9_plainTold, ab_psh]
theorem dv1_11_158_12 {M : ab_M} {K : ab_K} {Rt : ab_V → ab_S → Prop} {pc n : Nat} {L : ab_L} {r : List ab_V} {σ : ab_S} {v0 : ab_V} (hM : ab_own M = 11) : ab_ex ab_G1 M K Rt pc n L (v0 :: .inr (.inr (.inl 12)) :: r) σ (.invokevirtual 158) = (n = 3 ∧ ab_rok M mdX9_plainTold r ∧ ab_Runs ab_G1 mdX9_plainTold [.inr (.inr (.inl 12)), v0] σ (fun v τ => K (pc + 3) L (v :: r) τ)) := by
  rw [ex_invokevirtual, hM, vn11_158, ab_op_s]
  simp [ab_o1_s, ar1_12, ab_op_s, iv11_158_8, moX9_plainTold, ab_psh]
theorem dv1_11_162_3 {M : ab_M} {K : ab_K} {Rt : ab_V → ab_S → Prop} {pc n : Nat} {L : ab_L} {r : List ab_V} {σ : ab_S} {v0 : ab_V} (hM : ab_own M = 11) : ab_ex ab_G1 M K Rt pc n L (v0 :: .inr (.inr (.inl 3)) :: r) σ (.invokevirtual 162) = (n = 3 ∧ ab_rok M mdX9_isCorner r ∧ ab_Runs ab_G1 mdX9_isCorner [.inr (.inr (.inl 3)), v0] σ (fun v τ => K (pc + 3) L (v :: r) τ)) := by
  rw [ex_invokevirtual, hM, vn11_162, ab_op_s]
  simp [ab_o1_s, ar1_3, ab_op_s, iv11_162_8, moX9_isCorner, ab_psh]
theorem dv1_11_162_12 {M : ab_M} {K : ab_K} {Rt : ab_V → ab_S → Prop} {pc n : Nat} {L : ab_L} {r : List ab_V} {σ : ab_S} {v0 : ab_V} (hM : ab_own M = 11) : ab_ex ab_G1 M K Rt pc n L (v0 :: .inr (.inr (.inl 12)) :: r) σ (.invokevirtual 162) = (n = 3 ∧ ab_rok M mdX9_isCorner r ∧ ab_Runs ab_G1 mdX9_isCorner [.inr (.inr (.inl 12)), v0] σ (fun v τ => K (pc + 3) L (v :: r) τ)) := by
  rw [ex_invokevirtual, hM, vn11_162, ab_op_s]
  simp [ab_o1_s, ar1_12, ab_op_s, iv11_162_8, moX9_isCorner, ab_psh]
theorem dv1_11_172_3 {M : ab_M} {K : ab_K} {Rt : ab_V → ab_S → Prop} {pc n : Nat} {L : ab_L} {r : List ab_V} {σ : ab_S} {v0 : ab_V} (hM : ab_own M = 11) : ab_ex ab_G1 M K Rt pc n L (v0 :: .inr (.inr (.inl 3)) :: r) σ (.invokevirtual 172) = (n = 3 ∧ ab_rok M mdX9_isSpot r ∧ ab_Runs ab_G1 mdX9_isSpot [.inr (.inr (.inl 3)), v0] σ (fun v τ => K (pc + 3) L (v :: r) τ)) := by
  rw [ex_invokevirtual, hM, vn11_172, ab_op_s]
  simp [ab_o1_s, ar1_3, ab_op_s, iv11_172_8, moX9_isSpot, ab_psh]
theorem dv1_11_172_12 {M : ab_M} {K : ab_K} {Rt : ab_V → ab_S → Prop} {pc n : Nat} {L : ab_L} {r : List ab_V} {σ : ab_S} {v0 : ab_V} (hM : ab_own M = 11) : ab_ex ab_G1 M K Rt pc n L (v0 :: .inr (.inr (.inl 12)) :: r) σ (.invokevirtual 172) = (n = 3 ∧ ab_rok M mdX9_isSpot r ∧ ab_Runs ab_G1 mdX9_isSpot [.inr (.inr (.inl 12)), v0] σ (fun v τ => K (pc + 3) L (v :: r) τ)) := by
  rw [ex_invokevirtual, hM, vn11_172, ab_op_s]
  simp [ab_o1_s, ar1_12, ab_op_s, iv11_172_8, moX9_isSpot, ab_psh]
theorem dv1_11_175_28 {M : ab_M} {K : ab_K} {Rt : ab_V → ab_S → Prop} {pc n : Nat} {L : ab_L} {r : List ab_V} {σ : ab_S} {v0 v1 : ab_V} (hM : ab_own M = 11) : ab_ex ab_G1 M K Rt pc n L (v1 :: v0 :: .inr (.inr (.inl 28)) :: r) σ (.invokevirtual 175) = (n = 3 ∧ ab_rok M mdX7_between r ∧ ab_Runs ab_G1 mdX7_between [.inr (.inr (.inl 28)), v0, v1] σ (fun v τ => K (pc + 3) L (v :: r) τ)) := by
  rw [ex_invokevirtual, hM, vn11_175, ab_op_s]
  simp [ab_o1_s, ar1_28, ab_op_s, iv11_175_7, moX7_between, ab_psh]
theorem dv1_11_182_0 {M : ab_M} {K : ab_K} {Rt : ab_V → ab_S → Prop} {pc n : Nat} {L : ab_L} {r : List ab_V} {σ : ab_S} {v0 v1 : ab_V} (hM : ab_own M = 11) : ab_ex ab_G1 M K Rt pc n L (v1 :: v0 :: .inr (.inr (.inl 0)) :: r) σ (.invokevirtual 182) = (n = 3 ∧ ab_rok M mdX11_canStand r ∧ ab_Runs ab_G1 mdX11_canStand [.inr (.inr (.inl 0)), v0, v1] σ (fun v τ => K (pc + 3) L (v :: r) τ)) := by
  rw [ex_invokevirtual, hM, vn11_182, ab_op_s]
  simp [ab_o1_s, ar1_0, ab_op_s, iv11_182_10, moX11_canStand, ab_psh]
theorem dv1_11_202_34 {M : ab_M} {K : ab_K} {Rt : ab_V → ab_S → Prop} {pc n : Nat} {L : ab_L} {r : List ab_V} {σ : ab_S} {v0 : ab_V} (hM : ab_own M = 11) : ab_ex ab_G1 M K Rt pc n L (v0 :: .inr (.inr (.inl 34)) :: r) σ (.invokevirtual 202) = (n = 3 ∧ ab_rok M mdX0_has r ∧ ab_Runs ab_G1 mdX0_has [.inr (.inr (.inl 34)), v0] σ (fun v τ => K (pc + 3) L (v :: r) τ)) := by
  rw [ex_invokevirtual, hM, vn11_202, ab_op_s]
  simp [ab_o1_s, ar1_34, ab_op_s, iv11_202_0, moX0_has, ab_psh]
theorem dv1_11_202_41 {M : ab_M} {K : ab_K} {Rt : ab_V → ab_S → Prop} {pc n : Nat} {L : ab_L} {r : List ab_V} {σ : ab_S} {v0 : ab_V} (hM : ab_own M = 11) : ab_ex ab_G1 M K Rt pc n L (v0 :: .inr (.inr (.inl 41)) :: r) σ (.invokevirtual 202) = (n = 3 ∧ ab_rok M mdX0_has r ∧ ab_Runs ab_G1 mdX0_has [.inr (.inr (.inl 41)), v0] σ (fun v τ => K (pc + 3) L (v :: r) τ)) := by
  rw [ex_invokevirtual, hM, vn11_202, ab_op_s]
  simp [ab_o1_s, ar1_41, ab_op_s, iv11_202_0, moX0_has, ab_psh]
theorem dv1_11_202_47 {M : ab_M} {K : ab_K} {Rt : ab_V → ab_S → Prop} {pc n : Nat} {L : ab_L} {r : List ab_V} {σ : ab_S} {v0 : ab_V} (hM : ab_own M = 11) : ab_ex ab_G1 M K Rt pc n L (v0 :: .inr (.inr (.inl 47)) :: r) σ (.invokevirtual 202) = (n = 3 ∧ ab_rok M mdX0_has r ∧ ab_Runs ab_G1 mdX0_has [.inr (.inr (.inl 47)), v0] σ (fun v τ => K (pc + 3) L (v :: r) τ)) := by
  rw [ex_invokevirtual, hM, vn11_202, ab_op_s]
  simp [ab_o1_s, ar1_47, ab_op_s, iv11_202_0, moX0_has, ab_psh]
theorem dv1_11_202_53 {M : ab_M} {K : ab_K} {Rt : ab_V → ab_S → Prop} {pc n : Nat} {L : ab_L} {r : List ab_V} {σ : ab_S} {v0 : ab_V} (hM : ab_own M = 11) : ab_ex ab_G1 M K Rt pc n L (v0 :: .inr (.inr (.inl 53)) :: r) σ (.invokevirtual 202) = (n = 3 ∧ ab_rok M mdX0_has r ∧ ab_Runs ab_G1 mdX0_has [.inr (.inr (.inl 53)), v0] σ (fun v τ => K (pc + 3) L (v :: r) τ)) := by
  rw [ex_invokevirtual, hM, vn11_202, ab_op_s]
  simp [ab_o1_s, ar1_53, ab_op_s, iv11_202_0, moX0_has, ab_psh]
theorem dv1_11_202_59 {M : ab_M} {K : ab_K} {Rt : ab_V → ab_S → Prop} {pc n : Nat} {L : ab_L} {r : List ab_V} {σ : ab_S} {v0 : ab_V} (hM : ab_own M = 11) : ab_ex ab_G1 M K Rt pc n L (v0 :: .inr (.inr (.inl 59)) :: r) σ (.invokevirtual 202) = (n = 3 ∧ ab_rok M mdX0_has r ∧ ab_Runs ab_G1 mdX0_has [.inr (.inr (.inl 59)), v0] σ (fun v τ => K (pc + 3) L (v :: r) τ)) := by
  rw [ex_invokevirtual, hM, vn11_202, ab_op_s]
  simp [ab_o1_s, ar1_59, ab_op_s, iv11_202_0, moX0_has, ab_psh]
theorem dv1_11_209_0 {M : ab_M} {K : ab_K} {Rt : ab_V → ab_S → Prop} {pc n : Nat} {L : ab_L} {r : List ab_V} {σ : ab_S} (hM : ab_own M = 11) : ab_ex ab_G1 M K Rt pc n L (.inr (.inr (.inl 0)) :: r) σ (.invokevirtual 209) = (n = 3 ∧ ab_rok M mdX11_sellToAll r ∧ ab_Runs ab_G1 mdX11_sellToAll [.inr (.inr (.inl 0))] σ (fun v τ => K (pc + 3) L r τ)) := by
  rw [ex_invokevirtual, hM, vn11_209, ab_op_s]
  simp [ab_o1_s, ar1_0, ab_op_s, iv11_209_10, moX11_sellToAll, ab_psh]
theorem dv1_11_215_65 {M : ab_M} {K : ab_K} {Rt : ab_V → ab_S → Prop} {pc n : Nat} {L : ab_L} {r : List ab_V} {σ : ab_S} {v0 : ab_V} (hM : ab_own M = 11) : ab_ex ab_G1 M K Rt pc n L (v0 :: .inr (.inr (.inl 65)) :: r) σ (.invokevirtual 215) = (n = 3 ∧ ab_rok M mdX3_takings r ∧ ab_Runs ab_G1 mdX3_takings [.inr (.inr (.inl 65)), v0] σ (fun v τ => K (pc + 3) L (v :: r) τ)) := by
  rw [ex_invokevirtual, hM, vn11_215, ab_op_s]
  simp [ab_o1_s, ar1_65, ab_op_s, iv11_215_3, moX3_takings, ab_psh]
theorem dv1_11_225_65 {M : ab_M} {K : ab_K} {Rt : ab_V → ab_S → Prop} {pc n : Nat} {L : ab_L} {r : List ab_V} {σ : ab_S} {v0 : ab_V} (hM : ab_own M = 11) : ab_ex ab_G1 M K Rt pc n L (v0 :: .inr (.inr (.inl 65)) :: r) σ (.invokevirtual 225) = (n = 3 ∧ ab_rok M mdX3_load r ∧ ab_Runs ab_G1 mdX3_load [.inr (.inr (.inl 65)), v0] σ (fun v τ => K (pc + 3) L r τ)) := by
  rw [ex_invokevirtual, hM, vn11_225, ab_op_s]
  simp [ab_o1_s, ar1_65, ab_op_s, iv11_225_3, moX3_load, ab_psh]
theorem dv1_11_229_82 {M : ab_M} {K : ab_K} {Rt : ab_V → ab_S → Prop} {pc n : Nat} {L : ab_L} {r : List ab_V} {σ : ab_S} {v0 : ab_V} (hM : ab_own M = 11) : ab_ex ab_G1 M K Rt pc n L (v0 :: .inr (.inr (.inl 82)) :: r) σ (.invokevirtual 229) = (n = 3 ∧ ab_rok M mdX4_findBest r ∧ ab_Runs ab_G1 mdX4_findBest [.inr (.inr (.inl 82)), v0] σ (fun v τ => K (pc + 3) L r τ)) := by
  rw [ex_invokevirtual, hM, vn11_229, ab_op_s]
  simp [ab_o1_s, ar1_82, ab_op_s, iv11_229_4, moX4_findBest, ab_psh]
theorem dv1_11_243_82 {M : ab_M} {K : ab_K} {Rt : ab_V → ab_S → Prop} {pc n : Nat} {L : ab_L} {r : List ab_V} {σ : ab_S} (hM : ab_own M = 11) : ab_ex ab_G1 M K Rt pc n L (.inr (.inr (.inl 82)) :: r) σ (.invokevirtual 243) = (n = 3 ∧ ab_rok M mdX4_firstRestless r ∧ ab_Runs ab_G1 mdX4_firstRestless [.inr (.inr (.inl 82))] σ (fun v τ => K (pc + 3) L (v :: r) τ)) := by
  rw [ex_invokevirtual, hM, vn11_243, ab_op_s]
  simp [ab_o1_s, ar1_82, ab_op_s, iv11_243_4, moX4_firstRestless, ab_psh]
theorem dv1_11_247_82 {M : ab_M} {K : ab_K} {Rt : ab_V → ab_S → Prop} {pc n : Nat} {L : ab_L} {r : List ab_V} {σ : ab_S} {v0 v1 : ab_V} (hM : ab_own M = 11) : ab_ex ab_G1 M K Rt pc n L (v1 :: v0 :: .inr (.inr (.inl 82)) :: r) σ (.invokevirtual 247) = (n = 3 ∧ ab_rok M mdX4_runChase r ∧ ab_Runs ab_G1 mdX4_runChase [.inr (.inr (.inl 82)), v0, v1] σ (fun v τ => K (pc + 3) L r τ)) := by
  rw [ex_invokevirtual, hM, vn11_247, ab_op_s]
  simp [ab_o1_s, ar1_82, ab_op_s, iv11_247_4, moX4_runChase, ab_psh]
theorem dv1_11_260_0 {M : ab_M} {K : ab_K} {Rt : ab_V → ab_S → Prop} {pc n : Nat} {L : ab_L} {r : List ab_V} {σ : ab_S} {v0 v1 : ab_V} (hM : ab_own M = 11) : ab_ex ab_G1 M K Rt pc n L (v1 :: v0 :: .inr (.inr (.inl 0)) :: r) σ (.invokevirtual 260) = (n = 3 ∧ ab_rok M mdX11_isPair r ∧ ab_Runs ab_G1 mdX11_isPair [.inr (.inr (.inl 0)), v0, v1] σ (fun v τ => K (pc + 3) L (v :: r) τ)) := by
  rw [ex_invokevirtual, hM, vn11_260, ab_op_s]
  simp [ab_o1_s, ar1_0, ab_op_s, iv11_260_10, moX11_isPair, ab_psh]
theorem dv1_11_263_88 {M : ab_M} {K : ab_K} {Rt : ab_V → ab_S → Prop} {pc n : Nat} {L : ab_L} {r : List ab_V} {σ : ab_S} {v0 v1 v2 v3 : ab_V} (hM : ab_own M = 11) : ab_ex ab_G1 M K Rt pc n L (v3 :: v2 :: v1 :: v0 :: .inr (.inr (.inl 88)) :: r) σ (.invokevirtual 263) = (n = 3 ∧ ab_rok M mdX1_prepare r ∧ ab_Runs ab_G1 mdX1_prepare [.inr (.inr (.inl 88)), v0, v1, v2, v3] σ (fun v τ => K (pc + 3) L r τ)) := by
  rw [ex_invokevirtual, hM, vn11_263, ab_op_s]
  simp [ab_o1_s, ar1_88, ab_op_s, iv11_263_1, moX1_prepare, ab_psh]
theorem dv1_11_273_88 {M : ab_M} {K : ab_K} {Rt : ab_V → ab_S → Prop} {pc n : Nat} {L : ab_L} {r : List ab_V} {σ : ab_S} {v0 : ab_V} (hM : ab_own M = 11) : ab_ex ab_G1 M K Rt pc n L (v0 :: .inr (.inr (.inl 88)) :: r) σ (.invokevirtual 273) = (n = 3 ∧ ab_rok M mdX1_cornersOf r ∧ ab_Runs ab_G1 mdX1_cornersOf [.inr (.inr (.inl 88)), v0] σ (fun v τ => K (pc + 3) L (v :: r) τ)) := by
  rw [ex_invokevirtual, hM, vn11_273, ab_op_s]
  simp [ab_o1_s, ar1_88, ab_op_s, iv11_273_1, moX1_cornersOf, ab_psh]
theorem dv1_11_276_0 {M : ab_M} {K : ab_K} {Rt : ab_V → ab_S → Prop} {pc n : Nat} {L : ab_L} {r : List ab_V} {σ : ab_S} {v0 v1 : ab_V} (hM : ab_own M = 11) : ab_ex ab_G1 M K Rt pc n L (v1 :: v0 :: .inr (.inr (.inl 0)) :: r) σ (.invokevirtual 276) = (n = 3 ∧ ab_rok M mdX11_areTwoCorners r ∧ ab_Runs ab_G1 mdX11_areTwoCorners [.inr (.inr (.inl 0)), v0, v1] σ (fun v τ => K (pc + 3) L (v :: r) τ)) := by
  rw [ex_invokevirtual, hM, vn11_276, ab_op_s]
  simp [ab_o1_s, ar1_0, ab_op_s, iv11_276_10, moX11_areTwoCorners, ab_psh]
theorem dv1_11_279_88 {M : ab_M} {K : ab_K} {Rt : ab_V → ab_S → Prop} {pc n : Nat} {L : ab_L} {r : List ab_V} {σ : ab_S} {v0 v1 v2 v3 v4 : ab_V} (hM : ab_own M = 11) : ab_ex ab_G1 M K Rt pc n L (v4 :: v3 :: v2 :: v1 :: v0 :: .inr (.inr (.inl 88)) :: r) σ (.invokevirtual 279) = (n = 3 ∧ ab_rok M mdX1_drawLots r ∧ ab_Runs ab_G1 mdX1_drawLots [.inr (.inr (.inl 88)), v0, v1, v2, v3, v4] σ (fun v τ => K (pc + 3) L (v :: r) τ)) := by
  rw [ex_invokevirtual, hM, vn11_279, ab_op_s]
  simp [ab_o1_s, ar1_88, ab_op_s, iv11_279_1, moX1_drawLots, ab_psh]
theorem dv1_11_285_88 {M : ab_M} {K : ab_K} {Rt : ab_V → ab_S → Prop} {pc n : Nat} {L : ab_L} {r : List ab_V} {σ : ab_S} {v0 : ab_V} (hM : ab_own M = 11) : ab_ex ab_G1 M K Rt pc n L (v0 :: .inr (.inr (.inl 88)) :: r) σ (.invokevirtual 285) = (n = 3 ∧ ab_rok M mdX1_ledRow r ∧ ab_Runs ab_G1 mdX1_ledRow [.inr (.inr (.inl 88)), v0] σ (fun v τ => K (pc + 3) L (v :: r) τ)) := by
  rw [ex_invokevirtual, hM, vn11_285, ab_op_s]
  simp [ab_o1_s, ar1_88, ab_op_s, iv11_285_1, moX1_ledRow, ab_psh]
theorem dv1_11_288_88 {M : ab_M} {K : ab_K} {Rt : ab_V → ab_S → Prop} {pc n : Nat} {L : ab_L} {r : List ab_V} {σ : ab_S} {v0 v1 : ab_V} (hM : ab_own M = 11) : ab_ex ab_G1 M K Rt pc n L (v1 :: v0 :: .inr (.inr (.inl 88)) :: r) σ (.invokevirtual 288) = (n = 3 ∧ ab_rok M mdX1_cornerIn r ∧ ab_Runs ab_G1 mdX1_cornerIn [.inr (.inr (.inl 88)), v0, v1] σ (fun v τ => K (pc + 3) L (v :: r) τ)) := by
  rw [ex_invokevirtual, hM, vn11_288, ab_op_s]
  simp [ab_o1_s, ar1_88, ab_op_s, iv11_288_1, moX1_cornerIn, ab_psh]
theorem dv1_11_291_88 {M : ab_M} {K : ab_K} {Rt : ab_V → ab_S → Prop} {pc n : Nat} {L : ab_L} {r : List ab_V} {σ : ab_S} {v0 v1 : ab_V} (hM : ab_own M = 11) : ab_ex ab_G1 M K Rt pc n L (v1 :: v0 :: .inr (.inr (.inl 88)) :: r) σ (.invokevirtual 291) = (n = 3 ∧ ab_rok M mdX1_worthOf r ∧ ab_Runs ab_G1 mdX1_worthOf [.inr (.inr (.inl 88)), v0, v1] σ (fun v τ => K (pc + 3) L (v :: r) τ)) := by
  rw [ex_invokevirtual, hM, vn11_291, ab_op_s]
  simp [ab_o1_s, ar1_88, ab_op_s, iv11_291_1, moX1_worthOf, ab_psh]
theorem dv1_11_295_96 {M : ab_M} {K : ab_K} {Rt : ab_V → ab_S → Prop} {pc n : Nat} {L : ab_L} {r : List ab_V} {σ : ab_S} {v0 v1 v2 : ab_V} (hM : ab_own M = 11) : ab_ex ab_G1 M K Rt pc n L (v2 :: v1 :: v0 :: .inr (.inr (.inl 96)) :: r) σ (.invokevirtual 295) = (n = 3 ∧ ab_rok M mdX5_prepare r ∧ ab_Runs ab_G1 mdX5_prepare [.inr (.inr (.inl 96)), v0, v1, v2] σ (fun v τ => K (pc + 3) L r τ)) := by
  rw [ex_invokevirtual, hM, vn11_295, ab_op_s]
  simp [ab_o1_s, ar1_96, ab_op_s, iv11_295_5, moX5_prepare, ab_psh]
theorem dv1_11_299_96 {M : ab_M} {K : ab_K} {Rt : ab_V → ab_S → Prop} {pc n : Nat} {L : ab_L} {r : List ab_V} {σ : ab_S} {v0 : ab_V} (hM : ab_own M = 11) : ab_ex ab_G1 M K Rt pc n L (v0 :: .inr (.inr (.inl 96)) :: r) σ (.invokevirtual 299) = (n = 3 ∧ ab_rok M mdX5_pairAt r ∧ ab_Runs ab_G1 mdX5_pairAt [.inr (.inr (.inl 96)), v0] σ (fun v τ => K (pc + 3) L (v :: r) τ)) := by
  rw [ex_invokevirtual, hM, vn11_299, ab_op_s]
  simp [ab_o1_s, ar1_96, ab_op_s, iv11_299_5, moX5_pairAt, ab_psh]
theorem dv1_11_302_96 {M : ab_M} {K : ab_K} {Rt : ab_V → ab_S → Prop} {pc n : Nat} {L : ab_L} {r : List ab_V} {σ : ab_S} {v0 v1 v2 v3 : ab_V} (hM : ab_own M = 11) : ab_ex ab_G1 M K Rt pc n L (v3 :: v2 :: v1 :: v0 :: .inr (.inr (.inl 96)) :: r) σ (.invokevirtual 302) = (n = 3 ∧ ab_rok M mdX5_firstStage r ∧ ab_Runs ab_G1 mdX5_firstStage [.inr (.inr (.inl 96)), v0, v1, v2, v3] σ (fun v τ => K (pc + 3) L (v :: r) τ)) := by
  rw [ex_invokevirtual, hM, vn11_302, ab_op_s]
  simp [ab_o1_s, ar1_96, ab_op_s, iv11_302_5, moX5_firstStage, ab_psh]
theorem dv1_11_309_76 {M : ab_M} {K : ab_K} {Rt : ab_V → ab_S → Prop} {pc n : Nat} {L : ab_L} {r : List ab_V} {σ : ab_S} {v0 v1 : ab_V} (hM : ab_own M = 11) : ab_ex ab_G1 M K Rt pc n L (v1 :: v0 :: .inr (.inr (.inl 76)) :: r) σ (.invokevirtual 309) = (n = 3 ∧ ab_rok M mdX10_toSpots r ∧ ab_Runs ab_G1 mdX10_toSpots [.inr (.inr (.inl 76)), v0, v1] σ (fun v τ => K (pc + 3) L (v :: r) τ)) := by
  rw [ex_invokevirtual, hM, vn11_309, ab_op_s]
  simp [ab_o1_s, ar1_76, ab_op_s, iv11_309_9, moX10_toSpots, ab_psh]
theorem dv1_11_312_76 {M : ab_M} {K : ab_K} {Rt : ab_V → ab_S → Prop} {pc n : Nat} {L : ab_L} {r : List ab_V} {σ : ab_S} {v0 : ab_V} (hM : ab_own M = 11) : ab_ex ab_G1 M K Rt pc n L (v0 :: .inr (.inr (.inl 76)) :: r) σ (.invokevirtual 312) = (n = 3 ∧ ab_rok M mdX10_findOwn r ∧ ab_Runs ab_G1 mdX10_findOwn [.inr (.inr (.inl 76)), v0] σ (fun v τ => K (pc + 3) L r τ)) := by
  rw [ex_invokevirtual, hM, vn11_312, ab_op_s]
  simp [ab_o1_s, ar1_76, ab_op_s, iv11_312_9, moX10_findOwn, ab_psh]
theorem dv1_11_324_76 {M : ab_M} {K : ab_K} {Rt : ab_V → ab_S → Prop} {pc n : Nat} {L : ab_L} {r : List ab_V} {σ : ab_S} {v0 : ab_V} (hM : ab_own M = 11) : ab_ex ab_G1 M K Rt pc n L (v0 :: .inr (.inr (.inl 76)) :: r) σ (.invokevirtual 324) = (n = 3 ∧ ab_rok M mdX10_toBakers r ∧ ab_Runs ab_G1 mdX10_toBakers [.inr (.inr (.inl 76)), v0] σ (fun v τ => K (pc + 3) L (v :: r) τ)) := by
  rw [ex_invokevirtual, hM, vn11_324, ab_op_s]
  simp [ab_o1_s, ar1_76, ab_op_s, iv11_324_9, moX10_toBakers, ab_psh]
theorem dv1_11_328_88 {M : ab_M} {K : ab_K} {Rt : ab_V → ab_S → Prop} {pc n : Nat} {L : ab_L} {r : List ab_V} {σ : ab_S} {v0 v1 v2 v3 : ab_V} (hM : ab_own M = 11) : ab_ex ab_G1 M K Rt pc n L (v3 :: v2 :: v1 :: v0 :: .inr (.inr (.inl 88)) :: r) σ (.invokevirtual 328) = (n = 3 ∧ ab_rok M mdX1_choose r ∧ ab_Runs ab_G1 mdX1_choose [.inr (.inr (.inl 88)), v0, v1, v2, v3] σ (fun v τ => K (pc + 3) L r τ)) := by
  rw [ex_invokevirtual, hM, vn11_328, ab_op_s]
  simp [ab_o1_s, ar1_88, ab_op_s, iv11_328_1, moX1_choose, ab_psh]
theorem dv1_11_336_82 {M : ab_M} {K : ab_K} {Rt : ab_V → ab_S → Prop} {pc n : Nat} {L : ab_L} {r : List ab_V} {σ : ab_S} {v0 v1 : ab_V} (hM : ab_own M = 11) : ab_ex ab_G1 M K Rt pc n L (v1 :: v0 :: .inr (.inr (.inl 82)) :: r) σ (.invokevirtual 336) = (n = 3 ∧ ab_rok M mdX4_leastShift r ∧ ab_Runs ab_G1 mdX4_leastShift [.inr (.inr (.inl 82)), v0, v1] σ (fun v τ => K (pc + 3) L (v :: r) τ)) := by
  rw [ex_invokevirtual, hM, vn11_336, ab_op_s]
  simp [ab_o1_s, ar1_82, ab_op_s, iv11_336_4, moX4_leastShift, ab_psh]
theorem dv1_11_339_34 {M : ab_M} {K : ab_K} {Rt : ab_V → ab_S → Prop} {pc n : Nat} {L : ab_L} {r : List ab_V} {σ : ab_S} {v0 : ab_V} (hM : ab_own M = 11) : ab_ex ab_G1 M K Rt pc n L (v0 :: .inr (.inr (.inl 34)) :: r) σ (.invokevirtual 339) = (n = 3 ∧ ab_rok M mdX0_copyFrom r ∧ ab_Runs ab_G1 mdX0_copyFrom [.inr (.inr (.inl 34)), v0] σ (fun v τ => K (pc + 3) L r τ)) := by
  rw [ex_invokevirtual, hM, vn11_339, ab_op_s]
  simp [ab_o1_s, ar1_34, ab_op_s, iv11_339_0, moX0_copyFrom, ab_psh]
theorem dv1_11_339_41 {M : ab_M} {K : ab_K} {Rt : ab_V → ab_S → Prop} {pc n : Nat} {L : ab_L} {r : List ab_V} {σ : ab_S} {v0 : ab_V} (hM : ab_own M = 11) : ab_ex ab_G1 M K Rt pc n L (v0 :: .inr (.inr (.inl 41)) :: r) σ (.invokevirtual 339) = (n = 3 ∧ ab_rok M mdX0_copyFrom r ∧ ab_Runs ab_G1 mdX0_copyFrom [.inr (.inr (.inl 41)), v0] σ (fun v τ => K (pc + 3) L r τ)) := by
  rw [ex_invokevirtual, hM, vn11_339, ab_op_s]
  simp [ab_o1_s, ar1_41, ab_op_s, iv11_339_0, moX0_copyFrom, ab_psh]
theorem dv1_11_339_47 {M : ab_M} {K : ab_K} {Rt : ab_V → ab_S → Prop} {pc n : Nat} {L : ab_L} {r : List ab_V} {σ : ab_S} {v0 : ab_V} (hM : ab_own M = 11) : ab_ex ab_G1 M K Rt pc n L (v0 :: .inr (.inr (.inl 47)) :: r) σ (.invokevirtual 339) = (n = 3 ∧ ab_rok M mdX0_copyFrom r ∧ ab_Runs ab_G1 mdX0_copyFrom [.inr (.inr (.inl 47)), v0] σ (fun v τ => K (pc + 3) L r τ)) := by
  rw [ex_invokevirtual, hM, vn11_339, ab_op_s]
  simp [ab_o1_s, ar1_47, ab_op_s, iv11_339_0, moX0_copyFrom, ab_psh]
theorem dv1_11_339_53 {M : ab_M} {K : ab_K} {Rt : ab_V → ab_S → Prop} {pc n : Nat} {L : ab_L} {r : List ab_V} {σ : ab_S} {v0 : ab_V} (hM : ab_own M = 11) : ab_ex ab_G1 M K Rt pc n L (v0 :: .inr (.inr (.inl 53)) :: r) σ (.invokevirtual 339) = (n = 3 ∧ ab_rok M mdX0_copyFrom r ∧ ab_Runs ab_G1 mdX0_copyFrom [.inr (.inr (.inl 53)), v0] σ (fun v τ => K (pc + 3) L r τ)) := by
  rw [ex_invokevirtual, hM, vn11_339, ab_op_s]
  simp [ab_o1_s, ar1_53, ab_op_s, iv11_339_0, moX0_copyFrom, ab_psh]
theorem dv1_11_339_59 {M : ab_M} {K : ab_K} {Rt : ab_V → ab_S → Prop} {pc n : Nat} {L : ab_L} {r : List ab_V} {σ : ab_S} {v0 : ab_V} (hM : ab_own M = 11) : ab_ex ab_G1 M K Rt pc n L (v0 :: .inr (.inr (.inl 59)) :: r) σ (.invokevirtual 339) = (n = 3 ∧ ab_rok M mdX0_copyFrom r ∧ ab_Runs ab_G1 mdX0_copyFrom [.inr (.inr (.inl 59)), v0] σ (fun v τ => K (pc + 3) L r τ)) := by
  rw [ex_invokevirtual, hM, vn11_339, ab_op_s]
  simp [ab_o1_s, ar1_59, ab_op_s, iv11_339_0, moX0_copyFrom, ab_psh]
theorem dv1_11_341_28 {M : ab_M} {K : ab_K} {Rt : ab_V → ab_S → Prop} {pc n : Nat} {L : ab_L} {r : List ab_V} {σ : ab_S} (hM : ab_own M = 11) : ab_ex ab_G1 M K Rt pc n L (.inr (.inr (.inl 28)) :: r) σ (.invokevirtual 341) = (n = 3 ∧ ab_rok M mdX7_openSpots r ∧ ab_Runs ab_G1 mdX7_openSpots [.inr (.inr (.inl 28))] σ (fun v τ => K (pc + 3) L (v :: r) τ)) := by
  rw [ex_invokevirtual, hM, vn11_341, ab_op_s]
  simp [ab_o1_s, ar1_28, ab_op_s, iv11_341_7, moX7_openSpots, ab_psh]
theorem dv1_11_347_28 {M : ab_M} {K : ab_K} {Rt : ab_V → ab_S → Prop} {pc n : Nat} {L : ab_L} {r : List ab_V} {σ : ab_S} (hM : ab_own M = 11) : ab_ex ab_G1 M K Rt pc n L (.inr (.inr (.inl 28)) :: r) σ (.invokevirtual 347) = (n = 3 ∧ ab_rok M mdX7_openPeople r ∧ ab_Runs ab_G1 mdX7_openPeople [.inr (.inr (.inl 28))] σ (fun v τ => K (pc + 3) L (v :: r) τ)) := by
  rw [ex_invokevirtual, hM, vn11_347, ab_op_s]
  simp [ab_o1_s, ar1_28, ab_op_s, iv11_347_7, moX7_openPeople, ab_psh]
theorem dv1_11_350_65 {M : ab_M} {K : ab_K} {Rt : ab_V → ab_S → Prop} {pc n : Nat} {L : ab_L} {r : List ab_V} {σ : ab_S} (hM : ab_own M = 11) : ab_ex ab_G1 M K Rt pc n L (.inr (.inr (.inl 65)) :: r) σ (.invokevirtual 350) = (n = 3 ∧ ab_rok M mdX8_goRound r ∧ ab_Runs ab_G1 mdX8_goRound [.inr (.inr (.inl 65))] σ (fun v τ => K (pc + 3) L r τ)) := by
  rw [ex_invokevirtual, hM, vn11_350, ab_op_s]
  simp [ab_o1_s, ar1_65, ab_op_s, iv11_350_3, moX8_goRound, ab_psh]
theorem dv2_12_197_0 {M : ab_M} {K : ab_K} {Rt : ab_V → ab_S → Prop} {pc n : Nat} {L : ab_L} {r : List ab_V} {σ : ab_S} (hM : ab_own M = 12) : ab_ex ab_G2 M K Rt pc n L (.inr (.inr (.inl 0)) :: r) σ (.invokevirtual 197) = (n = 3 ∧ ab_rok M mdX12_here r ∧ ab_Runs ab_G2 mdX12_here [.inr (.inr (.inl 0))] σ (fun v τ => K (pc + 3) L (v :: r) τ)) := by
  rw [ex_invokevirtual, hM, vn12_197, ab_op_s]
  simp [ab_o1_s, ar2_0, ab_op_s, iv12_197_11, moX12_here, ab_psh]
theorem dv2_12_259_0 {M : ab_M} {K : ab_K} {Rt : ab_V → ab_S → Prop} {pc n : Nat} {L : ab_L} {r : List ab_V} {σ : ab_S} {v0 : ab_V} (hM : ab_own M = 12) : ab_ex ab_G2 M K Rt pc n L (v0 :: .inr (.inr (.inl 0)) :: r) σ (.invokevirtual 259) = (n = 3 ∧ ab_rok M mdX12_wordOf r ∧ ab_Runs ab_G2 mdX12_wordOf [.inr (.inr (.inl 0)), v0] σ (fun v τ => K (pc + 3) L (v :: r) τ)) := by
  rw [ex_invokevirtual, hM, vn12_259, ab_op_s]
  simp [ab_o1_s, ar2_0, ab_op_s, iv12_259_11, moX12_wordOf, ab_psh]
theorem dv2_12_263_0 {M : ab_M} {K : ab_K} {Rt : ab_V → ab_S → Prop} {pc n : Nat} {L : ab_L} {r : List ab_V} {σ : ab_S} (hM : ab_own M = 12) : ab_ex ab_G2 M K Rt pc n L (.inr (.inr (.inl 0)) :: r) σ (.invokevirtual 263) = (n = 3 ∧ ab_rok M mdX12_errs r ∧ ab_Runs ab_G2 mdX12_errs [.inr (.inr (.inl 0))] σ (fun v τ => K (pc + 3) L r τ)) := by
  rw [ex_invokevirtual, hM, vn12_263, ab_op_s]
  simp [ab_o1_s, ar2_0, ab_op_s, iv12_263_11, moX12_errs, ab_psh]
theorem dv2_12_266_0 {M : ab_M} {K : ab_K} {Rt : ab_V → ab_S → Prop} {pc n : Nat} {L : ab_L} {r : List ab_V} {σ : ab_S} (hM : ab_own M = 12) : ab_ex ab_G2 M K Rt pc n L (.inr (.inr (.inl 0)) :: r) σ (.invokevirtual 266) = (n = 3 ∧ ab_rok M mdX12_next r ∧ ab_Runs ab_G2 mdX12_next [.inr (.inr (.inl 0))] σ (fun v τ => K (pc + 3) L r τ)) := by
  rw [ex_invokevirtual, hM, vn12_266, ab_op_s]
  simp [ab_o1_s, ar2_0, ab_op_s, iv12_266_11, moX12_next, ab_psh]
theorem dv2_12_275_0 {M : ab_M} {K : ab_K} {Rt : ab_V → ab_S → Prop} {pc n : Nat} {L : ab_L} {r : List ab_V} {σ : ab_S} (hM : ab_own M = 12) : ab_ex ab_G2 M K Rt pc n L (.inr (.inr (.inl 0)) :: r) σ (.invokevirtual 275) = (n = 3 ∧ ab_rok M mdX12_isName r ∧ ab_Runs ab_G2 mdX12_isName [.inr (.inr (.inl 0))] σ (fun v τ => K (pc + 3) L (v :: r) τ)) := by
  rw [ex_invokevirtual, hM, vn12_275, ab_op_s]
  simp [ab_o1_s, ar2_0, ab_op_s, iv12_275_11, moX12_isName, ab_psh]
theorem dv2_12_279_0 {M : ab_M} {K : ab_K} {Rt : ab_V → ab_S → Prop} {pc n : Nat} {L : ab_L} {r : List ab_V} {σ : ab_S} (hM : ab_own M = 12) : ab_ex ab_G2 M K Rt pc n L (.inr (.inr (.inl 0)) :: r) σ (.invokevirtual 279) = (n = 3 ∧ ab_rok M mdX12_wordHere r ∧ ab_Runs ab_G2 mdX12_wordHere [.inr (.inr (.inl 0))] σ (fun v τ => K (pc + 3) L (v :: r) τ)) := by
  rw [ex_invokevirtual, hM, vn12_279, ab_op_s]
  simp [ab_o1_s, ar2_0, ab_op_s, iv12_279_11, moX12_wordHere, ab_psh]
theorem dv2_12_282_0 {M : ab_M} {K : ab_K} {Rt : ab_V → ab_S → Prop} {pc n : Nat} {L : ab_L} {r : List ab_V} {σ : ab_S} {v0 v1 : ab_V} (hM : ab_own M = 12) : ab_ex ab_G2 M K Rt pc n L (v1 :: v0 :: .inr (.inr (.inl 0)) :: r) σ (.invokevirtual 282) = (n = 3 ∧ ab_rok M mdX12_number r ∧ ab_Runs ab_G2 mdX12_number [.inr (.inr (.inl 0)), v0, v1] σ (fun v τ => K (pc + 3) L (v :: r) τ)) := by
  rw [ex_invokevirtual, hM, vn12_282, ab_op_s]
  simp [ab_o1_s, ar2_0, ab_op_s, iv12_282_11, moX12_number, ab_psh]
theorem dv2_12_288_0 {M : ab_M} {K : ab_K} {Rt : ab_V → ab_S → Prop} {pc n : Nat} {L : ab_L} {r : List ab_V} {σ : ab_S} {v0 v1 : ab_V} (hM : ab_own M = 12) : ab_ex ab_G2 M K Rt pc n L (v1 :: v0 :: .inr (.inr (.inl 0)) :: r) σ (.invokevirtual 288) = (n = 3 ∧ ab_rok M mdX12_cornerHere r ∧ ab_Runs ab_G2 mdX12_cornerHere [.inr (.inr (.inl 0)), v0, v1] σ (fun v τ => K (pc + 3) L (v :: r) τ)) := by
  rw [ex_invokevirtual, hM, vn12_288, ab_op_s]
  simp [ab_o1_s, ar2_0, ab_op_s, iv12_288_11, moX12_cornerHere, ab_psh]
theorem dv2_12_292_0 {M : ab_M} {K : ab_K} {Rt : ab_V → ab_S → Prop} {pc n : Nat} {L : ab_L} {r : List ab_V} {σ : ab_S} (hM : ab_own M = 12) : ab_ex ab_G2 M K Rt pc n L (.inr (.inr (.inl 0)) :: r) σ (.invokevirtual 292) = (n = 3 ∧ ab_rok M mdX12_readCorner r ∧ ab_Runs ab_G2 mdX12_readCorner [.inr (.inr (.inl 0))] σ (fun v τ => K (pc + 3) L r τ)) := by
  rw [ex_invokevirtual, hM, vn12_292, ab_op_s]
  simp [ab_o1_s, ar2_0, ab_op_s, iv12_292_11, moX12_readCorner, ab_psh]
theorem dv2_12_295_0 {M : ab_M} {K : ab_K} {Rt : ab_V → ab_S → Prop} {pc n : Nat} {L : ab_L} {r : List ab_V} {σ : ab_S} (hM : ab_own M = 12) : ab_ex ab_G2 M K Rt pc n L (.inr (.inr (.inl 0)) :: r) σ (.invokevirtual 295) = (n = 3 ∧ ab_rok M mdX12_readStreet r ∧ ab_Runs ab_G2 mdX12_readStreet [.inr (.inr (.inl 0))] σ (fun v τ => K (pc + 3) L r τ)) := by
  rw [ex_invokevirtual, hM, vn12_295, ab_op_s]
  simp [ab_o1_s, ar2_0, ab_op_s, iv12_295_11, moX12_readStreet, ab_psh]
theorem dv2_12_310_0 {M : ab_M} {K : ab_K} {Rt : ab_V → ab_S → Prop} {pc n : Nat} {L : ab_L} {r : List ab_V} {σ : ab_S} (hM : ab_own M = 12) : ab_ex ab_G2 M K Rt pc n L (.inr (.inr (.inl 0)) :: r) σ (.invokevirtual 310) = (n = 3 ∧ ab_rok M mdX12_ends r ∧ ab_Runs ab_G2 mdX12_ends [.inr (.inr (.inl 0))] σ (fun v τ => K (pc + 3) L r τ)) := by
  rw [ex_invokevirtual, hM, vn12_310, ab_op_s]
  simp [ab_o1_s, ar2_0, ab_op_s, iv12_310_11, moX12_ends, ab_psh]
theorem dv2_12_313_0 {M : ab_M} {K : ab_K} {Rt : ab_V → ab_S → Prop} {pc n : Nat} {L : ab_L} {r : List ab_V} {σ : ab_S} {v0 : ab_V} (hM : ab_own M = 12) : ab_ex ab_G2 M K Rt pc n L (v0 :: .inr (.inr (.inl 0)) :: r) σ (.invokevirtual 313) = (n = 3 ∧ ab_rok M mdX12_beginsText r ∧ ab_Runs ab_G2 mdX12_beginsText [.inr (.inr (.inl 0)), v0] σ (fun v τ => K (pc + 3) L r τ)) := by
  rw [ex_invokevirtual, hM, vn12_313, ab_op_s]
  simp [ab_o1_s, ar2_0, ab_op_s, iv12_313_11, moX12_beginsText, ab_psh]
theorem dv2_12_317_0 {M : ab_M} {K : ab_K} {Rt : ab_V → ab_S → Prop} {pc n : Nat} {L : ab_L} {r : List ab_V} {σ : ab_S} (hM : ab_own M = 12) : ab_ex ab_G2 M K Rt pc n L (.inr (.inr (.inl 0)) :: r) σ (.invokevirtual 317) = (n = 3 ∧ ab_rok M mdX12_readStatement r ∧ ab_Runs ab_G2 mdX12_readStatement [.inr (.inr (.inl 0))] σ (fun v τ => K (pc + 3) L r τ)) := by
  rw [ex_invokevirtual, hM, vn12_317, ab_op_s]
  simp [ab_o1_s, ar2_0, ab_op_s, iv12_317_11, moX12_readStatement, ab_psh]
theorem dv2_12_338_0 {M : ab_M} {K : ab_K} {Rt : ab_V → ab_S → Prop} {pc n : Nat} {L : ab_L} {r : List ab_V} {σ : ab_S} (hM : ab_own M = 12) : ab_ex ab_G2 M K Rt pc n L (.inr (.inr (.inl 0)) :: r) σ (.invokevirtual 338) = (n = 3 ∧ ab_rok M mdX12_laysTown r ∧ ab_Runs ab_G2 mdX12_laysTown [.inr (.inr (.inl 0))] σ (fun v τ => K (pc + 3) L r τ)) := by
  rw [ex_invokevirtual, hM, vn12_338, ab_op_s]
  simp [ab_o1_s, ar2_0, ab_op_s, iv12_338_11, moX12_laysTown, ab_psh]
theorem dv2_12_341_0 {M : ab_M} {K : ab_K} {Rt : ab_V → ab_S → Prop} {pc n : Nat} {L : ab_L} {r : List ab_V} {σ : ab_S} {v0 v1 : ab_V} (hM : ab_own M = 12) : ab_ex ab_G2 M K Rt pc n L (v1 :: v0 :: .inr (.inr (.inl 0)) :: r) σ (.invokevirtual 341) = (n = 3 ∧ ab_rok M mdX12_readLaw r ∧ ab_Runs ab_G2 mdX12_readLaw [.inr (.inr (.inl 0)), v0, v1] σ (fun v τ => K (pc + 3) L r τ)) := by
  rw [ex_invokevirtual, hM, vn12_341, ab_op_s]
  simp [ab_o1_s, ar2_0, ab_op_s, iv12_341_11, moX12_readLaw, ab_psh]
theorem dv2_12_354_0 {M : ab_M} {K : ab_K} {Rt : ab_V → ab_S → Prop} {pc n : Nat} {L : ab_L} {r : List ab_V} {σ : ab_S} {v0 : ab_V} (hM : ab_own M = 12) : ab_ex ab_G2 M K Rt pc n L (v0 :: .inr (.inr (.inl 0)) :: r) σ (.invokevirtual 354) = (n = 3 ∧ ab_rok M mdX12_lays r ∧ ab_Runs ab_G2 mdX12_lays [.inr (.inr (.inl 0)), v0] σ (fun v τ => K (pc + 3) L r τ)) := by
  rw [ex_invokevirtual, hM, vn12_354, ab_op_s]
  simp [ab_o1_s, ar2_0, ab_op_s, iv12_354_11, moX12_lays, ab_psh]
theorem dv2_12_364_0 {M : ab_M} {K : ab_K} {Rt : ab_V → ab_S → Prop} {pc n : Nat} {L : ab_L} {r : List ab_V} {σ : ab_S} {v0 v1 : ab_V} (hM : ab_own M = 12) : ab_ex ab_G2 M K Rt pc n L (v1 :: v0 :: .inr (.inr (.inl 0)) :: r) σ (.invokevirtual 364) = (n = 3 ∧ ab_rok M mdX12_toCorner r ∧ ab_Runs ab_G2 mdX12_toCorner [.inr (.inr (.inl 0)), v0, v1] σ (fun v τ => K (pc + 3) L (v :: r) τ)) := by
  rw [ex_invokevirtual, hM, vn12_364, ab_op_s]
  simp [ab_o1_s, ar2_0, ab_op_s, iv12_364_11, moX12_toCorner, ab_psh]
theorem dv2_12_370_0 {M : ab_M} {K : ab_K} {Rt : ab_V → ab_S → Prop} {pc n : Nat} {L : ab_L} {r : List ab_V} {σ : ab_S} {v0 : ab_V} (hM : ab_own M = 12) : ab_ex ab_G2 M K Rt pc n L (v0 :: .inr (.inr (.inl 0)) :: r) σ (.invokevirtual 370) = (n = 3 ∧ ab_rok M mdX12_isSpot r ∧ ab_Runs ab_G2 mdX12_isSpot [.inr (.inr (.inl 0)), v0] σ (fun v τ => K (pc + 3) L (v :: r) τ)) := by
  rw [ex_invokevirtual, hM, vn12_370, ab_op_s]
  simp [ab_o1_s, ar2_0, ab_op_s, iv12_370_11, moX12_isSpot, ab_psh]
theorem dv2_12_374_0 {M : ab_M} {K : ab_K} {Rt : ab_V → ab_S → Prop} {pc n : Nat} {L : ab_L} {r : List ab_V} {σ : ab_S} {v0 v1 : ab_V} (hM : ab_own M = 12) : ab_ex ab_G2 M K Rt pc n L (v1 :: v0 :: .inr (.inr (.inl 0)) :: r) σ (.invokevirtual 374) = (n = 3 ∧ ab_rok M mdX12_farOf r ∧ ab_Runs ab_G2 mdX12_farOf [.inr (.inr (.inl 0)), v0, v1] σ (fun v τ => K (pc + 3) L (v :: r) τ)) := by
  rw [ex_invokevirtual, hM, vn12_374, ab_op_s]
  simp [ab_o1_s, ar2_0, ab_op_s, iv12_374_11, moX12_farOf, ab_psh]
theorem dv2_12_380_0 {M : ab_M} {K : ab_K} {Rt : ab_V → ab_S → Prop} {pc n : Nat} {L : ab_L} {r : List ab_V} {σ : ab_S} {v0 : ab_V} (hM : ab_own M = 12) : ab_ex ab_G2 M K Rt pc n L (v0 :: .inr (.inr (.inl 0)) :: r) σ (.invokevirtual 380) = (n = 3 ∧ ab_rok M mdX12_priceOf r ∧ ab_Runs ab_G2 mdX12_priceOf [.inr (.inr (.inl 0)), v0] σ (fun v τ => K (pc + 3) L (v :: r) τ)) := by
  rw [ex_invokevirtual, hM, vn12_380, ab_op_s]
  simp [ab_o1_s, ar2_0, ab_op_s, iv12_380_11, moX12_priceOf, ab_psh]
theorem dv2_12_383_0 {M : ab_M} {K : ab_K} {Rt : ab_V → ab_S → Prop} {pc n : Nat} {L : ab_L} {r : List ab_V} {σ : ab_S} (hM : ab_own M = 12) : ab_ex ab_G2 M K Rt pc n L (.inr (.inr (.inl 0)) :: r) σ (.invokevirtual 383) = (n = 3 ∧ ab_rok M mdX12_paces r ∧ ab_Runs ab_G2 mdX12_paces [.inr (.inr (.inl 0))] σ (fun v τ => K (pc + 3) L r τ)) := by
  rw [ex_invokevirtual, hM, vn12_383, ab_op_s]
  simp [ab_o1_s, ar2_0, ab_op_s, iv12_383_11, moX12_paces, ab_psh]
theorem dv2_12_388_0 {M : ab_M} {K : ab_K} {Rt : ab_V → ab_S → Prop} {pc n : Nat} {L : ab_L} {r : List ab_V} {σ : ab_S} {v0 : ab_V} (hM : ab_own M = 12) : ab_ex ab_G2 M K Rt pc n L (v0 :: .inr (.inr (.inl 0)) :: r) σ (.invokevirtual 388) = (n = 3 ∧ ab_rok M mdX12_buyersAt r ∧ ab_Runs ab_G2 mdX12_buyersAt [.inr (.inr (.inl 0)), v0] σ (fun v τ => K (pc + 3) L (v :: r) τ)) := by
  rw [ex_invokevirtual, hM, vn12_388, ab_op_s]
  simp [ab_o1_s, ar2_0, ab_op_s, iv12_388_11, moX12_buyersAt, ab_psh]
theorem dv2_12_391_0 {M : ab_M} {K : ab_K} {Rt : ab_V → ab_S → Prop} {pc n : Nat} {L : ab_L} {r : List ab_V} {σ : ab_S} {v0 v1 : ab_V} (hM : ab_own M = 12) : ab_ex ab_G2 M K Rt pc n L (v1 :: v0 :: .inr (.inr (.inl 0)) :: r) σ (.invokevirtual 391) = (n = 3 ∧ ab_rok M mdX12_gives r ∧ ab_Runs ab_G2 mdX12_gives [.inr (.inr (.inl 0)), v0, v1] σ (fun v τ => K (pc + 3) L r τ)) := by
  rw [ex_invokevirtual, hM, vn12_391, ab_op_s]
  simp [ab_o1_s, ar2_0, ab_op_s, iv12_391_11, moX12_gives, ab_psh]
theorem dv2_12_397_0 {M : ab_M} {K : ab_K} {Rt : ab_V → ab_S → Prop} {pc n : Nat} {L : ab_L} {r : List ab_V} {σ : ab_S} {v0 v1 : ab_V} (hM : ab_own M = 12) : ab_ex ab_G2 M K Rt pc n L (v1 :: v0 :: .inr (.inr (.inl 0)) :: r) σ (.invokevirtual 397) = (n = 3 ∧ ab_rok M mdX12_buyersOn r ∧ ab_Runs ab_G2 mdX12_buyersOn [.inr (.inr (.inl 0)), v0, v1] σ (fun v τ => K (pc + 3) L (v :: r) τ)) := by
  rw [ex_invokevirtual, hM, vn12_397, ab_op_s]
  simp [ab_o1_s, ar2_0, ab_op_s, iv12_397_11, moX12_buyersOn, ab_psh]
theorem dv2_12_400_0 {M : ab_M} {K : ab_K} {Rt : ab_V → ab_S → Prop} {pc n : Nat} {L : ab_L} {r : List ab_V} {σ : ab_S} {v0 : ab_V} (hM : ab_own M = 12) : ab_ex ab_G2 M K Rt pc n L (v0 :: .inr (.inr (.inl 0)) :: r) σ (.invokevirtual 400) = (n = 3 ∧ ab_rok M mdX12_earnsOf r ∧ ab_Runs ab_G2 mdX12_earnsOf [.inr (.inr (.inl 0)), v0] σ (fun v τ => K (pc + 3) L (v :: r) τ)) := by
  rw [ex_invokevirtual, hM, vn12_400, ab_op_s]
  simp [ab_o1_s, ar2_0, ab_op_s, iv12_400_11, moX12_earnsOf, ab_psh]
theorem dv2_12_404_0 {M : ab_M} {K : ab_K} {Rt : ab_V → ab_S → Prop} {pc n : Nat} {L : ab_L} {r : List ab_V} {σ : ab_S} {v0 : ab_V} (hM : ab_own M = 12) : ab_ex ab_G2 M K Rt pc n L (v0 :: .inr (.inr (.inl 0)) :: r) σ (.invokevirtual 404) = (n = 3 ∧ ab_rok M mdX12_isSeller r ∧ ab_Runs ab_G2 mdX12_isSeller [.inr (.inr (.inl 0)), v0] σ (fun v τ => K (pc + 3) L (v :: r) τ)) := by
  rw [ex_invokevirtual, hM, vn12_404, ab_op_s]
  simp [ab_o1_s, ar2_0, ab_op_s, iv12_404_11, moX12_isSeller, ab_psh]
theorem dv2_12_407_0 {M : ab_M} {K : ab_K} {Rt : ab_V → ab_S → Prop} {pc n : Nat} {L : ab_L} {r : List ab_V} {σ : ab_S} (hM : ab_own M = 12) : ab_ex ab_G2 M K Rt pc n L (.inr (.inr (.inl 0)) :: r) σ (.invokevirtual 407) = (n = 3 ∧ ab_rok M mdX12_sells r ∧ ab_Runs ab_G2 mdX12_sells [.inr (.inr (.inl 0))] σ (fun v τ => K (pc + 3) L r τ)) := by
  rw [ex_invokevirtual, hM, vn12_407, ab_op_s]
  simp [ab_o1_s, ar2_0, ab_op_s, iv12_407_11, moX12_sells, ab_psh]
theorem dv2_12_410_0 {M : ab_M} {K : ab_K} {Rt : ab_V → ab_S → Prop} {pc n : Nat} {L : ab_L} {r : List ab_V} {σ : ab_S} {v0 : ab_V} (hM : ab_own M = 12) : ab_ex ab_G2 M K Rt pc n L (v0 :: .inr (.inr (.inl 0)) :: r) σ (.invokevirtual 410) = (n = 3 ∧ ab_rok M mdX12_chainEarns r ∧ ab_Runs ab_G2 mdX12_chainEarns [.inr (.inr (.inl 0)), v0] σ (fun v τ => K (pc + 3) L (v :: r) τ)) := by
  rw [ex_invokevirtual, hM, vn12_410, ab_op_s]
  simp [ab_o1_s, ar2_0, ab_op_s, iv12_410_11, moX12_chainEarns, ab_psh]
theorem dv2_12_422_0 {M : ab_M} {K : ab_K} {Rt : ab_V → ab_S → Prop} {pc n : Nat} {L : ab_L} {r : List ab_V} {σ : ab_S} {v0 v1 v2 : ab_V} (hM : ab_own M = 12) : ab_ex ab_G2 M K Rt pc n L (v2 :: v1 :: v0 :: .inr (.inr (.inl 0)) :: r) σ (.invokevirtual 422) = (n = 3 ∧ ab_rok M mdX12_tries r ∧ ab_Runs ab_G2 mdX12_tries [.inr (.inr (.inl 0)), v0, v1, v2] σ (fun v τ => K (pc + 3) L r τ)) := by
  rw [ex_invokevirtual, hM, vn12_422, ab_op_s]
  simp [ab_o1_s, ar2_0, ab_op_s, iv12_422_11, moX12_tries, ab_psh]
theorem dv2_12_426_0 {M : ab_M} {K : ab_K} {Rt : ab_V → ab_S → Prop} {pc n : Nat} {L : ab_L} {r : List ab_V} {σ : ab_S} {v0 v1 : ab_V} (hM : ab_own M = 12) : ab_ex ab_G2 M K Rt pc n L (v1 :: v0 :: .inr (.inr (.inl 0)) :: r) σ (.invokevirtual 426) = (n = 3 ∧ ab_rok M mdX12_isLet r ∧ ab_Runs ab_G2 mdX12_isLet [.inr (.inr (.inl 0)), v0, v1] σ (fun v τ => K (pc + 3) L (v :: r) τ)) := by
  rw [ex_invokevirtual, hM, vn12_426, ab_op_s]
  simp [ab_o1_s, ar2_0, ab_op_s, iv12_426_11, moX12_isLet, ab_psh]
theorem dv2_12_430_0 {M : ab_M} {K : ab_K} {Rt : ab_V → ab_S → Prop} {pc n : Nat} {L : ab_L} {r : List ab_V} {σ : ab_S} {v0 : ab_V} (hM : ab_own M = 12) : ab_ex ab_G2 M K Rt pc n L (v0 :: .inr (.inr (.inl 0)) :: r) σ (.invokevirtual 430) = (n = 3 ∧ ab_rok M mdX12_findBest r ∧ ab_Runs ab_G2 mdX12_findBest [.inr (.inr (.inl 0)), v0] σ (fun v τ => K (pc + 3) L r τ)) := by
  rw [ex_invokevirtual, hM, vn12_430, ab_op_s]
  simp [ab_o1_s, ar2_0, ab_op_s, iv12_430_11, moX12_findBest, ab_psh]
theorem dv2_12_433_0 {M : ab_M} {K : ab_K} {Rt : ab_V → ab_S → Prop} {pc n : Nat} {L : ab_L} {r : List ab_V} {σ : ab_S} {v0 : ab_V} (hM : ab_own M = 12) : ab_ex ab_G2 M K Rt pc n L (v0 :: .inr (.inr (.inl 0)) :: r) σ (.invokevirtual 433) = (n = 3 ∧ ab_rok M mdX12_notes r ∧ ab_Runs ab_G2 mdX12_notes [.inr (.inr (.inl 0)), v0] σ (fun v τ => K (pc + 3) L r τ)) := by
  rw [ex_invokevirtual, hM, vn12_433, ab_op_s]
  simp [ab_o1_s, ar2_0, ab_op_s, iv12_433_11, moX12_notes, ab_psh]
theorem dv2_12_436_0 {M : ab_M} {K : ab_K} {Rt : ab_V → ab_S → Prop} {pc n : Nat} {L : ab_L} {r : List ab_V} {σ : ab_S} {v0 : ab_V} (hM : ab_own M = 12) : ab_ex ab_G2 M K Rt pc n L (v0 :: .inr (.inr (.inl 0)) :: r) σ (.invokevirtual 436) = (n = 3 ∧ ab_rok M mdX12_turn r ∧ ab_Runs ab_G2 mdX12_turn [.inr (.inr (.inl 0)), v0] σ (fun v τ => K (pc + 3) L (v :: r) τ)) := by
  rw [ex_invokevirtual, hM, vn12_436, ab_op_s]
  simp [ab_o1_s, ar2_0, ab_op_s, iv12_436_11, moX12_turn, ab_psh]
theorem dv2_12_439_0 {M : ab_M} {K : ab_K} {Rt : ab_V → ab_S → Prop} {pc n : Nat} {L : ab_L} {r : List ab_V} {σ : ab_S} {v0 : ab_V} (hM : ab_own M = 12) : ab_ex ab_G2 M K Rt pc n L (v0 :: .inr (.inr (.inl 0)) :: r) σ (.invokevirtual 439) = (n = 3 ∧ ab_rok M mdX12_isAs r ∧ ab_Runs ab_G2 mdX12_isAs [.inr (.inr (.inl 0)), v0] σ (fun v τ => K (pc + 3) L (v :: r) τ)) := by
  rw [ex_invokevirtual, hM, vn12_439, ab_op_s]
  simp [ab_o1_s, ar2_0, ab_op_s, iv12_439_11, moX12_isAs, ab_psh]
theorem dv2_12_442_0 {M : ab_M} {K : ab_K} {Rt : ab_V → ab_S → Prop} {pc n : Nat} {L : ab_L} {r : List ab_V} {σ : ab_S} {v0 v1 : ab_V} (hM : ab_own M = 12) : ab_ex ab_G2 M K Rt pc n L (v1 :: v0 :: .inr (.inr (.inl 0)) :: r) σ (.invokevirtual 442) = (n = 3 ∧ ab_rok M mdX12_isApart r ∧ ab_Runs ab_G2 mdX12_isApart [.inr (.inr (.inl 0)), v0, v1] σ (fun v τ => K (pc + 3) L (v :: r) τ)) := by
  rw [ex_invokevirtual, hM, vn12_442, ab_op_s]
  simp [ab_o1_s, ar2_0, ab_op_s, iv12_442_11, moX12_isApart, ab_psh]
theorem dv2_12_458_0 {M : ab_M} {K : ab_K} {Rt : ab_V → ab_S → Prop} {pc n : Nat} {L : ab_L} {r : List ab_V} {σ : ab_S} {v0 v1 v2 : ab_V} (hM : ab_own M = 12) : ab_ex ab_G2 M K Rt pc n L (v2 :: v1 :: v0 :: .inr (.inr (.inl 0)) :: r) σ (.invokevirtual 458) = (n = 3 ∧ ab_rok M mdX12_isRowLet r ∧ ab_Runs ab_G2 mdX12_isRowLet [.inr (.inr (.inl 0)), v0, v1, v2] σ (fun v τ => K (pc + 3) L (v :: r) τ)) := by
  rw [ex_invokevirtual, hM, vn12_458, ab_op_s]
  simp [ab_o1_s, ar2_0, ab_op_s, iv12_458_11, moX12_isRowLet, ab_psh]
theorem dv2_12_461_0 {M : ab_M} {K : ab_K} {Rt : ab_V → ab_S → Prop} {pc n : Nat} {L : ab_L} {r : List ab_V} {σ : ab_S} {v0 v1 : ab_V} (hM : ab_own M = 12) : ab_ex ab_G2 M K Rt pc n L (v1 :: v0 :: .inr (.inr (.inl 0)) :: r) σ (.invokevirtual 461) = (n = 3 ∧ ab_rok M mdX12_areTwo r ∧ ab_Runs ab_G2 mdX12_areTwo [.inr (.inr (.inl 0)), v0, v1] σ (fun v τ => K (pc + 3) L (v :: r) τ)) := by
  rw [ex_invokevirtual, hM, vn12_461, ab_op_s]
  simp [ab_o1_s, ar2_0, ab_op_s, iv12_461_11, moX12_areTwo, ab_psh]
theorem dv2_12_464_0 {M : ab_M} {K : ab_K} {Rt : ab_V → ab_S → Prop} {pc n : Nat} {L : ab_L} {r : List ab_V} {σ : ab_S} {v0 v1 v2 : ab_V} (hM : ab_own M = 12) : ab_ex ab_G2 M K Rt pc n L (v2 :: v1 :: v0 :: .inr (.inr (.inl 0)) :: r) σ (.invokevirtual 464) = (n = 3 ∧ ab_rok M mdX12_plays r ∧ ab_Runs ab_G2 mdX12_plays [.inr (.inr (.inl 0)), v0, v1, v2] σ (fun v τ => K (pc + 3) L r τ)) := by
  rw [ex_invokevirtual, hM, vn12_464, ab_op_s]
  simp [ab_o1_s, ar2_0, ab_op_s, iv12_464_11, moX12_plays, ab_psh]
theorem dv2_12_468_0 {M : ab_M} {K : ab_K} {Rt : ab_V → ab_S → Prop} {pc n : Nat} {L : ab_L} {r : List ab_V} {σ : ab_S} {v0 v1 v2 v3 : ab_V} (hM : ab_own M = 12) : ab_ex ab_G2 M K Rt pc n L (v3 :: v2 :: v1 :: v0 :: .inr (.inr (.inl 0)) :: r) σ (.invokevirtual 468) = (n = 3 ∧ ab_rok M mdX12_isRest r ∧ ab_Runs ab_G2 mdX12_isRest [.inr (.inr (.inl 0)), v0, v1, v2, v3] σ (fun v τ => K (pc + 3) L (v :: r) τ)) := by
  rw [ex_invokevirtual, hM, vn12_468, ab_op_s]
  simp [ab_o1_s, ar2_0, ab_op_s, iv12_468_11, moX12_isRest, ab_psh]
theorem dv2_12_472_0 {M : ab_M} {K : ab_K} {Rt : ab_V → ab_S → Prop} {pc n : Nat} {L : ab_L} {r : List ab_V} {σ : ab_S} {v0 : ab_V} (hM : ab_own M = 12) : ab_ex ab_G2 M K Rt pc n L (v0 :: .inr (.inr (.inl 0)) :: r) σ (.invokevirtual 472) = (n = 3 ∧ ab_rok M mdX12_isCorner r ∧ ab_Runs ab_G2 mdX12_isCorner [.inr (.inr (.inl 0)), v0] σ (fun v τ => K (pc + 3) L (v :: r) τ)) := by
  rw [ex_invokevirtual, hM, vn12_472, ab_op_s]
  simp [ab_o1_s, ar2_0, ab_op_s, iv12_472_11, moX12_isCorner, ab_psh]
theorem dv2_12_475_0 {M : ab_M} {K : ab_K} {Rt : ab_V → ab_S → Prop} {pc n : Nat} {L : ab_L} {r : List ab_V} {σ : ab_S} {v0 v1 v2 : ab_V} (hM : ab_own M = 12) : ab_ex ab_G2 M K Rt pc n L (v2 :: v1 :: v0 :: .inr (.inr (.inl 0)) :: r) σ (.invokevirtual 475) = (n = 3 ∧ ab_rok M mdX12_isRestOf r ∧ ab_Runs ab_G2 mdX12_isRestOf [.inr (.inr (.inl 0)), v0, v1, v2] σ (fun v τ => K (pc + 3) L (v :: r) τ)) := by
  rw [ex_invokevirtual, hM, vn12_475, ab_op_s]
  simp [ab_o1_s, ar2_0, ab_op_s, iv12_475_11, moX12_isRestOf, ab_psh]
theorem dv2_12_485_0 {M : ab_M} {K : ab_K} {Rt : ab_V → ab_S → Prop} {pc n : Nat} {L : ab_L} {r : List ab_V} {σ : ab_S} {v0 v1 : ab_V} (hM : ab_own M = 12) : ab_ex ab_G2 M K Rt pc n L (v1 :: v0 :: .inr (.inr (.inl 0)) :: r) σ (.invokevirtual 485) = (n = 3 ∧ ab_rok M mdX12_answerTo r ∧ ab_Runs ab_G2 mdX12_answerTo [.inr (.inr (.inl 0)), v0, v1] σ (fun v τ => K (pc + 3) L (v :: r) τ)) := by
  rw [ex_invokevirtual, hM, vn12_485, ab_op_s]
  simp [ab_o1_s, ar2_0, ab_op_s, iv12_485_11, moX12_answerTo, ab_psh]
theorem dv2_12_494_0 {M : ab_M} {K : ab_K} {Rt : ab_V → ab_S → Prop} {pc n : Nat} {L : ab_L} {r : List ab_V} {σ : ab_S} {v0 : ab_V} (hM : ab_own M = 12) : ab_ex ab_G2 M K Rt pc n L (v0 :: .inr (.inr (.inl 0)) :: r) σ (.invokevirtual 494) = (n = 3 ∧ ab_rok M mdX12_leads r ∧ ab_Runs ab_G2 mdX12_leads [.inr (.inr (.inl 0)), v0] σ (fun v τ => K (pc + 3) L (v :: r) τ)) := by
  rw [ex_invokevirtual, hM, vn12_494, ab_op_s]
  simp [ab_o1_s, ar2_0, ab_op_s, iv12_494_11, moX12_leads, ab_psh]
theorem dv2_12_504_0 {M : ab_M} {K : ab_K} {Rt : ab_V → ab_S → Prop} {pc n : Nat} {L : ab_L} {r : List ab_V} {σ : ab_S} {v0 v1 : ab_V} (hM : ab_own M = 12) : ab_ex ab_G2 M K Rt pc n L (v1 :: v0 :: .inr (.inr (.inl 0)) :: r) σ (.invokevirtual 504) = (n = 3 ∧ ab_rok M mdX12_arePrices r ∧ ab_Runs ab_G2 mdX12_arePrices [.inr (.inr (.inl 0)), v0, v1] σ (fun v τ => K (pc + 3) L (v :: r) τ)) := by
  rw [ex_invokevirtual, hM, vn12_504, ab_op_s]
  simp [ab_o1_s, ar2_0, ab_op_s, iv12_504_11, moX12_arePrices, ab_psh]
theorem dv2_12_507_0 {M : ab_M} {K : ab_K} {Rt : ab_V → ab_S → Prop} {pc n : Nat} {L : ab_L} {r : List ab_V} {σ : ab_S} {v0 v1 : ab_V} (hM : ab_own M = 12) : ab_ex ab_G2 M K Rt pc n L (v1 :: v0 :: .inr (.inr (.inl 0)) :: r) σ (.invokevirtual 507) = (n = 3 ∧ ab_rok M mdX12_asks r ∧ ab_Runs ab_G2 mdX12_asks [.inr (.inr (.inl 0)), v0, v1] σ (fun v τ => K (pc + 3) L r τ)) := by
  rw [ex_invokevirtual, hM, vn12_507, ab_op_s]
  simp [ab_o1_s, ar2_0, ab_op_s, iv12_507_11, moX12_asks, ab_psh]
theorem dv2_12_510_0 {M : ab_M} {K : ab_K} {Rt : ab_V → ab_S → Prop} {pc n : Nat} {L : ab_L} {r : List ab_V} {σ : ab_S} {v0 : ab_V} (hM : ab_own M = 12) : ab_ex ab_G2 M K Rt pc n L (v0 :: .inr (.inr (.inl 0)) :: r) σ (.invokevirtual 510) = (n = 3 ∧ ab_rok M mdX12_pairOf r ∧ ab_Runs ab_G2 mdX12_pairOf [.inr (.inr (.inl 0)), v0] σ (fun v τ => K (pc + 3) L (v :: r) τ)) := by
  rw [ex_invokevirtual, hM, vn12_510, ab_op_s]
  simp [ab_o1_s, ar2_0, ab_op_s, iv12_510_11, moX12_pairOf, ab_psh]
theorem dv2_12_518_0 {M : ab_M} {K : ab_K} {Rt : ab_V → ab_S → Prop} {pc n : Nat} {L : ab_L} {r : List ab_V} {σ : ab_S} {v0 v1 : ab_V} (hM : ab_own M = 12) : ab_ex ab_G2 M K Rt pc n L (v1 :: v0 :: .inr (.inr (.inl 0)) :: r) σ (.invokevirtual 518) = (n = 3 ∧ ab_rok M mdX12_halves r ∧ ab_Runs ab_G2 mdX12_halves [.inr (.inr (.inl 0)), v0, v1] σ (fun v τ => K (pc + 3) L (v :: r) τ)) := by
  rw [ex_invokevirtual, hM, vn12_518, ab_op_s]
  simp [ab_o1_s, ar2_0, ab_op_s, iv12_518_11, moX12_halves, ab_psh]
theorem dv2_12_521_0 {M : ab_M} {K : ab_K} {Rt : ab_V → ab_S → Prop} {pc n : Nat} {L : ab_L} {r : List ab_V} {σ : ab_S} (hM : ab_own M = 12) : ab_ex ab_G2 M K Rt pc n L (.inr (.inr (.inl 0)) :: r) σ (.invokevirtual 521) = (n = 3 ∧ ab_rok M mdX12_walkOf r ∧ ab_Runs ab_G2 mdX12_walkOf [.inr (.inr (.inl 0))] σ (fun v τ => K (pc + 3) L (v :: r) τ)) := by
  rw [ex_invokevirtual, hM, vn12_521, ab_op_s]
  simp [ab_o1_s, ar2_0, ab_op_s, iv12_521_11, moX12_walkOf, ab_psh]
theorem dv2_12_525_0 {M : ab_M} {K : ab_K} {Rt : ab_V → ab_S → Prop} {pc n : Nat} {L : ab_L} {r : List ab_V} {σ : ab_S} {v0 v1 : ab_V} (hM : ab_own M = 12) : ab_ex ab_G2 M K Rt pc n L (v1 :: v0 :: .inr (.inr (.inl 0)) :: r) σ (.invokevirtual 525) = (n = 3 ∧ ab_rok M mdX12_walkTo r ∧ ab_Runs ab_G2 mdX12_walkTo [.inr (.inr (.inl 0)), v0, v1] σ (fun v τ => K (pc + 3) L (v :: r) τ)) := by
  rw [ex_invokevirtual, hM, vn12_525, ab_op_s]
  simp [ab_o1_s, ar2_0, ab_op_s, iv12_525_11, moX12_walkTo, ab_psh]
theorem dv2_12_535_0 {M : ab_M} {K : ab_K} {Rt : ab_V → ab_S → Prop} {pc n : Nat} {L : ab_L} {r : List ab_V} {σ : ab_S} {v0 : ab_V} (hM : ab_own M = 12) : ab_ex ab_G2 M K Rt pc n L (v0 :: .inr (.inr (.inl 0)) :: r) σ (.invokevirtual 535) = (n = 3 ∧ ab_rok M mdX12_ownOf r ∧ ab_Runs ab_G2 mdX12_ownOf [.inr (.inr (.inl 0)), v0] σ (fun v τ => K (pc + 3) L (v :: r) τ)) := by
  rw [ex_invokevirtual, hM, vn12_535, ab_op_s]
  simp [ab_o1_s, ar2_0, ab_op_s, iv12_535_11, moX12_ownOf, ab_psh]
theorem dv2_12_541_0 {M : ab_M} {K : ab_K} {Rt : ab_V → ab_S → Prop} {pc n : Nat} {L : ab_L} {r : List ab_V} {σ : ab_S} {v0 v1 : ab_V} (hM : ab_own M = 12) : ab_ex ab_G2 M K Rt pc n L (v1 :: v0 :: .inr (.inr (.inl 0)) :: r) σ (.invokevirtual 541) = (n = 3 ∧ ab_rok M mdX12_lawWalk r ∧ ab_Runs ab_G2 mdX12_lawWalk [.inr (.inr (.inl 0)), v0, v1] σ (fun v τ => K (pc + 3) L (v :: r) τ)) := by
  rw [ex_invokevirtual, hM, vn12_541, ab_op_s]
  simp [ab_o1_s, ar2_0, ab_op_s, iv12_541_11, moX12_lawWalk, ab_psh]
theorem dv2_12_544_0 {M : ab_M} {K : ab_K} {Rt : ab_V → ab_S → Prop} {pc n : Nat} {L : ab_L} {r : List ab_V} {σ : ab_S} (hM : ab_own M = 12) : ab_ex ab_G2 M K Rt pc n L (.inr (.inr (.inl 0)) :: r) σ (.invokevirtual 544) = (n = 3 ∧ ab_rok M mdX12_rest r ∧ ab_Runs ab_G2 mdX12_rest [.inr (.inr (.inl 0))] σ (fun v τ => K (pc + 3) L (v :: r) τ)) := by
  rw [ex_invokevirtual, hM, vn12_544, ab_op_s]
  simp [ab_o1_s, ar2_0, ab_op_s, iv12_544_11, moX12_rest, ab_psh]
theorem dv2_12_547_0 {M : ab_M} {K : ab_K} {Rt : ab_V → ab_S → Prop} {pc n : Nat} {L : ab_L} {r : List ab_V} {σ : ab_S} (hM : ab_own M = 12) : ab_ex ab_G2 M K Rt pc n L (.inr (.inr (.inl 0)) :: r) σ (.invokevirtual 547) = (n = 3 ∧ ab_rok M mdX12_spotsOpen r ∧ ab_Runs ab_G2 mdX12_spotsOpen [.inr (.inr (.inl 0))] σ (fun v τ => K (pc + 3) L (v :: r) τ)) := by
  rw [ex_invokevirtual, hM, vn12_547, ab_op_s]
  simp [ab_o1_s, ar2_0, ab_op_s, iv12_547_11, moX12_spotsOpen, ab_psh]
theorem dv2_12_550_0 {M : ab_M} {K : ab_K} {Rt : ab_V → ab_S → Prop} {pc n : Nat} {L : ab_L} {r : List ab_V} {σ : ab_S} (hM : ab_own M = 12) : ab_ex ab_G2 M K Rt pc n L (.inr (.inr (.inl 0)) :: r) σ (.invokevirtual 550) = (n = 3 ∧ ab_rok M mdX12_partsOpen r ∧ ab_Runs ab_G2 mdX12_partsOpen [.inr (.inr (.inl 0))] σ (fun v τ => K (pc + 3) L (v :: r) τ)) := by
  rw [ex_invokevirtual, hM, vn12_550, ab_op_s]
  simp [ab_o1_s, ar2_0, ab_op_s, iv12_550_11, moX12_partsOpen, ab_psh]
theorem ds1_125 {Γ : List ab_O} {M : ab_M} {K : ab_K} {Rt : ab_V → ab_S → Prop} {pc n : Nat} {L : ab_L} {r : List ab_V} {σ : ab_S} {v0 v1 v2 : ab_V} (hM : ab_own M = 1) : ab_ex Γ M K Rt pc n L (v2 :: v1 :: v0 :: r) σ (.invokestatic 125) = (n = 3 ∧ ab_rok M mdX11_standsStill r ∧ ab_Runs Γ mdX11_standsStill [v0, v1, v2] σ (fun v τ => K (pc + 3) L (v :: r) τ)) := by
  rw [ex_invokestatic, hM, is1_125]
  simp [moX11_standsStill, ab_psh]
theorem ds1_129 {Γ : List ab_O} {M : ab_M} {K : ab_K} {Rt : ab_V → ab_S → Prop} {pc n : Nat} {L : ab_L} {r : List ab_V} {σ : ab_S} {v0 : ab_V} (hM : ab_own M = 1) : ab_ex Γ M K Rt pc n L (v0 :: r) σ (.invokestatic 129) = (n = 3 ∧ ab_rok M mdX1_sumOf r ∧ ab_Runs Γ mdX1_sumOf [v0] σ (fun v τ => K (pc + 3) L (v :: r) τ)) := by
  rw [ex_invokestatic, hM, is1_129]
  simp [moX1_sumOf, ab_psh]
theorem ds1_133 {Γ : List ab_O} {M : ab_M} {K : ab_K} {Rt : ab_V → ab_S → Prop} {pc n : Nat} {L : ab_L} {r : List ab_V} {σ : ab_S} {v0 v1 v2 : ab_V} (hM : ab_own M = 1) : ab_ex Γ M K Rt pc n L (v2 :: v1 :: v0 :: r) σ (.invokestatic 133) = (n = 3 ∧ ab_rok M mdX1_inLowest r ∧ ab_Runs Γ mdX1_inLowest [v0, v1, v2] σ (fun v τ => K (pc + 3) L (v :: r) τ)) := by
  rw [ex_invokestatic, hM, is1_133]
  simp [moX1_inLowest, ab_psh]
theorem ds1_143 {Γ : List ab_O} {M : ab_M} {K : ab_K} {Rt : ab_V → ab_S → Prop} {pc n : Nat} {L : ab_L} {r : List ab_V} {σ : ab_S} {v0 v1 : ab_V} (hM : ab_own M = 1) : ab_ex Γ M K Rt pc n L (v1 :: v0 :: r) σ (.invokestatic 143) = (n = 3 ∧ ab_rok M mdX1_commonDivisor r ∧ ab_Runs Γ mdX1_commonDivisor [v0, v1] σ (fun v τ => K (pc + 3) L (v :: r) τ)) := by
  rw [ex_invokestatic, hM, is1_143]
  simp [moX1_commonDivisor, ab_psh]
theorem ds1_147 {Γ : List ab_O} {M : ab_M} {K : ab_K} {Rt : ab_V → ab_S → Prop} {pc n : Nat} {L : ab_L} {r : List ab_V} {σ : ab_S} {v0 v1 : ab_V} (hM : ab_own M = 1) : ab_ex Γ M K Rt pc n L (v1 :: v0 :: r) σ (.invokestatic 147) = (n = 3 ∧ ab_rok M mdJ7_fill_d0a16 r ∧ ab_Runs Γ mdJ7_fill_d0a16 [v0, v1] σ (fun v τ => K (pc + 3) L r τ)) := by
  rw [ex_invokestatic, hM, is1_147]
  simp [moJ7_fill_d0a16, ab_psh]
theorem ds3_67 {Γ : List ab_O} {M : ab_M} {K : ab_K} {Rt : ab_V → ab_S → Prop} {pc n : Nat} {L : ab_L} {r : List ab_V} {σ : ab_S} {v0 v1 : ab_V} (hM : ab_own M = 3) : ab_ex Γ M K Rt pc n L (v1 :: v0 :: r) σ (.invokestatic 67) = (n = 3 ∧ ab_rok M mdJ7_fill_53178 r ∧ ab_Runs Γ mdJ7_fill_53178 [v0, v1] σ (fun v τ => K (pc + 3) L r τ)) := by
  rw [ex_invokestatic, hM, is3_67]
  simp [moJ7_fill_53178, ab_psh]
theorem ds3_94 {Γ : List ab_O} {M : ab_M} {K : ab_K} {Rt : ab_V → ab_S → Prop} {pc n : Nat} {L : ab_L} {r : List ab_V} {σ : ab_S} {v0 : ab_V} (hM : ab_own M = 3) : ab_ex Γ M K Rt pc n L (v0 :: r) σ (.invokestatic 94) = (n = 3 ∧ ab_rok M mdJ6_bitCount_0f7a4 r ∧ ab_Runs Γ mdJ6_bitCount_0f7a4 [v0] σ (fun v τ => K (pc + 3) L (v :: r) τ)) := by
  rw [ex_invokestatic, hM, is3_94]
  simp [moJ6_bitCount_0f7a4, ab_psh]
theorem ds4_119 {Γ : List ab_O} {M : ab_M} {K : ab_K} {Rt : ab_V → ab_S → Prop} {pc n : Nat} {L : ab_L} {r : List ab_V} {σ : ab_S} {v0 v1 : ab_V} (hM : ab_own M = 4) : ab_ex Γ M K Rt pc n L (v1 :: v0 :: r) σ (.invokestatic 119) = (n = 3 ∧ ab_rok M mdX9_spotOn r ∧ ab_Runs Γ mdX9_spotOn [v0, v1] σ (fun v τ => K (pc + 3) L (v :: r) τ)) := by
  rw [ex_invokestatic, hM, is4_119]
  simp [moX9_spotOn, ab_psh]
theorem ds5_115 {Γ : List ab_O} {M : ab_M} {K : ab_K} {Rt : ab_V → ab_S → Prop} {pc n : Nat} {L : ab_L} {r : List ab_V} {σ : ab_S} {v0 v1 v2 : ab_V} (hM : ab_own M = 5) : ab_ex Γ M K Rt pc n L (v2 :: v1 :: v0 :: r) σ (.invokestatic 115) = (n = 3 ∧ ab_rok M mdX11_standsStill r ∧ ab_Runs Γ mdX11_standsStill [v0, v1, v2] σ (fun v τ => K (pc + 3) L (v :: r) τ)) := by
  rw [ex_invokestatic, hM, is5_115]
  simp [moX11_standsStill, ab_psh]
theorem ds6_77 {Γ : List ab_O} {M : ab_M} {K : ab_K} {Rt : ab_V → ab_S → Prop} {pc n : Nat} {L : ab_L} {r : List ab_V} {σ : ab_S} {v0 : ab_V} (hM : ab_own M = 6) : ab_ex Γ M K Rt pc n L (v0 :: r) σ (.invokestatic 77) = (n = 3 ∧ ab_rok M mdX6_isLetter r ∧ ab_Runs Γ mdX6_isLetter [v0] σ (fun v τ => K (pc + 3) L (v :: r) τ)) := by
  rw [ex_invokestatic, hM, is6_77]
  simp [moX6_isLetter, ab_psh]
theorem ds6_81 {Γ : List ab_O} {M : ab_M} {K : ab_K} {Rt : ab_V → ab_S → Prop} {pc n : Nat} {L : ab_L} {r : List ab_V} {σ : ab_S} {v0 : ab_V} (hM : ab_own M = 6) : ab_ex Γ M K Rt pc n L (v0 :: r) σ (.invokestatic 81) = (n = 3 ∧ ab_rok M mdX6_isDigit r ∧ ab_Runs Γ mdX6_isDigit [v0] σ (fun v τ => K (pc + 3) L (v :: r) τ)) := by
  rw [ex_invokestatic, hM, is6_81]
  simp [moX6_isDigit, ab_psh]
theorem ds7_91 {Γ : List ab_O} {M : ab_M} {K : ab_K} {Rt : ab_V → ab_S → Prop} {pc n : Nat} {L : ab_L} {r : List ab_V} {σ : ab_S} {v0 v1 : ab_V} (hM : ab_own M = 7) : ab_ex Γ M K Rt pc n L (v1 :: v0 :: r) σ (.invokestatic 91) = (n = 3 ∧ ab_rok M mdJ7_fill_53178 r ∧ ab_Runs Γ mdJ7_fill_53178 [v0, v1] σ (fun v τ => K (pc + 3) L r τ)) := by
  rw [ex_invokestatic, hM, is7_91]
  simp [moJ7_fill_53178, ab_psh]
theorem ds7_111 {Γ : List ab_O} {M : ab_M} {K : ab_K} {Rt : ab_V → ab_S → Prop} {pc n : Nat} {L : ab_L} {r : List ab_V} {σ : ab_S} {v0 : ab_V} (hM : ab_own M = 7) : ab_ex Γ M K Rt pc n L (v0 :: r) σ (.invokestatic 111) = (n = 3 ∧ ab_rok M mdX9_streetOf r ∧ ab_Runs Γ mdX9_streetOf [v0] σ (fun v τ => K (pc + 3) L (v :: r) τ)) := by
  rw [ex_invokestatic, hM, is7_111]
  simp [moX9_streetOf, ab_psh]
theorem ds7_114 {Γ : List ab_O} {M : ab_M} {K : ab_K} {Rt : ab_V → ab_S → Prop} {pc n : Nat} {L : ab_L} {r : List ab_V} {σ : ab_S} {v0 : ab_V} (hM : ab_own M = 7) : ab_ex Γ M K Rt pc n L (v0 :: r) σ (.invokestatic 114) = (n = 3 ∧ ab_rok M mdX9_placeOf r ∧ ab_Runs Γ mdX9_placeOf [v0] σ (fun v τ => K (pc + 3) L (v :: r) τ)) := by
  rw [ex_invokestatic, hM, is7_114]
  simp [moX9_placeOf, ab_psh]
theorem ds8_82 {Γ : List ab_O} {M : ab_M} {K : ab_K} {Rt : ab_V → ab_S → Prop} {pc n : Nat} {L : ab_L} {r : List ab_V} {σ : ab_S} {v0 : ab_V} (hM : ab_own M = 8) : ab_ex Γ M K Rt pc n L (v0 :: r) σ (.invokestatic 82) = (n = 3 ∧ ab_rok M mdX9_streetOf r ∧ ab_Runs Γ mdX9_streetOf [v0] σ (fun v τ => K (pc + 3) L (v :: r) τ)) := by
  rw [ex_invokestatic, hM, is8_82]
  simp [moX9_streetOf, ab_psh]
theorem ds8_85 {Γ : List ab_O} {M : ab_M} {K : ab_K} {Rt : ab_V → ab_S → Prop} {pc n : Nat} {L : ab_L} {r : List ab_V} {σ : ab_S} {v0 : ab_V} (hM : ab_own M = 8) : ab_ex Γ M K Rt pc n L (v0 :: r) σ (.invokestatic 85) = (n = 3 ∧ ab_rok M mdX9_placeOf r ∧ ab_Runs Γ mdX9_placeOf [v0] σ (fun v τ => K (pc + 3) L (v :: r) τ)) := by
  rw [ex_invokestatic, hM, is8_85]
  simp [moX9_placeOf, ab_psh]
theorem ds8_106 {Γ : List ab_O} {M : ab_M} {K : ab_K} {Rt : ab_V → ab_S → Prop} {pc n : Nat} {L : ab_L} {r : List ab_V} {σ : ab_S} {v0 v1 : ab_V} (hM : ab_own M = 8) : ab_ex Γ M K Rt pc n L (v1 :: v0 :: r) σ (.invokestatic 106) = (n = 3 ∧ ab_rok M mdJ7_fill_53178 r ∧ ab_Runs Γ mdJ7_fill_53178 [v0, v1] σ (fun v τ => K (pc + 3) L r τ)) := by
  rw [ex_invokestatic, hM, is8_106]
  simp [moJ7_fill_53178, ab_psh]
theorem ds8_113 {Γ : List ab_O} {M : ab_M} {K : ab_K} {Rt : ab_V → ab_S → Prop} {pc n : Nat} {L : ab_L} {r : List ab_V} {σ : ab_S} {v0 v1 : ab_V} (hM : ab_own M = 8) : ab_ex Γ M K Rt pc n L (v1 :: v0 :: r) σ (.invokestatic 113) = (n = 3 ∧ ab_rok M mdX8_cheaper r ∧ ab_Runs Γ mdX8_cheaper [v0, v1] σ (fun v τ => K (pc + 3) L (v :: r) τ)) := by
  rw [ex_invokestatic, hM, is8_113]
  simp [moX8_cheaper, ab_psh]
theorem ds9_58 {Γ : List ab_O} {M : ab_M} {K : ab_K} {Rt : ab_V → ab_S → Prop} {pc n : Nat} {L : ab_L} {r : List ab_V} {σ : ab_S} {v0 v1 : ab_V} (hM : ab_own M = 9) : ab_ex Γ M K Rt pc n L (v1 :: v0 :: r) σ (.invokestatic 58) = (n = 3 ∧ ab_rok M mdJ7_fill_53178 r ∧ ab_Runs Γ mdJ7_fill_53178 [v0, v1] σ (fun v τ => K (pc + 3) L r τ)) := by
  rw [ex_invokestatic, hM, is9_58]
  simp [moJ7_fill_53178, ab_psh]
theorem ds9_74 {Γ : List ab_O} {M : ab_M} {K : ab_K} {Rt : ab_V → ab_S → Prop} {pc n : Nat} {L : ab_L} {r : List ab_V} {σ : ab_S} {v0 : ab_V} (hM : ab_own M = 9) : ab_ex Γ M K Rt pc n L (v0 :: r) σ (.invokestatic 74) = (n = 3 ∧ ab_rok M mdX9_streetOf r ∧ ab_Runs Γ mdX9_streetOf [v0] σ (fun v τ => K (pc + 3) L (v :: r) τ)) := by
  rw [ex_invokestatic, hM, is9_74]
  simp [moX9_streetOf, ab_psh]
theorem ds9_78 {Γ : List ab_O} {M : ab_M} {K : ab_K} {Rt : ab_V → ab_S → Prop} {pc n : Nat} {L : ab_L} {r : List ab_V} {σ : ab_S} {v0 : ab_V} (hM : ab_own M = 9) : ab_ex Γ M K Rt pc n L (v0 :: r) σ (.invokestatic 78) = (n = 3 ∧ ab_rok M mdX9_placeOf r ∧ ab_Runs Γ mdX9_placeOf [v0] σ (fun v τ => K (pc + 3) L (v :: r) τ)) := by
  rw [ex_invokestatic, hM, is9_78]
  simp [moX9_placeOf, ab_psh]
theorem ds12_216 {Γ : List ab_O} {M : ab_M} {K : ab_K} {Rt : ab_V → ab_S → Prop} {pc n : Nat} {L : ab_L} {r : List ab_V} {σ : ab_S} {v0 v1 v2 : ab_V} (hM : ab_own M = 12) : ab_ex Γ M K Rt pc n L (v2 :: v1 :: v0 :: r) σ (.invokestatic 216) = (n = 3 ∧ ab_rok M mdX12_within r ∧ ab_Runs Γ mdX12_within [v0, v1, v2] σ (fun v τ => K (pc + 3) L (v :: r) τ)) := by
  rw [ex_invokestatic, hM, is12_216]
  simp [moX12_within, ab_psh]
theorem ds12_223 {Γ : List ab_O} {M : ab_M} {K : ab_K} {Rt : ab_V → ab_S → Prop} {pc n : Nat} {L : ab_L} {r : List ab_V} {σ : ab_S} {v0 v1 : ab_V} (hM : ab_own M = 12) : ab_ex Γ M K Rt pc n L (v1 :: v0 :: r) σ (.invokestatic 223) = (n = 3 ∧ ab_rok M mdX12_min r ∧ ab_Runs Γ mdX12_min [v0, v1] σ (fun v τ => K (pc + 3) L (v :: r) τ)) := by
  rw [ex_invokestatic, hM, is12_223]
  simp [moX12_min, ab_psh]
theorem ds12_357 {Γ : List ab_O} {M : ab_M} {K : ab_K} {Rt : ab_V → ab_S → Prop} {pc n : Nat} {L : ab_L} {r : List ab_V} {σ : ab_S} {v0 : ab_V} (hM : ab_own M = 12) : ab_ex Γ M K Rt pc n L (v0 :: r) σ (.invokestatic 357) = (n = 3 ∧ ab_rok M mdX12_streetOf r ∧ ab_Runs Γ mdX12_streetOf [v0] σ (fun v τ => K (pc + 3) L (v :: r) τ)) := by
  rw [ex_invokestatic, hM, is12_357]
  simp [moX12_streetOf, ab_psh]
theorem ds12_361 {Γ : List ab_O} {M : ab_M} {K : ab_K} {Rt : ab_V → ab_S → Prop} {pc n : Nat} {L : ab_L} {r : List ab_V} {σ : ab_S} {v0 : ab_V} (hM : ab_own M = 12) : ab_ex Γ M K Rt pc n L (v0 :: r) σ (.invokestatic 361) = (n = 3 ∧ ab_rok M mdX12_partOf r ∧ ab_Runs Γ mdX12_partOf [v0] σ (fun v τ => K (pc + 3) L (v :: r) τ)) := by
  rw [ex_invokestatic, hM, is12_361]
  simp [moX12_partOf, ab_psh]
theorem ds12_367 {Γ : List ab_O} {M : ab_M} {K : ab_K} {Rt : ab_V → ab_S → Prop} {pc n : Nat} {L : ab_L} {r : List ab_V} {σ : ab_S} {v0 : ab_V} (hM : ab_own M = 12) : ab_ex Γ M K Rt pc n L (v0 :: r) σ (.invokestatic 367) = (n = 3 ∧ ab_rok M mdX12_abs r ∧ ab_Runs Γ mdX12_abs [v0] σ (fun v τ => K (pc + 3) L (v :: r) τ)) := by
  rw [ex_invokestatic, hM, is12_367]
  simp [moX12_abs, ab_psh]
theorem ds12_454 {Γ : List ab_O} {M : ab_M} {K : ab_K} {Rt : ab_V → ab_S → Prop} {pc n : Nat} {L : ab_L} {r : List ab_V} {σ : ab_S} {v0 v1 v2 : ab_V} (hM : ab_own M = 12) : ab_ex Γ M K Rt pc n L (v2 :: v1 :: v0 :: r) σ (.invokestatic 454) = (n = 3 ∧ ab_rok M mdX12_rowOf r ∧ ab_Runs Γ mdX12_rowOf [v0, v1, v2] σ (fun v τ => K (pc + 3) L (v :: r) τ)) := by
  rw [ex_invokestatic, hM, is12_454]
  simp [moX12_rowOf, ab_psh]
theorem ds12_478 {Γ : List ab_O} {M : ab_M} {K : ab_K} {Rt : ab_V → ab_S → Prop} {pc n : Nat} {L : ab_L} {r : List ab_V} {σ : ab_S} {v0 v1 : ab_V} (hM : ab_own M = 12) : ab_ex Γ M K Rt pc n L (v1 :: v0 :: r) σ (.invokestatic 478) = (n = 3 ∧ ab_rok M mdX12_divisor r ∧ ab_Runs Γ mdX12_divisor [v0, v1] σ (fun v τ => K (pc + 3) L (v :: r) τ)) := by
  rw [ex_invokestatic, hM, is12_478]
  simp [moX12_divisor, ab_psh]
theorem dq0_34 {Γ : List ab_O} {M : ab_M} {K : ab_K} {Rt : ab_V → ab_S → Prop} {pc n : Nat} {L : ab_L} {st : List ab_V} {σ : ab_S} (hM : ab_own M = 0) : ab_ex Γ M K Rt pc n L st σ (.invokestatic 34) = (n = 3 ∧ ab_prm Γ M K pc L st σ 5) := by
  rw [ex_invokestatic, hM, is0_34]
  simp only [pr0_34, ab_op_s]
theorem dq1_137 {Γ : List ab_O} {M : ab_M} {K : ab_K} {Rt : ab_V → ab_S → Prop} {pc n : Nat} {L : ab_L} {st : List ab_V} {σ : ab_S} (hM : ab_own M = 1) : ab_ex Γ M K Rt pc n L st σ (.invokestatic 137) = (n = 3 ∧ ab_prm Γ M K pc L st σ 4) := by
  rw [ex_invokestatic, hM, is1_137]
  simp only [pr1_137, ab_op_s]
theorem dq3_85 {Γ : List ab_O} {M : ab_M} {K : ab_K} {Rt : ab_V → ab_S → Prop} {pc n : Nat} {L : ab_L} {st : List ab_V} {σ : ab_S} (hM : ab_own M = 3) : ab_ex Γ M K Rt pc n L st σ (.invokestatic 85) = (n = 3 ∧ ab_prm Γ M K pc L st σ 0) := by
  rw [ex_invokestatic, hM, is3_85]
  simp only [pr3_85, ab_op_s]
theorem dq3_91 {Γ : List ab_O} {M : ab_M} {K : ab_K} {Rt : ab_V → ab_S → Prop} {pc n : Nat} {L : ab_L} {st : List ab_V} {σ : ab_S} (hM : ab_own M = 3) : ab_ex Γ M K Rt pc n L st σ (.invokestatic 91) = (n = 3 ∧ ab_prm Γ M K pc L st σ 1) := by
  rw [ex_invokestatic, hM, is3_91]
  simp only [pr3_91, ab_op_s]
theorem dq4_165 {Γ : List ab_O} {M : ab_M} {K : ab_K} {Rt : ab_V → ab_S → Prop} {pc n : Nat} {L : ab_L} {st : List ab_V} {σ : ab_S} (hM : ab_own M = 4) : ab_ex Γ M K Rt pc n L st σ (.invokestatic 165) = (n = 3 ∧ ab_prm Γ M K pc L st σ 5) := by
  rw [ex_invokestatic, hM, is4_165]
  simp only [pr4_165, ab_op_s]
theorem dq4_178 {Γ : List ab_O} {M : ab_M} {K : ab_K} {Rt : ab_V → ab_S → Prop} {pc n : Nat} {L : ab_L} {st : List ab_V} {σ : ab_S} (hM : ab_own M = 4) : ab_ex Γ M K Rt pc n L st σ (.invokestatic 178) = (n = 3 ∧ ab_prm Γ M K pc L st σ 0) := by
  rw [ex_invokestatic, hM, is4_178]
  simp only [pr4_178, ab_op_s]
theorem dq4_186 {Γ : List ab_O} {M : ab_M} {K : ab_K} {Rt : ab_V → ab_S → Prop} {pc n : Nat} {L : ab_L} {st : List ab_V} {σ : ab_S} (hM : ab_own M = 4) : ab_ex Γ M K Rt pc n L st σ (.invokestatic 186) = (n = 3 ∧ ab_prm Γ M K pc L st σ 3) := by
  rw [ex_invokestatic, hM, is4_186]
  simp only [pr4_186, ab_op_s]
theorem dq5_89 {Γ : List ab_O} {M : ab_M} {K : ab_K} {Rt : ab_V → ab_S → Prop} {pc n : Nat} {L : ab_L} {st : List ab_V} {σ : ab_S} (hM : ab_own M = 5) : ab_ex Γ M K Rt pc n L st σ (.invokestatic 89) = (n = 3 ∧ ab_prm Γ M K pc L st σ 0) := by
  rw [ex_invokestatic, hM, is5_89]
  simp only [pr5_89, ab_op_s]
theorem dq6_68 {Γ : List ab_O} {M : ab_M} {K : ab_K} {Rt : ab_V → ab_S → Prop} {pc n : Nat} {L : ab_L} {st : List ab_V} {σ : ab_S} (hM : ab_own M = 6) : ab_ex Γ M K Rt pc n L st σ (.invokestatic 68) = (n = 3 ∧ ab_prm Γ M K pc L st σ 0) := by
  rw [ex_invokestatic, hM, is6_68]
  simp only [pr6_68, ab_op_s]
theorem dq6_177 {Γ : List ab_O} {M : ab_M} {K : ab_K} {Rt : ab_V → ab_S → Prop} {pc n : Nat} {L : ab_L} {st : List ab_V} {σ : ab_S} (hM : ab_own M = 6) : ab_ex Γ M K Rt pc n L st σ (.invokestatic 177) = (n = 3 ∧ ab_prm Γ M K pc L st σ 5) := by
  rw [ex_invokestatic, hM, is6_177]
  simp only [pr6_177, ab_op_s]
theorem dq7_117 {Γ : List ab_O} {M : ab_M} {K : ab_K} {Rt : ab_V → ab_S → Prop} {pc n : Nat} {L : ab_L} {st : List ab_V} {σ : ab_S} (hM : ab_own M = 7) : ab_ex Γ M K Rt pc n L st σ (.invokestatic 117) = (n = 3 ∧ ab_prm Γ M K pc L st σ 0) := by
  rw [ex_invokestatic, hM, is7_117]
  simp only [pr7_117, ab_op_s]
theorem dq7_123 {Γ : List ab_O} {M : ab_M} {K : ab_K} {Rt : ab_V → ab_S → Prop} {pc n : Nat} {L : ab_L} {st : List ab_V} {σ : ab_S} (hM : ab_own M = 7) : ab_ex Γ M K Rt pc n L st σ (.invokestatic 123) = (n = 3 ∧ ab_prm Γ M K pc L st σ 5) := by
  rw [ex_invokestatic, hM, is7_123]
  simp only [pr7_123, ab_op_s]
theorem dq7_136 {Γ : List ab_O} {M : ab_M} {K : ab_K} {Rt : ab_V → ab_S → Prop} {pc n : Nat} {L : ab_L} {st : List ab_V} {σ : ab_S} (hM : ab_own M = 7) : ab_ex Γ M K Rt pc n L st σ (.invokestatic 136) = (n = 3 ∧ ab_prm Γ M K pc L st σ 2) := by
  rw [ex_invokestatic, hM, is7_136]
  simp only [pr7_136, ab_op_s]
theorem dq8_97 {Γ : List ab_O} {M : ab_M} {K : ab_K} {Rt : ab_V → ab_S → Prop} {pc n : Nat} {L : ab_L} {st : List ab_V} {σ : ab_S} (hM : ab_own M = 8) : ab_ex Γ M K Rt pc n L st σ (.invokestatic 97) = (n = 3 ∧ ab_prm Γ M K pc L st σ 0) := by
  rw [ex_invokestatic, hM, is8_97]
  simp only [pr8_97, ab_op_s]
theorem dq8_103 {Γ : List ab_O} {M : ab_M} {K : ab_K} {Rt : ab_V → ab_S → Prop} {pc n : Nat} {L : ab_L} {st : List ab_V} {σ : ab_S} (hM : ab_own M = 8) : ab_ex Γ M K Rt pc n L st σ (.invokestatic 103) = (n = 3 ∧ ab_prm Γ M K pc L st σ 2) := by
  rw [ex_invokestatic, hM, is8_103]
  simp only [pr8_103, ab_op_s]
theorem dq9_64 {Γ : List ab_O} {M : ab_M} {K : ab_K} {Rt : ab_V → ab_S → Prop} {pc n : Nat} {L : ab_L} {st : List ab_V} {σ : ab_S} (hM : ab_own M = 9) : ab_ex Γ M K Rt pc n L st σ (.invokestatic 64) = (n = 3 ∧ ab_prm Γ M K pc L st σ 5) := by
  rw [ex_invokestatic, hM, is9_64]
  simp only [pr9_64, ab_op_s]
