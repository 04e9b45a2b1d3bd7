-- STEPS of the ghost machine
def ab_tg (pc : Nat) (off : Int) : Nat := ((pc : Int) + off).toNat
def ab_ar (Γ : List ab_O) (o : Nat) : Option (Nat × Nat) := (Γ[o]?).map (fun d => (d.1, d.2.1))
def ab_gt (Γ : List ab_O) (own idx o : Nat) : Option (Nat ⊕ Int ⊕ Int) := match Γ[o]? with
  | none => none
  | some d => match ab_fx own idx d.1 with
    | none => none
    | some k => if k < d.2.1 then some (match d.2.2.getD k none with
        | some q => .inl q
        | none => if ab_ty d.1 k = .long then .inr (.inr (k : Int)) else .inr (.inl (k : Int))) else none
def ab_gv (σ : ab_S) (o : Nat) : Nat ⊕ Int ⊕ Int → ab_V
  | .inl q => .inr (.inr (.inl q))
  | .inr (.inl k) => .inl (σ o k)
  | .inr (.inr k) => .inr (.inl (σ o k))
def ab_pt (Γ : List ab_O) (own idx o : Nat) : Option (Int × Nat) := match Γ[o]? with
  | none => none
  | some d => match ab_fx own idx d.1, vwCl[d.1]? with
    | some k, some q => if k < d.2.1 ∧ (q.2.1 k).2.2.2 = false ∧ d.2.2.getD k none = none then (match ab_ty d.1 k with
        | .int => some ((k : Int), 0)
        | .long => some ((k : Int), 1)
        | .boolean => some ((k : Int), 2)
        | _ => none) else none
    | _, _ => none
def ab_ks (own idx : Nat) : Option Nat := if own = 6 then (List.range 14).find? (fun i => ab_sx.getD i 0 == idx) else none
theorem ab_ks_ok {own idx i : Nat} (h : ab_ks own idx = some i) : own = 6 ∧ i < 14 ∧ ab_sx.getD i 0 = idx := by
  unfold ab_ks at h
  split at h
  · rename_i ho
    have h1 := List.find?_some h
    have h2 := List.mem_of_find?_eq_some h
    exact ⟨ho, List.mem_range.mp h2, by simpa using h1⟩
  · cases h
def ab_vn (own idx : Nat) : Option Nat := (ab_ivs.find? (fun r => r.1 == own && r.2.1 == idx)).map (fun r => ab_na r.2.2.2.1 - 1)
def ab_psh (M : ab_M) (v : ab_V) (r : List ab_V) : List ab_V := match ab_rt M with
  | none => r
  | some _ => v :: r
def ab_wsum (r : List ab_V) : Nat := (r.map ab_cat).sum
def ab_f2 (v : Fin 2) : Int := (v.val : Int)
theorem ab_f2_0 : ab_f2 0 = 0 := rfl
theorem ab_f2_1 : ab_f2 1 = 1 := rfl
def ab_f4 (v : Fin 4) : Nat := v.val
theorem ab_f4_0 : ab_f4 0 = 0 := rfl
theorem ab_f4_1 : ab_f4 1 = 1 := rfl
theorem ab_f4_2 : ab_f4 2 = 2 := rfl
theorem ab_f4_3 : ab_f4 3 = 3 := rfl
def ab_lk (L : ab_L) (i : Nat) : Option ab_V := (L[i]?).join
theorem ab_lk_ok {L : ab_L} {i : Nat} {v : ab_V} (h : ab_lk L i = some v) : L[i]? = some (some v) := by
  unfold ab_lk at h
  cases hq : L[i]? with
  | none => rw [hq] at h; cases h
  | some w => rw [hq] at h; cases w with
    | none => cases h
    | some u => cases h; rfl
def ab_cl (a : Option ab_V) : Option ab_V := match a with
  | some (.inr (.inl _)) => none
  | a => a
theorem ab_cl_n : ab_cl none = none := rfl
theorem ab_cl_i (x : Int) : ab_cl (some (.inl x)) = some (.inl x) := rfl
theorem ab_cl_l (x : Int) : ab_cl (some (.inr (.inl x))) = none := rfl
theorem ab_cl_r (x : Nat ⊕ Nat) : ab_cl (some (.inr (.inr x))) = some (.inr (.inr x)) := rfl
theorem lk_0 (a0 : Option ab_V) (t : ab_L) : ab_lk (a0 :: t) 0 = a0 := by cases a0 <;> rfl
theorem lk_1 (a0 a1 : Option ab_V) (t : ab_L) : ab_lk (a0 :: a1 :: t) 1 = a1 := by cases a1 <;> rfl
theorem lk_2 (a0 a1 a2 : Option ab_V) (t : ab_L) : ab_lk (a0 :: a1 :: a2 :: t) 2 = a2 := by cases a2 <;> rfl
theorem lk_3 (a0 a1 a2 a3 : Option ab_V) (t : ab_L) : ab_lk (a0 :: a1 :: a2 :: a3 :: t) 3 = a3 := by cases a3 <;> rfl
theorem lk_4 (a0 a1 a2 a3 a4 : Option ab_V) (t : ab_L) : ab_lk (a0 :: a1 :: a2 :: a3 :: a4 :: t) 4 = a4 := by cases a4 <;> rfl
theorem lk_5 (a0 a1 a2 a3 a4 a5 : Option ab_V) (t : ab_L) : ab_lk (a0 :: a1 :: a2 :: a3 :: a4 :: a5 :: t) 5 = a5 := by cases a5 <;> rfl
theorem lk_6 (a0 a1 a2 a3 a4 a5 a6 : Option ab_V) (t : ab_L) : ab_lk (a0 :: a1 :: a2 :: a3 :: a4 :: a5 :: a6 :: t) 6 = a6 := by cases a6 <;> rfl
theorem lk_7 (a0 a1 a2 a3 a4 a5 a6 a7 : Option ab_V) (t : ab_L) : ab_lk (a0 :: a1 :: a2 :: a3 :: a4 :: a5 :: a6 :: a7 :: t) 7 = a7 := by cases a7 <;> rfl
theorem lk_8 (a0 a1 a2 a3 a4 a5 a6 a7 a8 : Option ab_V) (t : ab_L) : ab_lk (a0 :: a1 :: a2 :: a3 :: a4 :: a5 :: a6 :: a7 :: a8 :: t) 8 = a8 := by cases a8 <;> rfl
theorem lk_9 (a0 a1 a2 a3 a4 a5 a6 a7 a8 a9 : Option ab_V) (t : ab_L) : ab_lk (a0 :: a1 :: a2 :: a3 :: a4 :: a5 :: a6 :: a7 :: a8 :: a9 :: t) 9 = a9 := by cases a9 <;> rfl
theorem lk_10 (a0 a1 a2 a3 a4 a5 a6 a7 a8 a9 a10 : Option ab_V) (t : ab_L) : ab_lk (a0 :: a1 :: a2 :: a3 :: a4 :: a5 :: a6 :: a7 :: a8 :: a9 :: a10 :: t) 10 = a10 := by cases a10 <;> rfl
theorem lk_11 (a0 a1 a2 a3 a4 a5 a6 a7 a8 a9 a10 a11 : Option ab_V) (t : ab_L) : ab_lk (a0 :: a1 :: a2 :: a3 :: a4 :: a5 :: a6 :: a7 :: a8 :: a9 :: a10 :: a11 :: t) 11 = a11 := by cases a11 <;> rfl
theorem lk_12 (a0 a1 a2 a3 a4 a5 a6 a7 a8 a9 a10 a11 a12 : Option ab_V) (t : ab_L) : ab_lk (a0 :: a1 :: a2 :: a3 :: a4 :: a5 :: a6 :: a7 :: a8 :: a9 :: a10 :: a11 :: a12 :: t) 12 = a12 := by cases a12 <;> rfl
theorem lk_13 (a0 a1 a2 a3 a4 a5 a6 a7 a8 a9 a10 a11 a12 a13 : Option ab_V) (t : ab_L) : ab_lk (a0 :: a1 :: a2 :: a3 :: a4 :: a5 :: a6 :: a7 :: a8 :: a9 :: a10 :: a11 :: a12 :: a13 :: t) 13 = a13 := by cases a13 <;> rfl
theorem lk_14 (a0 a1 a2 a3 a4 a5 a6 a7 a8 a9 a10 a11 a12 a13 a14 : Option ab_V) (t : ab_L) : ab_lk (a0 :: a1 :: a2 :: a3 :: a4 :: a5 :: a6 :: a7 :: a8 :: a9 :: a10 :: a11 :: a12 :: a13 :: a14 :: t) 14 = a14 := by cases a14 <;> rfl
theorem lk_15 (a0 a1 a2 a3 a4 a5 a6 a7 a8 a9 a10 a11 a12 a13 a14 a15 : Option ab_V) (t : ab_L) : ab_lk (a0 :: a1 :: a2 :: a3 :: a4 :: a5 :: a6 :: a7 :: a8 :: a9 :: a10 :: a11 :: a12 :: a13 :: a14 :: a15 :: t) 15 = a15 := by cases a15 <;> rfl
theorem st1_0 (a0 : Option ab_V) (t : ab_L) (v : ab_V) : ab_st1 (a0 :: t) 0 v = some v :: t := rfl
theorem st1_1 (a0 a1 : Option ab_V) (t : ab_L) (v : ab_V) : ab_st1 (a0 :: a1 :: t) 1 v = ab_cl a0 :: some v :: t := by rcases a0 with _ | x | x | x | x <;> rfl
theorem st1_2 (a0 a1 a2 : Option ab_V) (t : ab_L) (v : ab_V) : ab_st1 (a0 :: a1 :: a2 :: t) 2 v = a0 :: ab_cl a1 :: some v :: t := by rcases a1 with _ | x | x | x | x <;> rfl
theorem st1_3 (a0 a1 a2 a3 : Option ab_V) (t : ab_L) (v : ab_V) : ab_st1 (a0 :: a1 :: a2 :: a3 :: t) 3 v = a0 :: a1 :: ab_cl a2 :: some v :: t := by rcases a2 with _ | x | x | x | x <;> rfl
theorem st1_4 (a0 a1 a2 a3 a4 : Option ab_V) (t : ab_L) (v : ab_V) : ab_st1 (a0 :: a1 :: a2 :: a3 :: a4 :: t) 4 v = a0 :: a1 :: a2 :: ab_cl a3 :: some v :: t := by rcases a3 with _ | x | x | x | x <;> rfl
theorem st1_5 (a0 a1 a2 a3 a4 a5 : Option ab_V) (t : ab_L) (v : ab_V) : ab_st1 (a0 :: a1 :: a2 :: a3 :: a4 :: a5 :: t) 5 v = a0 :: a1 :: a2 :: a3 :: ab_cl a4 :: some v :: t := by rcases a4 with _ | x | x | x | x <;> rfl
theorem st1_6 (a0 a1 a2 a3 a4 a5 a6 : Option ab_V) (t : ab_L) (v : ab_V) : ab_st1 (a0 :: a1 :: a2 :: a3 :: a4 :: a5 :: a6 :: t) 6 v = a0 :: a1 :: a2 :: a3 :: a4 :: ab_cl a5 :: some v :: t := by rcases a5 with _ | x | x | x | x <;> rfl
theorem st1_7 (a0 a1 a2 a3 a4 a5 a6 a7 : Option ab_V) (t : ab_L) (v : ab_V) : ab_st1 (a0 :: a1 :: a2 :: a3 :: a4 :: a5 :: a6 :: a7 :: t) 7 v = a0 :: a1 :: a2 :: a3 :: a4 :: a5 :: ab_cl a6 :: some v :: t := by rcases a6 with _ | x | x | x | x <;> rfl
theorem st1_8 (a0 a1 a2 a3 a4 a5 a6 a7 a8 : Option ab_V) (t : ab_L) (v : ab_V) : ab_st1 (a0 :: a1 :: a2 :: a3 :: a4 :: a5 :: a6 :: a7 :: a8 :: t) 8 v = a0 :: a1 :: a2 :: a3 :: a4 :: a5 :: a6 :: ab_cl a7 :: some v :: t := by rcases a7 with _ | x | x | x | x <;> rfl
theorem st1_9 (a0 a1 a2 a3 a4 a5 a6 a7 a8 a9 : Option ab_V) (t : ab_L) (v : ab_V) : ab_st1 (a0 :: a1 :: a2 :: a3 :: a4 :: a5 :: a6 :: a7 :: a8 :: a9 :: t) 9 v = a0 :: a1 :: a2 :: a3 :: a4 :: a5 :: a6 :: a7 :: ab_cl a8 :: some v :: t := by rcases a8 with _ | x | x | x | x <;> rfl
theorem st1_10 (a0 a1 a2 a3 a4 a5 a6 a7 a8 a9 a10 : Option ab_V) (t : ab_L) (v : ab_V) : ab_st1 (a0 :: a1 :: a2 :: a3 :: a4 :: a5 :: a6 :: a7 :: a8 :: a9 :: a10 :: t) 10 v = a0 :: a1 :: a2 :: a3 :: a4 :: a5 :: a6 :: a7 :: a8 :: ab_cl a9 :: some v :: t := by rcases a9 with _ | x | x | x | x <;> rfl
theorem st1_11 (a0 a1 a2 a3 a4 a5 a6 a7 a8 a9 a10 a11 : Option ab_V) (t : ab_L) (v : ab_V) : ab_st1 (a0 :: a1 :: a2 :: a3 :: a4 :: a5 :: a6 :: a7 :: a8 :: a9 :: a10 :: a11 :: t) 11 v = a0 :: a1 :: a2 :: a3 :: a4 :: a5 :: a6 :: a7 :: a8 :: a9 :: ab_cl a10 :: some v :: t := by rcases a10 with _ | x | x | x | x <;> rfl
theorem st1_12 (a0 a1 a2 a3 a4 a5 a6 a7 a8 a9 a10 a11 a12 : Option ab_V) (t : ab_L) (v : ab_V) : ab_st1 (a0 :: a1 :: a2 :: a3 :: a4 :: a5 :: a6 :: a7 :: a8 :: a9 :: a10 :: a11 :: a12 :: t) 12 v = a0 :: a1 :: a2 :: a3 :: a4 :: a5 :: a6 :: a7 :: a8 :: a9 :: a10 :: ab_cl a11 :: some v :: t := by rcases a11 with _ | x | x | x | x <;> rfl
theorem st1_13 (a0 a1 a2 a3 a4 a5 a6 a7 a8 a9 a10 a11 a12 a13 : Option ab_V) (t : ab_L) (v : ab_V) : ab_st1 (a0 :: a1 :: a2 :: a3 :: a4 :: a5 :: a6 :: a7 :: a8 :: a9 :: a10 :: a11 :: a12 :: a13 :: t) 13 v = a0 :: a1 :: a2 :: a3 :: a4 :: a5 :: a6 :: a7 :: a8 :: a9 :: a10 :: a11 :: ab_cl a12 :: some v :: t := by rcases a12 with _ | x | x | x | x <;> rfl
theorem st1_14 (a0 a1 a2 a3 a4 a5 a6 a7 a8 a9 a10 a11 a12 a13 a14 : Option ab_V) (t : ab_L) (v : ab_V) : ab_st1 (a0 :: a1 :: a2 :: a3 :: a4 :: a5 :: a6 :: a7 :: a8 :: a9 :: a10 :: a11 :: a12 :: a13 :: a14 :: t) 14 v = a0 :: a1 :: a2 :: a3 :: a4 :: a5 :: a6 :: a7 :: a8 :: a9 :: a10 :: a11 :: a12 :: ab_cl a13 :: some v :: t := by rcases a13 with _ | x | x | x | x <;> rfl
theorem st1_15 (a0 a1 a2 a3 a4 a5 a6 a7 a8 a9 a10 a11 a12 a13 a14 a15 : Option ab_V) (t : ab_L) (v : ab_V) : ab_st1 (a0 :: a1 :: a2 :: a3 :: a4 :: a5 :: a6 :: a7 :: a8 :: a9 :: a10 :: a11 :: a12 :: a13 :: a14 :: a15 :: t) 15 v = a0 :: a1 :: a2 :: a3 :: a4 :: a5 :: a6 :: a7 :: a8 :: a9 :: a10 :: a11 :: a12 :: a13 :: ab_cl a14 :: some v :: t := by rcases a14 with _ | x | x | x | x <;> rfl
theorem st2_0 (a0 a1 : Option ab_V) (t : ab_L) (v : ab_V) : ab_st2 (a0 :: a1 :: t) 0 v = some v :: none :: t := rfl
theorem st2_1 (a0 a1 a2 : Option ab_V) (t : ab_L) (v : ab_V) : ab_st2 (a0 :: a1 :: a2 :: t) 1 v = ab_cl a0 :: some v :: none :: t := by rcases a0 with _ | x | x | x | x <;> rfl
theorem st2_2 (a0 a1 a2 a3 : Option ab_V) (t : ab_L) (v : ab_V) : ab_st2 (a0 :: a1 :: a2 :: a3 :: t) 2 v = a0 :: ab_cl a1 :: some v :: none :: t := by rcases a1 with _ | x | x | x | x <;> rfl
theorem st2_3 (a0 a1 a2 a3 a4 : Option ab_V) (t : ab_L) (v : ab_V) : ab_st2 (a0 :: a1 :: a2 :: a3 :: a4 :: t) 3 v = a0 :: a1 :: ab_cl a2 :: some v :: none :: t := by rcases a2 with _ | x | x | x | x <;> rfl
theorem st2_4 (a0 a1 a2 a3 a4 a5 : Option ab_V) (t : ab_L) (v : ab_V) : ab_st2 (a0 :: a1 :: a2 :: a3 :: a4 :: a5 :: t) 4 v = a0 :: a1 :: a2 :: ab_cl a3 :: some v :: none :: t := by rcases a3 with _ | x | x | x | x <;> rfl
theorem st2_5 (a0 a1 a2 a3 a4 a5 a6 : Option ab_V) (t : ab_L) (v : ab_V) : ab_st2 (a0 :: a1 :: a2 :: a3 :: a4 :: a5 :: a6 :: t) 5 v = a0 :: a1 :: a2 :: a3 :: ab_cl a4 :: some v :: none :: t := by rcases a4 with _ | x | x | x | x <;> rfl
theorem st2_6 (a0 a1 a2 a3 a4 a5 a6 a7 : Option ab_V) (t : ab_L) (v : ab_V) : ab_st2 (a0 :: a1 :: a2 :: a3 :: a4 :: a5 :: a6 :: a7 :: t) 6 v = a0 :: a1 :: a2 :: a3 :: a4 :: ab_cl a5 :: some v :: none :: t := by rcases a5 with _ | x | x | x | x <;> rfl
theorem st2_7 (a0 a1 a2 a3 a4 a5 a6 a7 a8 : Option ab_V) (t : ab_L) (v : ab_V) : ab_st2 (a0 :: a1 :: a2 :: a3 :: a4 :: a5 :: a6 :: a7 :: a8 :: t) 7 v = a0 :: a1 :: a2 :: a3 :: a4 :: a5 :: ab_cl a6 :: some v :: none :: t := by rcases a6 with _ | x | x | x | x <;> rfl
theorem st2_8 (a0 a1 a2 a3 a4 a5 a6 a7 a8 a9 : Option ab_V) (t : ab_L) (v : ab_V) : ab_st2 (a0 :: a1 :: a2 :: a3 :: a4 :: a5 :: a6 :: a7 :: a8 :: a9 :: t) 8 v = a0 :: a1 :: a2 :: a3 :: a4 :: a5 :: a6 :: ab_cl a7 :: some v :: none :: t := by rcases a7 with _ | x | x | x | x <;> rfl
theorem st2_9 (a0 a1 a2 a3 a4 a5 a6 a7 a8 a9 a10 : Option ab_V) (t : ab_L) (v : ab_V) : ab_st2 (a0 :: a1 :: a2 :: a3 :: a4 :: a5 :: a6 :: a7 :: a8 :: a9 :: a10 :: t) 9 v = a0 :: a1 :: a2 :: a3 :: a4 :: a5 :: a6 :: a7 :: ab_cl a8 :: some v :: none :: t := by rcases a8 with _ | x | x | x | x <;> rfl
theorem st2_10 (a0 a1 a2 a3 a4 a5 a6 a7 a8 a9 a10 a11 : Option ab_V) (t : ab_L) (v : ab_V) : ab_st2 (a0 :: a1 :: a2 :: a3 :: a4 :: a5 :: a6 :: a7 :: a8 :: a9 :: a10 :: a11 :: t) 10 v = a0 :: a1 :: a2 :: a3 :: a4 :: a5 :: a6 :: a7 :: a8 :: ab_cl a9 :: some v :: none :: t := by rcases a9 with _ | x | x | x | x <;> rfl
theorem st2_11 (a0 a1 a2 a3 a4 a5 a6 a7 a8 a9 a10 a11 a12 : Option ab_V) (t : ab_L) (v : ab_V) : ab_st2 (a0 :: a1 :: a2 :: a3 :: a4 :: a5 :: a6 :: a7 :: a8 :: a9 :: a10 :: a11 :: a12 :: t) 11 v = a0 :: a1 :: a2 :: a3 :: a4 :: a5 :: a6 :: a7 :: a8 :: a9 :: ab_cl a10 :: some v :: none :: t := by rcases a10 with _ | x | x | x | x <;> rfl
theorem st2_12 (a0 a1 a2 a3 a4 a5 a6 a7 a8 a9 a10 a11 a12 a13 : Option ab_V) (t : ab_L) (v : ab_V) : ab_st2 (a0 :: a1 :: a2 :: a3 :: a4 :: a5 :: a6 :: a7 :: a8 :: a9 :: a10 :: a11 :: a12 :: a13 :: t) 12 v = a0 :: a1 :: a2 :: a3 :: a4 :: a5 :: a6 :: a7 :: a8 :: a9 :: a10 :: ab_cl a11 :: some v :: none :: t := by rcases a11 with _ | x | x | x | x <;> rfl
theorem st2_13 (a0 a1 a2 a3 a4 a5 a6 a7 a8 a9 a10 a11 a12 a13 a14 : Option ab_V) (t : ab_L) (v : ab_V) : ab_st2 (a0 :: a1 :: a2 :: a3 :: a4 :: a5 :: a6 :: a7 :: a8 :: a9 :: a10 :: a11 :: a12 :: a13 :: a14 :: t) 13 v = a0 :: a1 :: a2 :: a3 :: a4 :: a5 :: a6 :: a7 :: a8 :: a9 :: a10 :: a11 :: ab_cl a12 :: some v :: none :: t := by rcases a12 with _ | x | x | x | x <;> rfl
theorem st2_14 (a0 a1 a2 a3 a4 a5 a6 a7 a8 a9 a10 a11 a12 a13 a14 a15 : Option ab_V) (t : ab_L) (v : ab_V) : ab_st2 (a0 :: a1 :: a2 :: a3 :: a4 :: a5 :: a6 :: a7 :: a8 :: a9 :: a10 :: a11 :: a12 :: a13 :: a14 :: a15 :: t) 14 v = a0 :: a1 :: a2 :: a3 :: a4 :: a5 :: a6 :: a7 :: a8 :: a9 :: a10 :: a11 :: a12 :: ab_cl a13 :: some v :: none :: t := by rcases a13 with _ | x | x | x | x <;> rfl
def ab_in : Nat → List Nat → Bool
  | _, [] => false
  | x, y :: t => (x == y) || ab_in x t
-- numbers that go through the machine's own words
def ab_and (x y : Int) : Int := (Int32.ofInt x &&& Int32.ofInt y).toInt
def ab_or (x y : Int) : Int := (Int32.ofInt x ||| Int32.ofInt y).toInt
def ab_xor (x y : Int) : Int := (Int32.ofInt x ^^^ Int32.ofInt y).toInt
def ab_shl (x y : Int) : Int := (Int32.ofInt x <<< (Int32.ofInt y &&& 31)).toInt
def ab_shr (x y : Int) : Int := (Int32.ofInt x >>> (Int32.ofInt y &&& 31)).toInt
def ab_ushr (x y : Int) : Int := ((Int32.ofInt x).toUInt32 >>> ((Int32.ofInt y).toUInt32 &&& Int32.toUInt32 31)).toInt32.toInt
def ab_i2b (x : Int) : Int := (Int32.ofInt x).toInt8.toInt32.toInt
def ab_orL (x y : Int) : Int := (Int64.ofInt x ||| Int64.ofInt y).toInt
def ab_shlL (x y : Int) : Int := (Int64.ofInt x <<< ((Int32.ofInt y).toInt64 &&& 63)).toInt
def ab_cmp (x y : Int) : Int := if y < x then 1 else if x = y then 0 else -1
def ab_cpy (σ : ab_S) (o0 : Nat) (sp : Int) (o1 : Nat) (dp n : Int) : ab_S := fun o k => if o = o1 then (if dp ≤ k ∧ k < dp + n then σ o0 (sp + (k - dp)) else σ o1 k) else σ o k
-- shapes of the operand stack
def ab_b1 (st : List ab_V) (f : Int → List ab_V → Prop) : Prop := match st with
  | .inl x :: r => f x r
  | _ => False
def ab_b2 (st : List ab_V) (f : Int → Int → List ab_V → Prop) : Prop := match st with
  | .inl y :: .inl x :: r => f x y r
  | _ => False
def ab_l1 (st : List ab_V) (f : Int → List ab_V → Prop) : Prop := match st with
  | .inr (.inl x) :: r => f x r
  | _ => False
def ab_l2 (st : List ab_V) (f : Int → Int → List ab_V → Prop) : Prop := match st with
  | .inr (.inl y) :: .inr (.inl x) :: r => f x y r
  | _ => False
def ab_li (st : List ab_V) (f : Int → Int → List ab_V → Prop) : Prop := match st with
  | .inl y :: .inr (.inl x) :: r => f x y r
  | _ => False
def ab_o1 (st : List ab_V) (f : Nat → List ab_V → Prop) : Prop := match st with
  | .inr (.inr (.inl o)) :: r => f o r
  | _ => False
def ab_io (st : List ab_V) (f : Nat → Int → List ab_V → Prop) : Prop := match st with
  | .inl i :: .inr (.inr (.inl o)) :: r => f o i r
  | _ => False
def ab_lo1 (st : List ab_V) (f : Nat → Int → List ab_V → Prop) : Prop := match st with
  | .inr (.inl i) :: .inr (.inr (.inl o)) :: r => f o i r
  | _ => False
def ab_iio (st : List ab_V) (f : Nat → Int → Int → List ab_V → Prop) : Prop := match st with
  | .inl x :: .inl i :: .inr (.inr (.inl o)) :: r => f o i x r
  | _ => False
def ab_lio (st : List ab_V) (f : Nat → Int → Int → List ab_V → Prop) : Prop := match st with
  | .inr (.inl x) :: .inl i :: .inr (.inr (.inl o)) :: r => f o i x r
  | _ => False
def ab_cp5 (st : List ab_V) (f : Nat → Int → Nat → Int → Int → List ab_V → Prop) : Prop := match st with
  | .inl n :: .inl dp :: .inr (.inr (.inl o1)) :: .inl sp :: .inr (.inr (.inl o0)) :: r => f o0 sp o1 dp n r
  | _ => False
def ab_d2 (st : List ab_V) (f : List ab_V → Prop) : Prop := match st with
  | .inr (.inl x) :: r => f (.inr (.inl x) :: .inr (.inl x) :: r)
  | .inl y :: .inl x :: r => f (.inl y :: .inl x :: .inl y :: .inl x :: r)
  | .inl y :: .inr (.inr x) :: r => f (.inl y :: .inr (.inr x) :: .inl y :: .inr (.inr x) :: r)
  | _ => False
def ab_gI (v : Option ab_V) (f : Int → Prop) : Prop := match v with
  | some (.inl x) => f x
  | _ => False
def ab_gL (v : Option ab_V) (f : Int → Prop) : Prop := match v with
  | some (.inr (.inl x)) => f x
  | _ => False
def ab_gR (v : Option ab_V) (f : Nat ⊕ Nat → Prop) : Prop := match v with
  | some (.inr (.inr x)) => f x
  | _ => False
def ab_op {α : Type} (v : Option α) (f : α → Prop) : Prop := match v with
  | some x => f x
  | none => False
theorem ab_op_s {α : Type} (x : α) (f : α → Prop) : ab_op (some x) f = f x := rfl
theorem ab_gI_s (x : Int) (f : Int → Prop) : ab_gI (some (.inl x)) f = f x := rfl
theorem ab_gL_s (x : Int) (f : Int → Prop) : ab_gL (some (.inr (.inl x))) f = f x := rfl
theorem ab_gR_s (x : Nat ⊕ Nat) (f : Nat ⊕ Nat → Prop) : ab_gR (some (.inr (.inr x))) f = f x := rfl
theorem ab_b1_s (x : Int) (r : List ab_V) (f : Int → List ab_V → Prop) : ab_b1 (.inl x :: r) f = f x r := rfl
theorem ab_b2_s (x y : Int) (r : List ab_V) (f : Int → Int → List ab_V → Prop) : ab_b2 (.inl y :: .inl x :: r) f = f x y r := rfl
theorem ab_l1_s (x : Int) (r : List ab_V) (f : Int → List ab_V → Prop) : ab_l1 (.inr (.inl x) :: r) f = f x r := rfl
theorem ab_l2_s (x y : Int) (r : List ab_V) (f : Int → Int → List ab_V → Prop) : ab_l2 (.inr (.inl y) :: .inr (.inl x) :: r) f = f x y r := rfl
theorem ab_li_s (x y : Int) (r : List ab_V) (f : Int → Int → List ab_V → Prop) : ab_li (.inl y :: .inr (.inl x) :: r) f = f x y r := rfl
theorem ab_o1_s (o : Nat) (r : List ab_V) (f : Nat → List ab_V → Prop) : ab_o1 (.inr (.inr (.inl o)) :: r) f = f o r := rfl
theorem ab_io_s (o : Nat) (i : Int) (r : List ab_V) (f : Nat → Int → List ab_V → Prop) : ab_io (.inl i :: .inr (.inr (.inl o)) :: r) f = f o i r := rfl
theorem ab_lo1_s (o : Nat) (i : Int) (r : List ab_V) (f : Nat → Int → List ab_V → Prop) : ab_lo1 (.inr (.inl i) :: .inr (.inr (.inl o)) :: r) f = f o i r := rfl
theorem ab_iio_s (o : Nat) (i x : Int) (r : List ab_V) (f : Nat → Int → Int → List ab_V → Prop) : ab_iio (.inl x :: .inl i :: .inr (.inr (.inl o)) :: r) f = f o i x r := rfl
theorem ab_lio_s (o : Nat) (i x : Int) (r : List ab_V) (f : Nat → Int → Int → List ab_V → Prop) : ab_lio (.inr (.inl x) :: .inl i :: .inr (.inr (.inl o)) :: r) f = f o i x r := rfl
theorem ab_cp5_s (o0 o1 : Nat) (sp dp n : Int) (r : List ab_V) (f : Nat → Int → Nat → Int → Int → List ab_V → Prop) : ab_cp5 (.inl n :: .inl dp :: .inr (.inr (.inl o1)) :: .inl sp :: .inr (.inr (.inl o0)) :: r) f = f o0 sp o1 dp n r := rfl
theorem ab_d2_l (x : Int) (r : List ab_V) (f : List ab_V → Prop) : ab_d2 (.inr (.inl x) :: r) f = f (.inr (.inl x) :: .inr (.inl x) :: r) := rfl
theorem ab_d2_i (x y : Int) (r : List ab_V) (f : List ab_V → Prop) : ab_d2 (.inl y :: .inl x :: r) f = f (.inl y :: .inl x :: .inl y :: .inl x :: r) := rfl
theorem ab_d2_o (y : Int) (x : Nat ⊕ Nat) (r : List ab_V) (f : List ab_V → Prop) : ab_d2 (.inl y :: .inr (.inr x) :: r) f = f (.inl y :: .inr (.inr x) :: .inl y :: .inr (.inr x) :: r) := rfl
def ab_cd (c : ClassFile.Cond) (x y : Int) : Prop := match c with
  | .eq => x = y
  | .ne => ¬ x = y
  | .lt => x < y
  | .ge => y ≤ x
  | .gt => y < x
  | .le => x ≤ y
def ab_sw (K : Nat → Prop) (pc : Nat) (x : Int) : Int → List Int → Prop
  | _, [] => True
  | i, off :: t => (x = i → 0 ≤ (pc : Int) + off ∧ K (ab_tg pc off)) ∧ ab_sw K pc x (i + 1) t
-- A METHOD'S RUN
def ab_B (Γ : List ab_O) (D : va_G) (cs : Nat → ClassId) (ad : Nat → Nat) (u : ab_S) (t : State) : Prop := va_P D vwCl (ab_w Γ cs ad u) t.heap ∧ va_K D vwCl (ab_tys cs) t
def ab_Q (M : ab_M) (K : ab_V → ab_S → Prop) (B : ab_S → State → Prop) (A : Nat → Prop) : Array Value → State → Outcome → State → Prop := match ab_rt M with
  | none => va_Qv (fun u => K (.inl 0) u) B A
  | some .long => va_Ql (fun r u => ∃ x, r = Int64.ofInt x ∧ K (.inr (.inl x)) u) B A
  | some _ => va_Qi (fun r u => ∃ x, r = Int32.ofInt x ∧ K (.inl x) u) B A
def ab_Pc (Γ : List ab_O) (D : va_G) (cs : Nat → ClassId) (ad kd : Nat → Nat) (σ : ab_S) (sz : Nat) (U : State) : Prop := U.heap.size = sz ∧ va_P D vwCl (ab_w Γ cs ad σ) U.heap ∧ va_K D vwCl (ab_tys cs) U ∧ va_D (fun _ => True) (ab_w Γ cs ad σ) ∧ ab_E kd (va_A (ab_w Γ cs ad σ) sz) U U.heap
def ab_Runs (Γ : List ab_O) (M : ab_M) (vs : List ab_V) (σ : ab_S) (K : ab_V → ab_S → Prop) : Prop := Cond.code (ab_y M) (ab_cc M) (ab_ml M) (ab_rt M) ∈ ab_TG ∧ ∀ (l : Launch) (D : va_G) (cs : Nat → ClassId) (ad kd : Nat → Nat) (sz : Nat), Met l (ab_y M) (ab_ws M) (ab_rm M) (va_Pc (vs.map (ab_d ad kd)) (ab_Pc Γ D cs ad kd σ sz)) (ab_Q M K (ab_B Γ D cs ad) (va_A (ab_w Γ cs ad σ) sz)) 0 0 (va_A (ab_w Γ cs ad σ) sz)
abbrev ab_K : Type := Nat → ab_L → List ab_V → ab_S → Prop
/-- the room of a call out of M into N, with r left on the operand stack -/
def ab_rok (M N : ab_M) (r : List ab_V) : Prop := ab_fr N + 1 ≤ ab_fr M ∧ 8 + (ab_ml N + 11) + ab_lo N ≤ ab_lo M ∧ ab_wsum r ≤ 8
def ab_prm (Γ : List ab_O) (M : ab_M) (K : ab_K) (pc : Nat) (L : ab_L) (st : List ab_V) (σ : ab_S) (n : Nat) : Prop := match n with
  | 0 => ab_b2 st (fun x y r => (ab_r32 x ∧ ab_r32 y) ∧ (1 ≤ ab_fr M ∧ ab_wsum r + 15 ≤ ab_lo M) ∧ K (pc + 3) L (.inl (min x y) :: r) σ)
  | 1 => ab_b2 st (fun x y r => (ab_r32 x ∧ ab_r32 y) ∧ (1 ≤ ab_fr M ∧ ab_wsum r + 15 ≤ ab_lo M) ∧ K (pc + 3) L (.inl (max x y) :: r) σ)
  | 2 => ab_b1 st (fun x r => (ab_r32 x) ∧ (1 ≤ ab_fr M ∧ ab_wsum r + 15 ≤ ab_lo M) ∧ K (pc + 3) L (.inl (if 0 ≤ x then x else -x) :: r) σ)
  | 3 => ab_l2 st (fun x y r => (ab_r64 x ∧ ab_r64 y) ∧ (1 ≤ ab_fr M ∧ ab_wsum r + 15 ≤ ab_lo M) ∧ K (pc + 3) L (.inr (.inl (min x y)) :: r) σ)
  | 4 => ab_l1 st (fun x r => (ab_r64 x) ∧ (1 ≤ ab_fr M ∧ ab_wsum r + 15 ≤ ab_lo M) ∧ K (pc + 3) L (.inr (.inl (if 0 ≤ x then x else -x)) :: r) σ)
  | _ => ab_cp5 st (fun o0 sp o1 dp m r => ab_op (ab_ar Γ o0) (fun a => ab_op (ab_ar Γ o1) (fun b => (a.1 = 20 ∧ b.1 = 20) ∧ (0 ≤ sp ∧ 0 ≤ dp ∧ 0 ≤ m ∧ sp + m ≤ a.2 ∧ dp + m ≤ b.2) ∧ (a.2 < 100000 ∧ b.2 < 100000) ∧ (1 ≤ ab_fr M ∧ ab_wsum r + 18 ≤ ab_lo M) ∧ K (pc + 3) L r (ab_cpy σ o0 sp o1 dp m))))
def ab_ret (M : ab_M) (Rt : ab_V → ab_S → Prop) (x : Int) (σ : ab_S) : Prop := match ab_rt M with
  | some .int => Rt (.inl x) σ
  | some .boolean => (x = 0 ∨ x = 1) ∧ Rt (.inl x) σ
  | _ => False
def ab_ex (Γ : List ab_O) (M : ab_M) (K : ab_K) (Rt : ab_V → ab_S → Prop) (pc n : Nat) (L : ab_L) (st : List ab_V) (σ : ab_S) (i : Instr) : Prop := match i with
  | .iconst v => n = 1 ∧ K (pc + 1) L (.inl v :: st) σ
  | .bipush v => n = 2 ∧ (-128 ≤ v ∧ v < 128) ∧ K (pc + 2) L (.inl v :: st) σ
  | .sipush v => n = 3 ∧ (-32768 ≤ v ∧ v < 32768) ∧ K (pc + 3) L (.inl v :: st) σ
  | .lconst v => n = 1 ∧ K (pc + 1) L (.inr (.inl (ab_f2 v)) :: st) σ
  | .ldc j => n = 2 ∧ (match ab_kx (ab_own M) j with | some q => K (pc + 2) L ((match q with | .inl v => .inl v | .inr v => .inr (.inl v)) :: st) σ ∧ (match q with | .inl _ => True | .inr _ => False) | none => ab_op (ab_ks (ab_own M) j) (fun i => K (pc + 2) L (.inr (.inr (.inr (2 * i))) :: st) σ))
  | .ldc_w j => n = 3 ∧ ab_op (ab_kx (ab_own M) j) (fun q => K (pc + 3) L ((match q with | .inl v => .inl v | .inr v => .inr (.inl v)) :: st) σ ∧ (match q with | .inl _ => True | .inr _ => False))
  | .ldc2_w j => n = 3 ∧ ab_op (ab_kx (ab_own M) j) (fun q => K (pc + 3) L ((match q with | .inl v => .inl v | .inr v => .inr (.inl v)) :: st) σ ∧ (match q with | .inl _ => False | .inr _ => True))
  | .iload_n k => n = 1 ∧ ab_gI (ab_lk L (ab_f4 k)) (fun x => K (pc + 1) L (.inl x :: st) σ)
  | .iload k => n = 2 ∧ ab_gI (ab_lk L k) (fun x => K (pc + 2) L (.inl x :: st) σ)
  | .lload_n k => n = 1 ∧ ab_gL (ab_lk L (ab_f4 k)) (fun x => K (pc + 1) L (.inr (.inl x) :: st) σ)
  | .lload k => n = 2 ∧ ab_gL (ab_lk L k) (fun x => K (pc + 2) L (.inr (.inl x) :: st) σ)
  | .aload_n k => n = 1 ∧ ab_gR (ab_lk L (ab_f4 k)) (fun x => K (pc + 1) L (.inr (.inr x) :: st) σ)
  | .aload k => n = 2 ∧ ab_gR (ab_lk L k) (fun x => K (pc + 2) L (.inr (.inr x) :: st) σ)
  | .istore_n k => n = 1 ∧ ab_f4 k < ab_ml M ∧ ab_b1 st (fun x r => K (pc + 1) (ab_st1 L (ab_f4 k) (.inl x)) r σ)
  | .istore k => n = 2 ∧ k < ab_ml M ∧ ab_b1 st (fun x r => K (pc + 2) (ab_st1 L k (.inl x)) r σ)
  | .lstore_n k => n = 1 ∧ ab_f4 k + 1 < ab_ml M ∧ ab_l1 st (fun x r => K (pc + 1) (ab_st2 L (ab_f4 k) (.inr (.inl x))) r σ)
  | .lstore k => n = 2 ∧ k + 1 < ab_ml M ∧ ab_l1 st (fun x r => K (pc + 2) (ab_st2 L k (.inr (.inl x))) r σ)
  | .iinc k v => n = 3 ∧ k < ab_ml M ∧ ab_gI (ab_lk L k) (fun x => K (pc + 3) (ab_st1 L k (.inl (x + v))) st σ)
  | .iadd => n = 1 ∧ ab_b2 st (fun x y r => K (pc + 1) L (.inl (x + y) :: r) σ)
  | .isub => n = 1 ∧ ab_b2 st (fun x y r => K (pc + 1) L (.inl (x - y) :: r) σ)
  | .imul => n = 1 ∧ ab_b2 st (fun x y r => K (pc + 1) L (.inl (x * y) :: r) σ)
  | .iand => n = 1 ∧ ab_b2 st (fun x y r => K (pc + 1) L (.inl (ab_and x y) :: r) σ)
  | .ior => n = 1 ∧ ab_b2 st (fun x y r => K (pc + 1) L (.inl (ab_or x y) :: r) σ)
  | .ixor => n = 1 ∧ ab_b2 st (fun x y r => K (pc + 1) L (.inl (ab_xor x y) :: r) σ)
  | .ishl => n = 1 ∧ ab_b2 st (fun x y r => K (pc + 1) L (.inl (ab_shl x y) :: r) σ)
  | .ishr => n = 1 ∧ ab_b2 st (fun x y r => K (pc + 1) L (.inl (ab_shr x y) :: r) σ)
  | .iushr => n = 1 ∧ ab_b2 st (fun x y r => K (pc + 1) L (.inl (ab_ushr x y) :: r) σ)
  | .idiv => n = 1 ∧ ab_b2 st (fun x y r => (0 ≤ x ∧ ab_r32 x ∧ 0 < y ∧ ab_r32 y) ∧ K (pc + 1) L (.inl (x / y) :: r) σ)
  | .irem => n = 1 ∧ ab_b2 st (fun x y r => (0 ≤ x ∧ ab_r32 x ∧ 0 < y ∧ ab_r32 y) ∧ K (pc + 1) L (.inl (x % y) :: r) σ)
  | .ladd => n = 1 ∧ ab_l2 st (fun x y r => K (pc + 1) L (.inr (.inl (x + y)) :: r) σ)
  | .lsub => n = 1 ∧ ab_l2 st (fun x y r => K (pc + 1) L (.inr (.inl (x - y)) :: r) σ)
  | .lmul => n = 1 ∧ ab_l2 st (fun x y r => K (pc + 1) L (.inr (.inl (x * y)) :: r) σ)
  | .lor => n = 1 ∧ ab_l2 st (fun x y r => K (pc + 1) L (.inr (.inl (ab_orL x y)) :: r) σ)
  | .ldiv => n = 1 ∧ ab_l2 st (fun x y r => (ab_r64 x ∧ ab_r64 y ∧ y ≠ 0 ∧ x ≠ -9223372036854775808) ∧ K (pc + 1) L (.inr (.inl (x.tdiv y)) :: r) σ)
  | .lrem => n = 1 ∧ ab_l2 st (fun x y r => (ab_r64 x ∧ ab_r64 y ∧ y ≠ 0 ∧ x ≠ -9223372036854775808) ∧ K (pc + 1) L (.inr (.inl (x.tmod y)) :: r) σ)
  | .lshl => n = 1 ∧ ab_li st (fun x y r => K (pc + 1) L (.inr (.inl (ab_shlL x y)) :: r) σ)
  | .lcmp => n = 1 ∧ ab_l2 st (fun x y r => (ab_r64 x ∧ ab_r64 y) ∧ K (pc + 1) L (.inl (ab_cmp x y) :: r) σ)
  | .ineg => n = 1 ∧ ab_b1 st (fun x r => K (pc + 1) L (.inl (-x) :: r) σ)
  | .lneg => n = 1 ∧ ab_l1 st (fun x r => K (pc + 1) L (.inr (.inl (-x)) :: r) σ)
  | .i2l => n = 1 ∧ ab_b1 st (fun x r => ab_r32 x ∧ K (pc + 1) L (.inr (.inl x) :: r) σ)
  | .l2i => n = 1 ∧ ab_l1 st (fun x r => K (pc + 1) L (.inl x :: r) σ)
  | .i2b => n = 1 ∧ ab_b1 st (fun x r => K (pc + 1) L (.inl (ab_i2b x) :: r) σ)
  | .dup => n = 1 ∧ ab_o1 st (fun o r => K (pc + 1) L (.inr (.inr (.inl o)) :: .inr (.inr (.inl o)) :: r) σ)
  | .pop => n = 1 ∧ ab_b1 st (fun x r => K (pc + 1) L r σ)
  | .dup2 => n = 1 ∧ ab_d2 st (fun r => K (pc + 1) L r σ)
  | .goto off => n = 3 ∧ 0 ≤ (pc : Int) + off ∧ K (ab_tg pc off) L st σ
  | .ifCond c off => n = 3 ∧ ab_b1 st (fun x r => ab_r32 x ∧ 0 ≤ (pc : Int) + off ∧ (ab_cd c x 0 → K (ab_tg pc off) L r σ) ∧ (¬ ab_cd c x 0 → K (pc + 3) L r σ))
  | .if_icmp c off => n = 3 ∧ ab_b2 st (fun x y r => (ab_r32 x ∧ ab_r32 y) ∧ 0 ≤ (pc : Int) + off ∧ (ab_cd c x y → K (ab_tg pc off) L r σ) ∧ (¬ ab_cd c x y → K (pc + 3) L r σ))
  | .tableswitch dflt lo hi offs => ab_b1 st (fun x r => ab_r32 x ∧ (hi = lo + offs.toList.length - 1) ∧ (x < lo ∨ hi < x → 0 ≤ (pc : Int) + dflt ∧ K (ab_tg pc dflt) L r σ) ∧ ab_sw (fun t => K t L r σ) pc x lo offs.toList)
  | .getfield j => n = 3 ∧ ab_o1 st (fun o r => ab_op (ab_gt Γ (ab_own M) j o) (fun q => K (pc + 3) L (ab_gv σ o q :: r) σ))
  | .putfield j => n = 3 ∧ (match st with | .inl x :: .inr (.inr (.inl o)) :: r => ab_op (ab_pt Γ (ab_own M) j o) (fun q => (q.2 = 0 ∨ (q.2 = 2 ∧ (x = 0 ∨ x = 1))) ∧ K (pc + 3) L r (ab_up σ o q.1 x)) | .inr (.inl x) :: .inr (.inr (.inl o)) :: r => ab_op (ab_pt Γ (ab_own M) j o) (fun q => q.2 = 1 ∧ K (pc + 3) L r (ab_up σ o q.1 x)) | _ => False)
  | .iaload => n = 1 ∧ ab_io st (fun o i r => ab_op (ab_ar Γ o) (fun a => a.1 = 20 ∧ (0 ≤ i ∧ i < a.2 ∧ a.2 < 100000) ∧ K (pc + 1) L (.inl (σ o i) :: r) σ))
  | .laload => n = 1 ∧ ab_io st (fun o i r => ab_op (ab_ar Γ o) (fun a => a.1 = 21 ∧ (0 ≤ i ∧ i < a.2 ∧ a.2 < 100000) ∧ K (pc + 1) L (.inr (.inl (σ o i)) :: r) σ))
  | .baload => n = 1 ∧ ab_io st (fun o i r => ab_op (ab_ar Γ o) (fun a => (a.1 = 22 ∨ a.1 = 23) ∧ (0 ≤ i ∧ i < a.2 ∧ a.2 < 100000) ∧ K (pc + 1) L (.inl (σ o i) :: r) σ))
  | .iastore => n = 1 ∧ ab_iio st (fun o i x r => ab_op (ab_ar Γ o) (fun a => a.1 = 20 ∧ (0 ≤ i ∧ i < a.2 ∧ a.2 < 100000) ∧ K (pc + 1) L r (ab_up σ o i x)))
  | .lastore => n = 1 ∧ ab_lio st (fun o i x r => ab_op (ab_ar Γ o) (fun a => a.1 = 21 ∧ (0 ≤ i ∧ i < a.2 ∧ a.2 < 100000) ∧ K (pc + 1) L r (ab_up σ o i x)))
  | .bastore => n = 1 ∧ ab_iio st (fun o i x r => ab_op (ab_ar Γ o) (fun a => ((a.1 = 22 ∧ (x = 0 ∨ x = 1)) ∨ (a.1 = 23 ∧ -128 ≤ x ∧ x ≤ 127)) ∧ (0 ≤ i ∧ i < a.2 ∧ a.2 < 100000) ∧ K (pc + 1) L r (ab_up σ o i x)))
  | .aaload => n = 1 ∧ ab_io st (fun o i r => ab_op (Γ[o]?) (fun d => d.1 = 24 ∧ (0 ≤ i ∧ i < d.2.1 ∧ d.2.1 < 100000) ∧ ab_op (d.2.2.getD i.toNat none) (fun q => K (pc + 1) L (.inr (.inr (.inl q)) :: r) σ)))
  | .arraylength => n = 1 ∧ ab_o1 st (fun o r => ab_op (ab_ar Γ o) (fun a => (20 ≤ a.1 ∧ a.1 ≤ 24 ∧ a.2 < 100000) ∧ K (pc + 1) L (.inl a.2 :: r) σ))
  | .invokevirtual j => n = 3 ∧ ab_op (ab_vn (ab_own M) j) (fun k => ab_o1 (st.drop k) (fun o r => ab_op (ab_ar Γ o) (fun a => ab_op (ab_iv (ab_own M) j a.1) (fun N => ab_na N = k + 1 ∧ ab_rok M N r ∧ ab_Runs Γ N (.inr (.inr (.inl o)) :: (st.take k).reverse) σ (fun v τ => K (pc + 3) L (ab_psh N v r) τ)))))
  | .invokestatic j => n = 3 ∧ (match ab_is (ab_own M) j with | some N => ab_na N ≤ st.length ∧ ab_rok M N (st.drop (ab_na N)) ∧ ab_Runs Γ N (st.take (ab_na N)).reverse σ (fun v τ => K (pc + 3) L (ab_psh N v (st.drop (ab_na N))) τ) | none => ab_op (ab_pr (ab_own M) j) (fun q => ab_prm Γ M K pc L st σ q))
  | .ireturn => n = 1 ∧ ab_b1 st (fun x r => r = [] ∧ ab_ret M Rt x σ)
  | .lreturn => n = 1 ∧ ab_l1 st (fun x r => r = [] ∧ ab_rt M = some .long ∧ Rt (.inr (.inl x)) σ)
  | .return_ => n = 1 ∧ st = [] ∧ ab_rt M = none ∧ Rt (.inl 0) σ
  | _ => False
theorem ex_iconst (Γ : List ab_O) (M : ab_M) (K : ab_K) (Rt : ab_V → ab_S → Prop) (pc n : Nat) (L : ab_L) (st : List ab_V) (σ : ab_S) (v : Int) : ab_ex Γ M K Rt pc n L st σ (.iconst v) = (n = 1 ∧ K (pc + 1) L (.inl v :: st) σ) := rfl
theorem ex_bipush (Γ : List ab_O) (M : ab_M) (K : ab_K) (Rt : ab_V → ab_S → Prop) (pc n : Nat) (L : ab_L) (st : List ab_V) (σ : ab_S) (v : Int) : ab_ex Γ M K Rt pc n L st σ (.bipush v) = (n = 2 ∧ (-128 ≤ v ∧ v < 128) ∧ K (pc + 2) L (.inl v :: st) σ) := rfl
theorem ex_sipush (Γ : List ab_O) (M : ab_M) (K : ab_K) (Rt : ab_V → ab_S → Prop) (pc n : Nat) (L : ab_L) (st : List ab_V) (σ : ab_S) (v : Int) : ab_ex Γ M K Rt pc n L st σ (.sipush v) = (n = 3 ∧ (-32768 ≤ v ∧ v < 32768) ∧ K (pc + 3) L (.inl v :: st) σ) := rfl
theorem ex_lconst (Γ : List ab_O) (M : ab_M) (K : ab_K) (Rt : ab_V → ab_S → Prop) (pc n : Nat) (L : ab_L) (st : List ab_V) (σ : ab_S) (v : Fin 2) : ab_ex Γ M K Rt pc n L st σ (.lconst v) = (n = 1 ∧ K (pc + 1) L (.inr (.inl (ab_f2 v)) :: st) σ) := rfl
theorem ex_ldc (Γ : List ab_O) (M : ab_M) (K : ab_K) (Rt : ab_V → ab_S → Prop) (pc n : Nat) (L : ab_L) (st : List ab_V) (σ : ab_S) (j : Nat) : ab_ex Γ M K Rt pc n L st σ (.ldc j) = (n = 2 ∧ (match ab_kx (ab_own M) j with | some q => K (pc + 2) L ((match q with | .inl v => .inl v | .inr v => .inr (.inl v)) :: st) σ ∧ (match q with | .inl _ => True | .inr _ => False) | none => ab_op (ab_ks (ab_own M) j) (fun i => K (pc + 2) L (.inr (.inr (.inr (2 * i))) :: st) σ))) := rfl
theorem ex_ldc_w (Γ : List ab_O) (M : ab_M) (K : ab_K) (Rt : ab_V → ab_S → Prop) (pc n : Nat) (L : ab_L) (st : List ab_V) (σ : ab_S) (j : Nat) : ab_ex Γ M K Rt pc n L st σ (.ldc_w j) = (n = 3 ∧ ab_op (ab_kx (ab_own M) j) (fun q => K (pc + 3) L ((match q with | .inl v => .inl v | .inr v => .inr (.inl v)) :: st) σ ∧ (match q with | .inl _ => True | .inr _ => False))) := rfl
theorem ex_ldc2_w (Γ : List ab_O) (M : ab_M) (K : ab_K) (Rt : ab_V → ab_S → Prop) (pc n : Nat) (L : ab_L) (st : List ab_V) (σ : ab_S) (j : Nat) : ab_ex Γ M K Rt pc n L st σ (.ldc2_w j) = (n = 3 ∧ ab_op (ab_kx (ab_own M) j) (fun q => K (pc + 3) L ((match q with | .inl v => .inl v | .inr v => .inr (.inl v)) :: st) σ ∧ (match q with | .inl _ => False | .inr _ => True))) := rfl
theorem ex_iload_n (Γ : List ab_O) (M : ab_M) (K : ab_K) (Rt : ab_V → ab_S → Prop) (pc n : Nat) (L : ab_L) (st : List ab_V) (σ : ab_S) (k : Fin 4) : ab_ex Γ M K Rt pc n L st σ (.iload_n k) = (n = 1 ∧ ab_gI (ab_lk L (ab_f4 k)) (fun x => K (pc + 1) L (.inl x :: st) σ)) := rfl
theorem ex_iload (Γ : List ab_O) (M : ab_M) (K : ab_K) (Rt : ab_V → ab_S → Prop) (pc n : Nat) (L : ab_L) (st : List ab_V) (σ : ab_S) (k : Nat) : ab_ex Γ M K Rt pc n L st σ (.iload k) = (n = 2 ∧ ab_gI (ab_lk L k) (fun x => K (pc + 2) L (.inl x :: st) σ)) := rfl
theorem ex_lload_n (Γ : List ab_O) (M : ab_M) (K : ab_K) (Rt : ab_V → ab_S → Prop) (pc n : Nat) (L : ab_L) (st : List ab_V) (σ : ab_S) (k : Fin 4) : ab_ex Γ M K Rt pc n L st σ (.lload_n k) = (n = 1 ∧ ab_gL (ab_lk L (ab_f4 k)) (fun x => K (pc + 1) L (.inr (.inl x) :: st) σ)) := rfl
theorem ex_lload (Γ : List ab_O) (M : ab_M) (K : ab_K) (Rt : ab_V → ab_S → Prop) (pc n : Nat) (L : ab_L) (st : List ab_V) (σ : ab_S) (k : Nat) : ab_ex Γ M K Rt pc n L st σ (.lload k) = (n = 2 ∧ ab_gL (ab_lk L k) (fun x => K (pc + 2) L (.inr (.inl x) :: st) σ)) := rfl
theorem ex_aload_n (Γ : List ab_O) (M : ab_M) (K : ab_K) (Rt : ab_V → ab_S → Prop) (pc n : Nat) (L : ab_L) (st : List ab_V) (σ : ab_S) (k : Fin 4) : ab_ex Γ M K Rt pc n L st σ (.aload_n k) = (n = 1 ∧ ab_gR (ab_lk L (ab_f4 k)) (fun x => K (pc + 1) L (.inr (.inr x) :: st) σ)) := rfl
theorem ex_aload (Γ : List ab_O) (M : ab_M) (K : ab_K) (Rt : ab_V → ab_S → Prop) (pc n : Nat) (L : ab_L) (st : List ab_V) (σ : ab_S) (k : Nat) : ab_ex Γ M K Rt pc n L st σ (.aload k) = (n = 2 ∧ ab_gR (ab_lk L k) (fun x => K (pc + 2) L (.inr (.inr x) :: st) σ)) := rfl
theorem ex_istore_n (Γ : List ab_O) (M : ab_M) (K : ab_K) (Rt : ab_V → ab_S → Prop) (pc n : Nat) (L : ab_L) (st : List ab_V) (σ : ab_S) (k : Fin 4) : ab_ex Γ M K Rt pc n L st σ (.istore_n k) = (n = 1 ∧ ab_f4 k < ab_ml M ∧ ab_b1 st (fun x r => K (pc + 1) (ab_st1 L (ab_f4 k) (.inl x)) r σ)) := rfl
theorem ex_istore (Γ : List ab_O) (M : ab_M) (K : ab_K) (Rt : ab_V → ab_S → Prop) (pc n : Nat) (L : ab_L) (st : List ab_V) (σ : ab_S) (k : Nat) : ab_ex Γ M K Rt pc n L st σ (.istore k) = (n = 2 ∧ k < ab_ml M ∧ ab_b1 st (fun x r => K (pc + 2) (ab_st1 L k (.inl x)) r σ)) := rfl
theorem ex_lstore_n (Γ : List ab_O) (M : ab_M) (K : ab_K) (Rt : ab_V → ab_S → Prop) (pc n : Nat) (L : ab_L) (st : List ab_V) (σ : ab_S) (k : Fin 4) : ab_ex Γ M K Rt pc n L st σ (.lstore_n k) = (n = 1 ∧ ab_f4 k + 1 < ab_ml M ∧ ab_l1 st (fun x r => K (pc + 1) (ab_st2 L (ab_f4 k) (.inr (.inl x))) r σ)) := rfl
theorem ex_lstore (Γ : List ab_O) (M : ab_M) (K : ab_K) (Rt : ab_V → ab_S → Prop) (pc n : Nat) (L : ab_L) (st : List ab_V) (σ : ab_S) (k : Nat) : ab_ex Γ M K Rt pc n L st σ (.lstore k) = (n = 2 ∧ k + 1 < ab_ml M ∧ ab_l1 st (fun x r => K (pc + 2) (ab_st2 L k (.inr (.inl x))) r σ)) := rfl
theorem ex_iinc (Γ : List ab_O) (M : ab_M) (K : ab_K) (Rt : ab_V → ab_S → Prop) (pc n : Nat) (L : ab_L) (st : List ab_V) (σ : ab_S) (k : Nat) (v : Int) : ab_ex Γ M K Rt pc n L st σ (.iinc k v) = (n = 3 ∧ k < ab_ml M ∧ ab_gI (ab_lk L k) (fun x => K (pc + 3) (ab_st1 L k (.inl (x + v))) st σ)) := rfl
theorem ex_iadd (Γ : List ab_O) (M : ab_M) (K : ab_K) (Rt : ab_V → ab_S → Prop) (pc n : Nat) (L : ab_L) (st : List ab_V) (σ : ab_S) : ab_ex Γ M K Rt pc n L st σ (.iadd) = (n = 1 ∧ ab_b2 st (fun x y r => K (pc + 1) L (.inl (x + y) :: r) σ)) := rfl
theorem ex_isub (Γ : List ab_O) (M : ab_M) (K : ab_K) (Rt : ab_V → ab_S → Prop) (pc n : Nat) (L : ab_L) (st : List ab_V) (σ : ab_S) : ab_ex Γ M K Rt pc n L st σ (.isub) = (n = 1 ∧ ab_b2 st (fun x y r => K (pc + 1) L (.inl (x - y) :: r) σ)) := rfl
theorem ex_imul (Γ : List ab_O) (M : ab_M) (K : ab_K) (Rt : ab_V → ab_S → Prop) (pc n : Nat) (L : ab_L) (st : List ab_V) (σ : ab_S) : ab_ex Γ M K Rt pc n L st σ (.imul) = (n = 1 ∧ ab_b2 st (fun x y r => K (pc + 1) L (.inl (x * y) :: r) σ)) := rfl
theorem ex_iand (Γ : List ab_O) (M : ab_M) (K : ab_K) (Rt : ab_V → ab_S → Prop) (pc n : Nat) (L : ab_L) (st : List ab_V) (σ : ab_S) : ab_ex Γ M K Rt pc n L st σ (.iand) = (n = 1 ∧ ab_b2 st (fun x y r => K (pc + 1) L (.inl (ab_and x y) :: r) σ)) := rfl
theorem ex_ior (Γ : List ab_O) (M : ab_M) (K : ab_K) (Rt : ab_V → ab_S → Prop) (pc n : Nat) (L : ab_L) (st : List ab_V) (σ : ab_S) : ab_ex Γ M K Rt pc n L st σ (.ior) = (n = 1 ∧ ab_b2 st (fun x y r => K (pc + 1) L (.inl (ab_or x y) :: r) σ)) := rfl
theorem ex_ixor (Γ : List ab_O) (M : ab_M) (K : ab_K) (Rt : ab_V → ab_S → Prop) (pc n : Nat) (L : ab_L) (st : List ab_V) (σ : ab_S) : ab_ex Γ M K Rt pc n L st σ (.ixor) = (n = 1 ∧ ab_b2 st (fun x y r => K (pc + 1) L (.inl (ab_xor x y) :: r) σ)) := rfl
theorem ex_ishl (Γ : List ab_O) (M : ab_M) (K : ab_K) (Rt : ab_V → ab_S → Prop) (pc n : Nat) (L : ab_L) (st : List ab_V) (σ : ab_S) : ab_ex Γ M K Rt pc n L st σ (.ishl) = (n = 1 ∧ ab_b2 st (fun x y r => K (pc + 1) L (.inl (ab_shl x y) :: r) σ)) := rfl
theorem ex_ishr (Γ : List ab_O) (M : ab_M) (K : ab_K) (Rt : ab_V → ab_S → Prop) (pc n : Nat) (L : ab_L) (st : List ab_V) (σ : ab_S) : ab_ex Γ M K Rt pc n L st σ (.ishr) = (n = 1 ∧ ab_b2 st (fun x y r => K (pc + 1) L (.inl (ab_shr x y) :: r) σ)) := rfl
theorem ex_iushr (Γ : List ab_O) (M : ab_M) (K : ab_K) (Rt : ab_V → ab_S → Prop) (pc n : Nat) (L : ab_L) (st : List ab_V) (σ : ab_S) : ab_ex Γ M K Rt pc n L st σ (.iushr) = (n = 1 ∧ ab_b2 st (fun x y r => K (pc + 1) L (.inl (ab_ushr x y) :: r) σ)) := rfl
theorem ex_idiv (Γ : List ab_O) (M : ab_M) (K : ab_K) (Rt : ab_V → ab_S → Prop) (pc n : Nat) (L : ab_L) (st : List ab_V) (σ : ab_S) : ab_ex Γ M K Rt pc n L st σ (.idiv) = (n = 1 ∧ ab_b2 st (fun x y r => (0 ≤ x ∧ ab_r32 x ∧ 0 < y ∧ ab_r32 y) ∧ K (pc + 1) L (.inl (x / y) :: r) σ)) := rfl
theorem ex_irem (Γ : List ab_O) (M : ab_M) (K : ab_K) (Rt : ab_V → ab_S → Prop) (pc n : Nat) (L : ab_L) (st : List ab_V) (σ : ab_S) : ab_ex Γ M K Rt pc n L st σ (.irem) = (n = 1 ∧ ab_b2 st (fun x y r => (0 ≤ x ∧ ab_r32 x ∧ 0 < y ∧ ab_r32 y) ∧ K (pc + 1) L (.inl (x % y) :: r) σ)) := rfl
theorem ex_ladd (Γ : List ab_O) (M : ab_M) (K : ab_K) (Rt : ab_V → ab_S → Prop) (pc n : Nat) (L : ab_L) (st : List ab_V) (σ : ab_S) : ab_ex Γ M K Rt pc n L st σ (.ladd) = (n = 1 ∧ ab_l2 st (fun x y r => K (pc + 1) L (.inr (.inl (x + y)) :: r) σ)) := rfl
theorem ex_lsub (Γ : List ab_O) (M : ab_M) (K : ab_K) (Rt : ab_V → ab_S → Prop) (pc n : Nat) (L : ab_L) (st : List ab_V) (σ : ab_S) : ab_ex Γ M K Rt pc n L st σ (.lsub) = (n = 1 ∧ ab_l2 st (fun x y r => K (pc + 1) L (.inr (.inl (x - y)) :: r) σ)) := rfl
theorem ex_lmul (Γ : List ab_O) (M : ab_M) (K : ab_K) (Rt : ab_V → ab_S → Prop) (pc n : Nat) (L : ab_L) (st : List ab_V) (σ : ab_S) : ab_ex Γ M K Rt pc n L st σ (.lmul) = (n = 1 ∧ ab_l2 st (fun x y r => K (pc + 1) L (.inr (.inl (x * y)) :: r) σ)) := rfl
theorem ex_lor (Γ : List ab_O) (M : ab_M) (K : ab_K) (Rt : ab_V → ab_S → Prop) (pc n : Nat) (L : ab_L) (st : List ab_V) (σ : ab_S) : ab_ex Γ M K Rt pc n L st σ (.lor) = (n = 1 ∧ ab_l2 st (fun x y r => K (pc + 1) L (.inr (.inl (ab_orL x y)) :: r) σ)) := rfl
theorem ex_ldiv (Γ : List ab_O) (M : ab_M) (K : ab_K) (Rt : ab_V → ab_S → Prop) (pc n : Nat) (L : ab_L) (st : List ab_V) (σ : ab_S) : ab_ex Γ M K Rt pc n L st σ (.ldiv) = (n = 1 ∧ ab_l2 st (fun x y r => (ab_r64 x ∧ ab_r64 y ∧ y ≠ 0 ∧ x ≠ -9223372036854775808) ∧ K (pc + 1) L (.inr (.inl (x.tdiv y)) :: r) σ)) := rfl
theorem ex_lrem (Γ : List ab_O) (M : ab_M) (K : ab_K) (Rt : ab_V → ab_S → Prop) (pc n : Nat) (L : ab_L) (st : List ab_V) (σ : ab_S) : ab_ex Γ M K Rt pc n L st σ (.lrem) = (n = 1 ∧ ab_l2 st (fun x y r => (ab_r64 x ∧ ab_r64 y ∧ y ≠ 0 ∧ x ≠ -9223372036854775808) ∧ K (pc + 1) L (.inr (.inl (x.tmod y)) :: r) σ)) := rfl
theorem ex_lshl (Γ : List ab_O) (M : ab_M) (K : ab_K) (Rt : ab_V → ab_S → Prop) (pc n : Nat) (L : ab_L) (st : List ab_V) (σ : ab_S) : ab_ex Γ M K Rt pc n L st σ (.lshl) = (n = 1 ∧ ab_li st (fun x y r => K (pc + 1) L (.inr (.inl (ab_shlL x y)) :: r) σ)) := rfl
theorem ex_lcmp (Γ : List ab_O) (M : ab_M) (K : ab_K) (Rt : ab_V → ab_S → Prop) (pc n : Nat) (L : ab_L) (st : List ab_V) (σ : ab_S) : ab_ex Γ M K Rt pc n L st σ (.lcmp) = (n = 1 ∧ ab_l2 st (fun x y r => (ab_r64 x ∧ ab_r64 y) ∧ K (pc + 1) L (.inl (ab_cmp x y) :: r) σ)) := rfl
theorem ex_ineg (Γ : List ab_O) (M : ab_M) (K : ab_K) (Rt : ab_V → ab_S → Prop) (pc n : Nat) (L : ab_L) (st : List ab_V) (σ : ab_S) : ab_ex Γ M K Rt pc n L st σ (.ineg) = (n = 1 ∧ ab_b1 st (fun x r => K (pc + 1) L (.inl (-x) :: r) σ)) := rfl
theorem ex_lneg (Γ : List ab_O) (M : ab_M) (K : ab_K) (Rt : ab_V → ab_S → Prop) (pc n : Nat) (L : ab_L) (st : List ab_V) (σ : ab_S) : ab_ex Γ M K Rt pc n L st σ (.lneg) = (n = 1 ∧ ab_l1 st (fun x r => K (pc + 1) L (.inr (.inl (-x)) :: r) σ)) := rfl
theorem ex_i2l (Γ : List ab_O) (M : ab_M) (K : ab_K) (Rt : ab_V → ab_S → Prop) (pc n : Nat) (L : ab_L) (st : List ab_V) (σ : ab_S) : ab_ex Γ M K Rt pc n L st σ (.i2l) = (n = 1 ∧ ab_b1 st (fun x r => ab_r32 x ∧ K (pc + 1) L (.inr (.inl x) :: r) σ)) := rfl
theorem ex_l2i (Γ : List ab_O) (M : ab_M) (K : ab_K) (Rt : ab_V → ab_S → Prop) (pc n : Nat) (L : ab_L) (st : List ab_V) (σ : ab_S) : ab_ex Γ M K Rt pc n L st σ (.l2i) = (n = 1 ∧ ab_l1 st (fun x r => K (pc + 1) L (.inl x :: r) σ)) := rfl
theorem ex_i2b (Γ : List ab_O) (M : ab_M) (K : ab_K) (Rt : ab_V → ab_S → Prop) (pc n : Nat) (L : ab_L) (st : List ab_V) (σ : ab_S) : ab_ex Γ M K Rt pc n L st σ (.i2b) = (n = 1 ∧ ab_b1 st (fun x r => K (pc + 1) L (.inl (ab_i2b x) :: r) σ)) := rfl
theorem ex_dup (Γ : List ab_O) (M : ab_M) (K : ab_K) (Rt : ab_V → ab_S → Prop) (pc n : Nat) (L : ab_L) (st : List ab_V) (σ : ab_S) : ab_ex Γ M K Rt pc n L st σ (.dup) = (n = 1 ∧ ab_o1 st (fun o r => K (pc + 1) L (.inr (.inr (.inl o)) :: .inr (.inr (.inl o)) :: r) σ)) := rfl
theorem ex_pop (Γ : List ab_O) (M : ab_M) (K : ab_K) (Rt : ab_V → ab_S → Prop) (pc n : Nat) (L : ab_L) (st : List ab_V) (σ : ab_S) : ab_ex Γ M K Rt pc n L st σ (.pop) = (n = 1 ∧ ab_b1 st (fun x r => K (pc + 1) L r σ)) := rfl
theorem ex_dup2 (Γ : List ab_O) (M : ab_M) (K : ab_K) (Rt : ab_V → ab_S → Prop) (pc n : Nat) (L : ab_L) (st : List ab_V) (σ : ab_S) : ab_ex Γ M K Rt pc n L st σ (.dup2) = (n = 1 ∧ ab_d2 st (fun r => K (pc + 1) L r σ)) := rfl
theorem ex_goto (Γ : List ab_O) (M : ab_M) (K : ab_K) (Rt : ab_V → ab_S → Prop) (pc n : Nat) (L : ab_L) (st : List ab_V) (σ : ab_S) (off : Int) : ab_ex Γ M K Rt pc n L st σ (.goto off) = (n = 3 ∧ 0 ≤ (pc : Int) + off ∧ K (ab_tg pc off) L st σ) := rfl
theorem ex_ifCond (Γ : List ab_O) (M : ab_M) (K : ab_K) (Rt : ab_V → ab_S → Prop) (pc n : Nat) (L : ab_L) (st : List ab_V) (σ : ab_S) (c : ClassFile.Cond) (off : Int) : ab_ex Γ M K Rt pc n L st σ (.ifCond c off) = (n = 3 ∧ ab_b1 st (fun x r => ab_r32 x ∧ 0 ≤ (pc : Int) + off ∧ (ab_cd c x 0 → K (ab_tg pc off) L r σ) ∧ (¬ ab_cd c x 0 → K (pc + 3) L r σ))) := rfl
theorem ex_if_icmp (Γ : List ab_O) (M : ab_M) (K : ab_K) (Rt : ab_V → ab_S → Prop) (pc n : Nat) (L : ab_L) (st : List ab_V) (σ : ab_S) (c : ClassFile.Cond) (off : Int) : ab_ex Γ M K Rt pc n L st σ (.if_icmp c off) = (n = 3 ∧ ab_b2 st (fun x y r => (ab_r32 x ∧ ab_r32 y) ∧ 0 ≤ (pc : Int) + off ∧ (ab_cd c x y → K (ab_tg pc off) L r σ) ∧ (¬ ab_cd c x y → K (pc + 3) L r σ))) := rfl
theorem ex_tableswitch (Γ : List ab_O) (M : ab_M) (K : ab_K) (Rt : ab_V → ab_S → Prop) (pc n : Nat) (L : ab_L) (st : List ab_V) (σ : ab_S) (dflt : Int) (lo : Int) (hi : Int) (offs : Array Int) : ab_ex Γ M K Rt pc n L st σ (.tableswitch dflt lo hi offs) = (ab_b1 st (fun x r => ab_r32 x ∧ (hi = lo + offs.toList.length - 1) ∧ (x < lo ∨ hi < x → 0 ≤ (pc : Int) + dflt ∧ K (ab_tg pc dflt) L r σ) ∧ ab_sw (fun t => K t L r σ) pc x lo offs.toList)) := rfl
theorem ex_getfield (Γ : List ab_O) (M : ab_M) (K : ab_K) (Rt : ab_V → ab_S → Prop) (pc n : Nat) (L : ab_L) (st : List ab_V) (σ : ab_S) (j : Nat) : ab_ex Γ M K Rt pc n L st σ (.getfield j) = (n = 3 ∧ ab_o1 st (fun o r => ab_op (ab_gt Γ (ab_own M) j o) (fun q => K (pc + 3) L (ab_gv σ o q :: r) σ))) := rfl
theorem ex_putfield (Γ : List ab_O) (M : ab_M) (K : ab_K) (Rt : ab_V → ab_S → Prop) (pc n : Nat) (L : ab_L) (st : List ab_V) (σ : ab_S) (j : Nat) : ab_ex Γ M K Rt pc n L st σ (.putfield j) = (n = 3 ∧ (match st with | .inl x :: .inr (.inr (.inl o)) :: r => ab_op (ab_pt Γ (ab_own M) j o) (fun q => (q.2 = 0 ∨ (q.2 = 2 ∧ (x = 0 ∨ x = 1))) ∧ K (pc + 3) L r (ab_up σ o q.1 x)) | .inr (.inl x) :: .inr (.inr (.inl o)) :: r => ab_op (ab_pt Γ (ab_own M) j o) (fun q => q.2 = 1 ∧ K (pc + 3) L r (ab_up σ o q.1 x)) | _ => False)) := rfl
theorem ex_iaload (Γ : List ab_O) (M : ab_M) (K : ab_K) (Rt : ab_V → ab_S → Prop) (pc n : Nat) (L : ab_L) (st : List ab_V) (σ : ab_S) : ab_ex Γ M K Rt pc n L st σ (.iaload) = (n = 1 ∧ ab_io st (fun o i r => ab_op (ab_ar Γ o) (fun a => a.1 = 20 ∧ (0 ≤ i ∧ i < a.2 ∧ a.2 < 100000) ∧ K (pc + 1) L (.inl (σ o i) :: r) σ))) := rfl
theorem ex_laload (Γ : List ab_O) (M : ab_M) (K : ab_K) (Rt : ab_V → ab_S → Prop) (pc n : Nat) (L : ab_L) (st : List ab_V) (σ : ab_S) : ab_ex Γ M K Rt pc n L st σ (.laload) = (n = 1 ∧ ab_io st (fun o i r => ab_op (ab_ar Γ o) (fun a => a.1 = 21 ∧ (0 ≤ i ∧ i < a.2 ∧ a.2 < 100000) ∧ K (pc + 1) L (.inr (.inl (σ o i)) :: r) σ))) := rfl
theorem ex_baload (Γ : List ab_O) (M : ab_M) (K : ab_K) (Rt : ab_V → ab_S → Prop) (pc n : Nat) (L : ab_L) (st : List ab_V) (σ : ab_S) : ab_ex Γ M K Rt pc n L st σ (.baload) = (n = 1 ∧ ab_io st (fun o i r => ab_op (ab_ar Γ o) (fun a => (a.1 = 22 ∨ a.1 = 23) ∧ (0 ≤ i ∧ i < a.2 ∧ a.2 < 100000) ∧ K (pc + 1) L (.inl (σ o i) :: r) σ))) := rfl
theorem ex_iastore (Γ : List ab_O) (M : ab_M) (K : ab_K) (Rt : ab_V → ab_S → Prop) (pc n : Nat) (L : ab_L) (st : List ab_V) (σ : ab_S) : ab_ex Γ M K Rt pc n L st σ (.iastore) = (n = 1 ∧ ab_iio st (fun o i x r => ab_op (ab_ar Γ o) (fun a => a.1 = 20 ∧ (0 ≤ i ∧ i < a.2 ∧ a.2 < 100000) ∧ K (pc + 1) L r (ab_up σ o i x)))) := rfl
theorem ex_lastore (Γ : List ab_O) (M : ab_M) (K : ab_K) (Rt : ab_V → ab_S → Prop) (pc n : Nat) (L : ab_L) (st : List ab_V) (σ : ab_S) : ab_ex Γ M K Rt pc n L st σ (.lastore) = (n = 1 ∧ ab_lio st (fun o i x r => ab_op (ab_ar Γ o) (fun a => a.1 = 21 ∧ (0 ≤ i ∧ i < a.2 ∧ a.2 < 100000) ∧ K (pc + 1) L r (ab_up σ o i x)))) := rfl
theorem ex_bastore (Γ : List ab_O) (M : ab_M) (K : ab_K) (Rt : ab_V → ab_S → Prop) (pc n : Nat) (L : ab_L) (st : List ab_V) (σ : ab_S) : ab_ex Γ M K Rt pc n L st σ (.bastore) = (n = 1 ∧ ab_iio st (fun o i x r => ab_op (ab_ar Γ o) (fun a => ((a.1 = 22 ∧ (x = 0 ∨ x = 1)) ∨ (a.1 = 23 ∧ -128 ≤ x ∧ x ≤ 127)) ∧ (0 ≤ i ∧ i < a.2 ∧ a.2 < 100000) ∧ K (pc + 1) L r (ab_up σ o i x)))) := rfl
theorem ex_aaload (Γ : List ab_O) (M : ab_M) (K : ab_K) (Rt : ab_V → ab_S → Prop) (pc n : Nat) (L : ab_L) (st : List ab_V) (σ : ab_S) : ab_ex Γ M K Rt pc n L st σ (.aaload) = (n = 1 ∧ ab_io st (fun o i r => ab_op (Γ[o]?) (fun d => d.1 = 24 ∧ (0 ≤ i ∧ i < d.2.1 ∧ d.2.1 < 100000) ∧ ab_op (d.2.2.getD i.toNat none) (fun q => K (pc + 1) L (.inr (.inr (.inl q)) :: r) σ)))) := rfl
theorem ex_arraylength (Γ : List ab_O) (M : ab_M) (K : ab_K) (Rt : ab_V → ab_S → Prop) (pc n : Nat) (L : ab_L) (st : List ab_V) (σ : ab_S) : ab_ex Γ M K Rt pc n L st σ (.arraylength) = (n = 1 ∧ ab_o1 st (fun o r => ab_op (ab_ar Γ o) (fun a => (20 ≤ a.1 ∧ a.1 ≤ 24 ∧ a.2 < 100000) ∧ K (pc + 1) L (.inl a.2 :: r) σ))) := rfl
theorem ex_invokevirtual (Γ : List ab_O) (M : ab_M) (K : ab_K) (Rt : ab_V → ab_S → Prop) (pc n : Nat) (L : ab_L) (st : List ab_V) (σ : ab_S) (j : Nat) : ab_ex Γ M K Rt pc n L st σ (.invokevirtual j) = (n = 3 ∧ ab_op (ab_vn (ab_own M) j) (fun k => ab_o1 (st.drop k) (fun o r => ab_op (ab_ar Γ o) (fun a => ab_op (ab_iv (ab_own M) j a.1) (fun N => ab_na N = k + 1 ∧ ab_rok M N r ∧ ab_Runs Γ N (.inr (.inr (.inl o)) :: (st.take k).reverse) σ (fun v τ => K (pc + 3) L (ab_psh N v r) τ)))))) := rfl
theorem ex_invokestatic (Γ : List ab_O) (M : ab_M) (K : ab_K) (Rt : ab_V → ab_S → Prop) (pc n : Nat) (L : ab_L) (st : List ab_V) (σ : ab_S) (j : Nat) : ab_ex Γ M K Rt pc n L st σ (.invokestatic j) = (n = 3 ∧ (match ab_is (ab_own M) j with | some N => ab_na N ≤ st.length ∧ ab_rok M N (st.drop (ab_na N)) ∧ ab_Runs Γ N (st.take (ab_na N)).reverse σ (fun v τ => K (pc + 3) L (ab_psh N v (st.drop (ab_na N))) τ) | none => ab_op (ab_pr (ab_own M) j) (fun q => ab_prm Γ M K pc L st σ q))) := rfl
theorem ex_ireturn (Γ : List ab_O) (M : ab_M) (K : ab_K) (Rt : ab_V → ab_S → Prop) (pc n : Nat) (L : ab_L) (st : List ab_V) (σ : ab_S) : ab_ex Γ M K Rt pc n L st σ (.ireturn) = (n = 1 ∧ ab_b1 st (fun x r => r = [] ∧ ab_ret M Rt x σ)) := rfl
theorem ex_lreturn (Γ : List ab_O) (M : ab_M) (K : ab_K) (Rt : ab_V → ab_S → Prop) (pc n : Nat) (L : ab_L) (st : List ab_V) (σ : ab_S) : ab_ex Γ M K Rt pc n L st σ (.lreturn) = (n = 1 ∧ ab_l1 st (fun x r => r = [] ∧ ab_rt M = some .long ∧ Rt (.inr (.inl x)) σ)) := rfl
theorem ex_return_ (Γ : List ab_O) (M : ab_M) (K : ab_K) (Rt : ab_V → ab_S → Prop) (pc n : Nat) (L : ab_L) (st : List ab_V) (σ : ab_S) : ab_ex Γ M K Rt pc n L st σ (.return_) = (n = 1 ∧ st = [] ∧ ab_rt M = none ∧ Rt (.inl 0) σ) := rfl
def ab_stp (Γ : List ab_O) (M : ab_M) (K : ab_K) (Rt : ab_V → ab_S → Prop) (pc : Nat) (L : ab_L) (st : List ab_V) (σ : ab_S) : Prop := match decode (ab_cc M) pc with
  | .ok q => ab_ex Γ M K Rt pc q.2 L st σ q.1
  | _ => False
def ab_wp (Γ : List ab_O) (M : ab_M) (cuts : List Nat) (K : ab_K) (Rt : ab_V → ab_S → Prop) : Nat → ab_K
  | 0, pc, L, st, σ => K pc L st σ
  | n + 1, pc, L, st, σ => bif ab_in pc cuts then K pc L st σ else ab_stp Γ M (ab_wp Γ M cuts K Rt n) Rt pc L st σ
/-- from a place on: at least one step, then up to the next of the cuts -/
def ab_go (Γ : List ab_O) (M : ab_M) (cuts : List Nat) (K : ab_K) (Rt : ab_V → ab_S → Prop) (n pc : Nat) (L : ab_L) (st : List ab_V) (σ : ab_S) : Prop := ab_stp Γ M (ab_wp Γ M cuts K Rt n) Rt pc L st σ
