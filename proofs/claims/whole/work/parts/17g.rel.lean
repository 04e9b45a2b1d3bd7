-- CLASS AND MODEL between two calls
/-- a town as it may be -/
def zTo (ω : ab_S) : Prop := zNn ω 3 ∧ zTn ω ∧ (∀ k, 0 ≤ k → k < 12 → 0 ≤ ω 6 k ∧ ω 6 k ≤ 99) ∧ (∀ k, 0 ≤ k → k < 36 → 0 ≤ ω 7 k ∧ ω 7 k ≤ 20) ∧ (∀ s, 0 ≤ s → s < 16 → 0 ≤ ω 11 s ∧ ω 11 s ≤ 20) ∧ (1 ≤ ω 3 10 ∧ ω 3 10 ≤ 5) ∧ (0 ≤ ω 3 11 ∧ ω 3 11 ≤ 9999) ∧ (0 ≤ ω 3 12 ∧ ω 3 12 ≤ ω 3 13 ∧ ω 3 13 ≤ 60 ∧ ω 3 13 ≤ ω 3 12 + 20) ∧ (0 ≤ ω 3 14 ∧ ω 3 14 ≤ 40)
/-- the model's town -/
def yTo (ω τ : ab_S) : Prop := yNm ω 3 τ 1 ∧ τ 0 1 = ω 3 8 ∧ τ 0 2 = ω 3 9 ∧ τ 0 4 = ω 3 10 ∧ τ 0 5 = ω 3 11 ∧ τ 0 6 = ω 3 12 ∧ τ 0 7 = ω 3 13 ∧ τ 0 3 = ω 3 14 ∧ (∀ k, 0 ≤ k → k < ω 3 8 → τ 3 k = ω 6 k ∧ ∀ b, 0 ≤ b → b < 3 → τ 5 (3 * k + b) = ω 7 (3 * k + b)) ∧ (∀ s, 0 ≤ s → s < ω 3 9 → τ 7 s = ω 8 s ∧ τ 8 s = ω 9 s ∧ τ 9 s = ω 10 s ∧ τ 10 s = ω 11 s)
/-- the laws -/
def zBo (ω : ab_S) : Prop := (0 ≤ ω 21 6 ∧ ω 21 6 ≤ 9) ∧ ∀ c, 0 ≤ c → c < ω 21 6 → zBc ω c
def yBo (ω τ : ab_S) : Prop := τ 0 38 = ω 21 6 ∧ ∀ c, 0 ≤ c → c < ω 21 6 → ∃ m : Nat, m ≤ 12 ∧ τ 16 c = m ∧ yLw ω τ c m ∧ yOp (τ 17) (12 * c) m ≤ 8
/-- sellers, at the object o -/
def zBa (ω : ab_S) (o : Nat) : Prop := (0 ≤ ω o 5 ∧ ω o 5 ≤ 4) ∧ (-1 ≤ ω o 6 ∧ ω o 6 < ω 21 6) ∧ ∀ j, 0 ≤ j → j < ω o 5 → zSt ω (ω (o + 1) j) ∧ (ω 3 12 ≤ ω (o + 2) j ∧ ω (o + 2) j ≤ ω 3 13) ∧ (0 ≤ ω (o + 3) j ∧ ω (o + 3) j < 3) ∧ (0 ≤ ω (o + 4) j ∧ ω (o + 4) j < 4) ∧ (0 ≤ ω (o + 5) j ∧ ω (o + 5) j < 3)
def yBa (ω τ : ab_S) : Prop := τ 0 53 = ω 34 5 ∧ τ 0 39 = ω 34 6 ∧ ∀ j, 0 ≤ j → j < ω 34 5 → τ 26 j = ω 35 j ∧ τ 27 j = ω 36 j ∧ τ 28 j = ω 37 j ∧ τ 29 j = ω 38 j ∧ τ 30 j = ω 39 j
/-- the images -/
def yIm (ω τ : ab_S) : Prop := (0 ≤ ω 0 12 ∧ ω 0 12 ≤ 4) ∧ τ 0 90 = ω 0 12 ∧ ∀ i : Nat, (i : Int) < ω 0 12 → zBa ω (41 + 6 * i) ∧ τ 46 i = ω (41 + 6 * i) 5 ∧ τ 47 i = ω (41 + 6 * i) 6 ∧ ∀ j, 0 ≤ j → j < ω (41 + 6 * i) 5 → τ 48 (4 * i + j) = ω (41 + 6 * i + 1) j ∧ τ 49 (4 * i + j) = ω (41 + 6 * i + 2) j ∧ τ 50 (4 * i + j) = ω (41 + 6 * i + 3) j ∧ τ 51 (4 * i + j) = ω (41 + 6 * i + 4) j ∧ τ 52 (4 * i + j) = ω (41 + 6 * i + 5) j
/-- the ways are laid by the law in force -/
def zRol (ω : ab_S) : Prop := ∃ ωa ωb, (∀ o, 3 ≤ o → o ≤ 11 → ωa o = ω o) ∧ (0 ≤ ω 34 6 → ωa 22 (ω 34 6) = ω 22 (ω 34 6) ∧ ωa 23 (ω 34 6) = ω 23 (ω 34 6) ∧ ωa 24 (ω 34 6) = ω 24 (ω 34 6) ∧ ∀ k, 12 * ω 34 6 ≤ k → k < 12 * ω 34 6 + 12 → ωa 25 k = ω 25 k ∧ ωa 26 k = ω 26 k ∧ ωa 27 k = ω 27 k) ∧ zLy ωa (ω 34 6) ωb ∧ ω 28 7 = ωb 28 7 ∧ ω 28 8 = ωb 28 8 ∧ ω 29 = ωb 29 ∧ ω 30 = ωb 30
/-- class and model, but for what the class remembers -/
def yB (ω τ : ab_S) : Prop := yTa ω τ ∧ zTo ω ∧ yTo ω τ ∧ zBo ω ∧ yBo ω τ ∧ zBa ω 34 ∧ yBa ω τ ∧ yIm ω τ ∧ zRol ω ∧ yLx ω τ ∧ τ 0 0 = ω 0 14 ∧ τ 0 30 = ω 0 13 ∧ (-1 ≤ ω 0 13 ∧ ω 0 13 ≤ 900) ∧ (0 ≤ ω 0 15 ∧ 0 ≤ ω 0 14)
/-- the laws that there are stay -/
def zBk (ω ω' : ab_S) : Prop := ω' 21 6 = ω 21 6 ∧ (∀ k, 0 ≤ k → k < ω 21 6 → ω' 22 k = ω 22 k ∧ ω' 23 k = ω 23 k ∧ ω' 24 k = ω 24 k) ∧ ∀ k, 0 ≤ k → k < 12 * ω 21 6 → ω' 25 k = ω 25 k ∧ ω' 26 k = ω 26 k ∧ ω' 27 k = ω 27 k
theorem zBk_o {ω ω' : ab_S} (h : ∀ o, 21 ≤ o → o ≤ 27 → ω' o = ω o) : zBk ω ω' := by
  unfold zBk
  rw [h 21 (by decide) (by decide), h 22 (by decide) (by decide), h 23 (by decide) (by decide), h 24 (by decide) (by decide), h 25 (by decide) (by decide), h 26 (by decide) (by decide), h 27 (by decide) (by decide)]
  exact ⟨rfl, fun _ _ _ => ⟨rfl, rfl, rfl⟩, fun _ _ _ => ⟨rfl, rfl, rfl⟩⟩
/-- a call that changes nothing that is reckoned with, or makes all that was reckoned old; it doesn't touch what is remembered -/
def zSs (ω ω' : ab_S) : Prop := (∀ o, 65 ≤ o → ω' o = ω o) ∧ ((ω' 0 15 = ω 0 15 ∧ (∀ o, (3 ≤ o ∧ o ≤ 11) ∨ (28 ≤ o ∧ o ≤ 30) ∨ (34 ≤ o ∧ o ≤ 39) → ω' o = ω o) ∧ zBk ω ω') ∨ ω' 0 15 = ω 0 15 + 1) ∧ ω' 0 14 ≤ ω 0 14 + 1
theorem zSs_rf (ω : ab_S) : zSs ω ω := ⟨fun _ _ => rfl, Or.inl ⟨rfl, fun _ _ => rfl, zBk_o (fun _ _ _ => rfl)⟩, by omega⟩
def yJn (ω' : ab_S) (v v' : ab_V) (τ' : ab_S) : Prop := v' = v ∧ yB ω' τ'
/-- a call of the class, then the same of the model -/
def zJn (ω τ : ab_S) (N : ab_M) (args : List ab_V) (v : ab_V) (ω' : ab_S) : Prop := zSs ω ω' ∧ ab_Runs ab_G2 N args τ (yJn ω' v)
