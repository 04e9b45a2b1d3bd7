-- CLASS AND MODEL: what a part of the relation rests on
theorem zNn_c3 {ω ω' : ab_S} (h : ∀ o, 3 ≤ o → o ≤ 11 → ω' o = ω o) : zNn ω' 3 = zNn ω 3 := by
  unfold zNn
  rw [h 3 (by decide) (by decide), h (3 + 1) (by decide) (by decide), h (3 + 2) (by decide) (by decide)]
theorem zTo_cg {ω ω' : ab_S} (h : ∀ o, 3 ≤ o → o ≤ 11 → ω' o = ω o) (hT : zTo ω) : zTo ω' := by
  unfold zTo zTn
  rw [zNn_c3 h, h 3 (by decide) (by decide), h 6 (by decide) (by decide), h 7 (by decide) (by decide), h 8 (by decide) (by decide), h 9 (by decide) (by decide), h 10 (by decide) (by decide), h 11 (by decide) (by decide)]
  exact hT
theorem yTo_cg {ω ω' τ τ' : ab_S} (h : ∀ o, 3 ≤ o → o ≤ 11 → ω' o = ω o) (h0 : ∀ j, j ≤ 7 → τ' 0 j = τ 0 j) (h1 : ∀ o, o = 1 ∨ o = 3 ∨ o = 5 ∨ (7 ≤ o ∧ o ≤ 10) → τ' o = τ o) (hT : yTo ω τ) : yTo ω' τ' := by
  unfold yTo yNm
  rw [h 3 (by decide) (by decide), h (3 + 1) (by decide) (by decide), h (3 + 2) (by decide) (by decide), h 6 (by decide) (by decide), h 7 (by decide) (by decide), h 8 (by decide) (by decide), h 9 (by decide) (by decide), h 10 (by decide) (by decide), h 11 (by decide) (by decide), h0 1 (by decide), h0 2 (by decide), h0 3 (by decide), h0 4 (by decide), h0 5 (by decide), h0 6 (by decide), h0 7 (by decide), h1 1 (by decide), h1 3 (by decide), h1 5 (by decide), h1 7 (by decide), h1 8 (by decide), h1 9 (by decide), h1 10 (by decide)]
  exact hT
theorem zBc_cg {ω ω' : ab_S} {c : Int} (h3 : ω' 3 = ω 3) (h : ∀ o, 24 ≤ o → o ≤ 27 → ω' o = ω o) (hB : zBc ω c) : zBc ω' c := by
  unfold zBc
  rw [h3, h 24 (by decide) (by decide), h 25 (by decide) (by decide), h 26 (by decide) (by decide), h 27 (by decide) (by decide)]
  exact hB
theorem zBo_cg {ω ω' : ab_S} (h3 : ω' 3 = ω 3) (h : ∀ o, 21 ≤ o → o ≤ 27 → ω' o = ω o) (hB : zBo ω) : zBo ω' := by
  unfold zBo zBc
  rw [h3, h 21 (by decide) (by decide), h 24 (by decide) (by decide), h 25 (by decide) (by decide), h 26 (by decide) (by decide), h 27 (by decide) (by decide)]
  exact hB
theorem yBo_cg {ω ω' τ τ' : ab_S} (h3 : ω' 3 = ω 3) (h : ∀ o, 21 ≤ o → o ≤ 27 → ω' o = ω o) (h0 : τ' 0 38 = τ 0 38) (h1 : ∀ o, 16 ≤ o → o ≤ 20 → τ' o = τ o) (hB : yBo ω τ) : yBo ω' τ' := by
  unfold yBo yLw yEn
  rw [h3, h 21 (by decide) (by decide), h 22 (by decide) (by decide), h 23 (by decide) (by decide), h 24 (by decide) (by decide), h 25 (by decide) (by decide), h 26 (by decide) (by decide), h 27 (by decide) (by decide), h0, h1 16 (by decide) (by decide), h1 17 (by decide) (by decide), h1 18 (by decide) (by decide), h1 19 (by decide) (by decide), h1 20 (by decide) (by decide)]
  exact hB
theorem zBa_cg {ω ω' : ab_S} {o p : Nat} (h3 : ω' 3 = ω 3) (h10 : ω' 10 = ω 10) (h21 : ω' 21 = ω 21) (h0 : ω' p = ω o) (h1 : ω' (p + 1) = ω (o + 1)) (h2 : ω' (p + 2) = ω (o + 2)) (h3' : ω' (p + 3) = ω (o + 3)) (h4 : ω' (p + 4) = ω (o + 4)) (h5 : ω' (p + 5) = ω (o + 5)) (hB : zBa ω o) : zBa ω' p := by
  unfold zBa zSt
  rw [h3, h10, h21, h0, h1, h2, h3', h4, h5]
  exact hB
theorem yBa_cg {ω ω' τ τ' : ab_S} (h : ∀ o, 34 ≤ o → o ≤ 39 → ω' o = ω o) (h53 : τ' 0 53 = τ 0 53) (h39 : τ' 0 39 = τ 0 39) (h1 : ∀ o, 26 ≤ o → o ≤ 30 → τ' o = τ o) (hB : yBa ω τ) : yBa ω' τ' := by
  unfold yBa
  rw [h 34 (by decide) (by decide), h 35 (by decide) (by decide), h 36 (by decide) (by decide), h 37 (by decide) (by decide), h 38 (by decide) (by decide), h 39 (by decide) (by decide), h53, h39, h1 26 (by decide) (by decide), h1 27 (by decide) (by decide), h1 28 (by decide) (by decide), h1 29 (by decide) (by decide), h1 30 (by decide) (by decide)]
  exact hB
theorem yIm_cg {ω ω' τ τ' : ab_S} (h3 : ω' 3 = ω 3) (h10 : ω' 10 = ω 10) (h21 : ω' 21 = ω 21) (h : ∀ o, 41 ≤ o → o ≤ 64 → ω' o = ω o) (h0 : ω' 0 12 = ω 0 12) (h90 : τ' 0 90 = τ 0 90) (h1 : ∀ o, 46 ≤ o → o ≤ 52 → τ' o = τ o) (hB : yIm ω τ) : yIm ω' τ' := by
  obtain ⟨b1, b2, b3⟩ := hB
  unfold yIm
  rw [h0, h90, h1 46 (by decide) (by decide), h1 47 (by decide) (by decide), h1 48 (by decide) (by decide), h1 49 (by decide) (by decide), h1 50 (by decide) (by decide), h1 51 (by decide) (by decide), h1 52 (by decide) (by decide)]
  refine ⟨b1, b2, fun i hi => ?_⟩
  obtain ⟨c1, c2, c3, c4⟩ := b3 i hi
  have e := fun k : Nat => fun hk : k ≤ 5 => h (41 + 6 * i + k) (by omega) (by omega)
  have e0 : ω' (41 + 6 * i) = ω (41 + 6 * i) := e 0 (by decide)
  rw [e0, e 1 (by decide), e 2 (by decide), e 3 (by decide), e 4 (by decide), e 5 (by decide)]
  exact ⟨zBa_cg h3 h10 h21 e0 (e 1 (by decide)) (e 2 (by decide)) (e 3 (by decide)) (e 4 (by decide)) (e 5 (by decide)) c1, c2, c3, c4⟩
theorem zRol_cg {ω ω' : ab_S} (h : ∀ o, 3 ≤ o → o ≤ 11 → ω' o = ω o) (h2 : ∀ o, 22 ≤ o → o ≤ 30 → ω' o = ω o) (h34 : ω' 34 = ω 34) (hR : zRol ω) : zRol ω' := by
  obtain ⟨ωa, ωb, r1, r2, r3, r4, r5, r6, r7⟩ := hR
  refine ⟨ωa, ωb, fun o o1 o2 => (r1 o o1 o2).trans (h o o1 o2).symm, ?_, ?_, ?_, ?_, ?_, ?_⟩
  · rw [h34, h2 22 (by decide) (by decide), h2 23 (by decide) (by decide), h2 24 (by decide) (by decide), h2 25 (by decide) (by decide), h2 26 (by decide) (by decide), h2 27 (by decide) (by decide)]
    exact r2
  · rw [h34]; exact r3
  · rw [h2 28 (by decide) (by decide)]; exact r4
  · rw [h2 28 (by decide) (by decide)]; exact r5
  · rw [h2 29 (by decide) (by decide)]; exact r6
  · rw [h2 30 (by decide) (by decide)]; exact r7
theorem yLx_cg {ω ω' τ τ' : ab_S} (h : ∀ o, 3 ≤ o → o ≤ 11 → ω' o = ω o) (h2 : ∀ o, 28 ≤ o → o ≤ 30 → ω' o = ω o) (h46 : τ' 0 46 = τ 0 46) (h47 : τ' 0 47 = τ 0 47) (h1 : ∀ o, 21 ≤ o → o ≤ 25 → τ' o = τ o) (hL : yLx ω τ) : yLx ω' τ' := by
  unfold yLx
  rw [h 3 (by decide) (by decide), h 8 (by decide) (by decide), h 9 (by decide) (by decide), h 10 (by decide) (by decide), h2 28 (by decide) (by decide), h2 29 (by decide) (by decide), h2 30 (by decide) (by decide), h46, h47, h1 21 (by decide) (by decide), h1 22 (by decide) (by decide), h1 23 (by decide) (by decide), h1 24 (by decide) (by decide), h1 25 (by decide) (by decide)]
  exact hL
/-- reading and its notes alone -/
theorem yB_rd {ω ω' τ τ' : ab_S} (hB : yB ω τ) (h : ∀ o, o ≠ 0 → o ≠ 1 → o ≠ 2 → ¬ (12 ≤ o ∧ o ≤ 20) → ω' o = ω o) (h0 : ∀ j, j = 12 ∨ j = 14 ∨ j = 15 → ω' 0 j = ω 0 j) (hτ : ∀ o, o ≠ 0 → o ≠ 2 → o ≠ 4 → o ≠ 6 → ¬ (11 ≤ o ∧ o ≤ 15) → τ' o = τ o) (hτ0 : ∀ j, j < 22 ∨ 37 < j → τ' 0 j = τ 0 j) (hT : yTa ω' τ') (hf : τ' 0 30 = ω' 0 13) (hf2 : -1 ≤ ω' 0 13 ∧ ω' 0 13 ≤ 900) : yB ω' τ' := by
  obtain ⟨b1, b2, b3, b4, b5, b6, b7, b8, b9, b10, b11, b12, b13, b14⟩ := hB
  have h3 := h 3 (by decide) (by decide) (by decide) (by decide)
  have h10 := h 10 (by decide) (by decide) (by decide) (by decide)
  have h21 := h 21 (by decide) (by decide) (by decide) (by decide)
  have hh : ∀ o, 3 ≤ o → o ≤ 11 → ω' o = ω o := fun o o1 o2 => h o (by omega) (by omega) (by omega) (by omega)
  have h2 : ∀ o, 21 ≤ o → ω' o = ω o := fun o o1 => h o (by omega) (by omega) (by omega) (by omega)
  refine ⟨hT, zTo_cg hh b2, yTo_cg hh (fun j j1 => hτ0 j (by omega)) (fun o ho => hτ o (by omega) (by omega) (by omega) (by omega) (by omega)) b3, zBo_cg h3 (fun o o1 _ => h2 o o1) b4, yBo_cg h3 (fun o o1 _ => h2 o o1) (hτ0 38 (by omega)) (fun o o1 o2 => hτ o (by omega) (by omega) (by omega) (by omega) (by omega)) b5, zBa_cg h3 h10 h21 (h2 34 (by decide)) (h2 35 (by decide)) (h2 36 (by decide)) (h2 37 (by decide)) (h2 38 (by decide)) (h2 39 (by decide)) b6, yBa_cg (fun o o1 _ => h2 o (by omega)) (hτ0 53 (by omega)) (hτ0 39 (by omega)) (fun o o1 o2 => hτ o (by omega) (by omega) (by omega) (by omega) (by omega)) b7, yIm_cg h3 h10 h21 (fun o o1 _ => h2 o (by omega)) (h0 12 (by omega)) (hτ0 90 (by omega)) (fun o o1 o2 => hτ o (by omega) (by omega) (by omega) (by omega) (by omega)) b8, zRol_cg hh (fun o o1 _ => h2 o (by omega)) (h2 34 (by decide)) b9, yLx_cg hh (fun o o1 _ => h2 o (by omega)) (hτ0 46 (by omega)) (hτ0 47 (by omega)) (fun o o1 o2 => hτ o (by omega) (by omega) (by omega) (by omega) (by omega)) b10, by rw [hτ0 0 (by omega), h0 14 (by omega)]; exact b11, hf, hf2, by rw [h0 15 (by omega), h0 14 (by omega)]; exact b14⟩
theorem zLy_o {σ σ' : ab_S} {c : Int} (h : zLy σ c σ') : (∀ o, ¬ (28 ≤ o ∧ o ≤ 33) → σ' o = σ o) := by
  obtain ⟨σ1, σ2, hc, hw, rfl⟩ := h
  intro o ho
  rw [ab_set_ne _ _ (by omega)]
  rcases hc with ⟨-, b, rfl⟩ | ⟨-, b, g⟩
  · exact b.1 o (by omega) (by omega)
  · rw [(zCg_o g).1 o (by omega) (by omega)]
    exact b.1 o (by omega) (by omega)
