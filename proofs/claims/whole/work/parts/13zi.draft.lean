-- the draft of a town: class and model
def zMvn (σ σ' : ab_S) : Prop := ∃ g : Int → Int, zAv σ g ∧ σ' = ab_set σ 1 g ∧ zRr σ'
theorem zMvn_o {σ σ' : ab_S} (h : zMvn σ σ') {o : Nat} (ho : o ≠ 1) : σ' o = σ o := by
  obtain ⟨g, -, rfl, -⟩ := h
  exact ab_set_ne σ g ho
theorem zMvn_1 {σ σ' : ab_S} (h : zMvn σ σ') : σ' 1 1 = σ 1 1 ∧ σ' 1 2 = σ 1 2 := by
  obtain ⟨g, h1, rfl, -⟩ := h
  exact ⟨h1.1 1 (by decide) (by decide) (by decide) (by decide), h1.1 2 (by decide) (by decide) (by decide) (by decide)⟩
/-- the place goes on -/
theorem zMvn_p {σ σ' : ab_S} (h : zMvn σ σ') : σ 1 3 ≤ σ' 1 5 ∧ σ' 1 5 ≤ σ' 1 3 := by
  obtain ⟨g, h1, rfl, -⟩ := h
  have := zTkn_in h1.2
  show σ 1 3 ≤ g 5 ∧ g 5 ≤ g 3
  omega
theorem r_tw {σ : ab_S} {i : Nat} {K : ab_V → ab_S → Prop} (hR : zRr σ) (hi : i < 14) (h0 : ¬ zIs σ i → K (vI 0) σ) (h1 : ∀ σ', zIs σ i → zMvn σ σ' → zRr σ' → K (vI 1) σ') : ab_Runs ab_G1 mdX6_takeWord [vR 1, vT (2 * i)] σ K := r_takeWord hR hi h0 (fun g a b c d => h1 _ a ⟨g, b, rfl, d⟩ d)
theorem r_tn {σ : ab_S} {lo hi : Int} {K : ab_V → ab_S → Prop} (hR : zRr σ) (hlo : 0 ≤ lo ∧ lo ≤ 99999) (hhi : 0 ≤ hi ∧ hi ≤ 99999)
    (h0 : ∀ σ', ¬ zNo σ lo hi → (∀ o, o ≠ 1 → σ' o = σ o) → (∀ k, k ≠ 6 → σ' 1 k = σ 1 k) → zRr σ' → K (vI 0) σ')
    (h1 : ∀ σ', zNo σ lo hi → zMvn σ σ' → σ' 1 6 = zNm (σ 2) (σ 1 5) (σ 1 3 - σ 1 5).toNat → zRr σ' → K (vI 1) σ') : ab_Runs ab_G1 mdX6_takeNumber [vR 1, vI lo, vI hi] σ K :=
  r_takeNumber hR hlo hhi (fun g a b _ d => h0 _ b (fun o ho => ab_set_ne σ g ho) (fun k hk => a k hk) d) (fun g a b c d => h1 _ a ⟨g, b, rfl, d⟩ c d)
theorem r_ta {σ : ab_S} {K : ab_V → ab_S → Prop} (hR : zRr σ) (h : ∀ σ', zMvn σ σ' → zRr σ' → K (vI 0) σ') : ab_Runs ab_G1 mdX6_advance [vR 1] σ K := r_adv hR (fun g a _ c => h _ ⟨g, a, rfl, c⟩ c)
theorem r_te {σ : ab_S} {K : ab_V → ab_S → Prop} (hR : zRr σ) (h0 : σ 1 4 ≠ 3 → K (vI 0) σ) (h1 : ∀ σ', σ 1 4 = 3 → zMvn σ σ' → zRr σ' → K (vI 1) σ') : ab_Runs ab_G1 mdX6_takeEnd [vR 1] σ K := r_takeEnd hR h0 (fun g a b c => h1 _ a ⟨g, b, rfl, c⟩ c)
/-- the model's token alone is otherwise -/
def yTm (τ τ' : ab_S) : Prop := ∃ q : Int → Int, (∀ j, j < 32 ∨ 36 < j → q j = τ 0 j) ∧ (0 ≤ q 34 ∧ q 34 ≤ 4) ∧ τ' = ab_set τ 0 q
theorem yTm_o {τ τ' : ab_S} (h : yTm τ τ') {o : Nat} (ho : o ≠ 0) : τ' o = τ o := by
  obtain ⟨q, -, -, rfl⟩ := h
  exact ab_set_ne τ q ho
theorem yTm_0 {τ τ' : ab_S} (h : yTm τ τ') {j : Int} (hj : j < 32 ∨ 36 < j) : τ' 0 j = τ 0 j := by
  obtain ⟨q, h1, -, rfl⟩ := h
  exact h1 j hj
theorem yTm_t {τ τ' : ab_S} (h : yTm τ τ') : 0 ≤ τ' 0 34 ∧ τ' 0 34 ≤ 4 := by
  obtain ⟨q, -, h1, rfl⟩ := h
  exact h1
theorem yAt_t {ω τ : ab_S} (h : yAt ω τ) : 0 ≤ τ 0 34 ∧ τ 0 34 ≤ 4 := by
  have := h.2.2.2.2.2
  unfold yTok at this
  omega
theorem y_mv {ω ω' τ : ab_S} {K : ab_V → ab_S → Prop} (hA : yAt ω τ) (hg : zMvn ω ω') (h : ∀ τ', yTm τ τ' → yAt ω' τ' → K (vI 0) τ') : ab_Runs ab_G2 mdX12_next [vR 0] τ K := by
  obtain ⟨g, g1, rfl, g2⟩ := hg
  exact y_adv hA g1 (fun q a b => h _ ⟨q, a, yAt_t b, rfl⟩ b)
theorem y_nok {ω ω' τ : ab_S} {lo hi : Int} {K : ab_V → ab_S → Prop} (hA : yAt ω τ) (hw : τ 0 37 = 0) (hlo : 0 ≤ lo ∧ lo ≤ 99999) (hhi : 0 ≤ hi ∧ hi ≤ 99999) (hn : zNo ω lo hi) (hg : zMvn ω ω') (h : ∀ τ', yTm τ τ' → yAt ω' τ' → K (vI (zNm (ω 2) (ω 1 5) (ω 1 3 - ω 1 5).toNat)) τ') : ab_Runs ab_G2 mdX12_number [vR 0, vI lo, vI hi] τ K := by
  obtain ⟨g, g1, rfl, g2⟩ := hg
  exact y_numOk hA hw hlo hhi hn g1 (fun q a b => h _ ⟨q, a, yAt_t b, rfl⟩ b)
/-- a draft as it may be -/
def zDr (ω : ab_S) : Prop := zNn ω 12 ∧ (0 ≤ ω 12 9 ∧ ω 12 9 ≤ 16) ∧ (∀ k, 0 ≤ k → k < 12 → (0 ≤ ω 15 k ∧ ω 15 k ≤ 99) ∧ (ω 12 8 ≤ k → ω 15 k = 0)) ∧ (∀ k, 0 ≤ k → k < 36 → (0 ≤ ω 16 k ∧ ω 16 k ≤ 20) ∧ (3 * ω 12 8 ≤ k → ω 16 k = 0)) ∧ (∀ s, 0 ≤ s → s < ω 12 9 → (0 ≤ ω 17 s ∧ ω 17 s < ω 12 8) ∧ (0 ≤ ω 18 s ∧ ω 18 s < ω 12 8) ∧ (1 ≤ ω 19 s ∧ ω 19 s ≤ 12)) ∧ (∀ s, 0 ≤ s → s < 16 → (0 ≤ ω 20 s ∧ ω 20 s ≤ 20) ∧ (ω 12 9 ≤ s → ω 20 s = 0)) ∧ (1 ≤ ω 12 10 ∧ ω 12 10 ≤ 5) ∧ (0 ≤ ω 12 11 ∧ ω 12 11 ≤ 9999) ∧ (0 ≤ ω 12 12 ∧ ω 12 12 ≤ ω 12 13 ∧ ω 12 13 ≤ 60 ∧ ω 12 13 ≤ ω 12 12 + 20)
/-- the model's draft is the class's -/
def yDr (ω τ : ab_S) : Prop := yNm ω 12 τ 2 ∧ τ 0 22 = ω 12 8 ∧ τ 0 23 = ω 12 9 ∧ τ 0 24 = ω 12 10 ∧ τ 0 25 = ω 12 11 ∧ τ 0 26 = ω 12 12 ∧ τ 0 27 = ω 12 13 ∧ (∀ k, 0 ≤ k → k < ω 12 8 → τ 4 k = ω 15 k ∧ ∀ b, 0 ≤ b → b < 3 → τ 6 (3 * k + b) = ω 16 (3 * k + b)) ∧ (∀ s, 0 ≤ s → s < ω 12 9 → τ 11 s = ω 17 s ∧ τ 12 s = ω 18 s ∧ τ 13 s = ω 19 s ∧ τ 14 s = ω 20 s)
theorem zNn_cg {ω ω' : ab_S} {o : Nat} (h : ∀ q, o ≤ q → q ≤ o + 2 → ω' q = ω q) (hN : zNn ω o) : zNn ω' o := by
  unfold zNn
  rw [h o (by omega) (by omega), h (o + 1) (by omega) (by omega), h (o + 2) (by omega) (by omega)]
  exact hN
theorem zDr_cg {ω ω' : ab_S} (h : ∀ o, 12 ≤ o → o ≤ 20 → ω' o = ω o) (hD : zDr ω) : zDr ω' := by
  unfold zDr zNn
  rw [h 12 (by decide) (by decide), h (12 + 1) (by decide) (by decide), h (12 + 2) (by decide) (by decide), h 15 (by decide) (by decide), h 16 (by decide) (by decide), h 17 (by decide) (by decide), h 18 (by decide) (by decide), h 19 (by decide) (by decide), h 20 (by decide) (by decide)]
  exact hD
theorem yDr_cg {ω ω' τ τ' : ab_S} (h : ∀ o, 12 ≤ o → o ≤ 20 → ω' o = ω o) (h0 : ∀ j, 22 ≤ j → j ≤ 27 → τ' 0 j = τ 0 j) (h1 : ∀ o, o ≠ 0 → τ' o = τ o) (hD : yDr ω τ) : yDr ω' τ' := by
  unfold yDr yNm
  rw [h 12 (by decide) (by decide), h (12 + 1) (by decide) (by decide), h (12 + 2) (by decide) (by decide), h 15 (by decide) (by decide), h 16 (by decide) (by decide), h 17 (by decide) (by decide), h 18 (by decide) (by decide), h 19 (by decide) (by decide), h 20 (by decide) (by decide), h0 22 (by decide) (by decide), h0 23 (by decide) (by decide), h0 24 (by decide) (by decide), h0 25 (by decide) (by decide), h0 26 (by decide) (by decide), h0 27 (by decide) (by decide), h1 2 (by decide), h1 4 (by decide), h1 6 (by decide), h1 11 (by decide), h1 12 (by decide), h1 13 (by decide), h1 14 (by decide)]
  exact hD
theorem zDr_mv {ω ω' : ab_S} (h : zMvn ω ω') (hD : zDr ω) : zDr ω' := zDr_cg (fun o a _ => zMvn_o h (by omega)) hD
theorem yDr_mv {ω ω' τ τ' : ab_S} (h : zMvn ω ω') (ht : yTm τ τ') (hD : yDr ω τ) : yDr ω' τ' := yDr_cg (fun o a _ => zMvn_o h (by omega)) (fun j _ a => yTm_0 ht (by omega)) (fun o a => yTm_o ht a) hD
/-- what reading may change -/
def zFdr (ω ω' : ab_S) : Prop := (∀ o, o ≠ 1 → ¬ (12 ≤ o ∧ o ≤ 20) → ω' o = ω o) ∧ ω' 1 1 = ω 1 1 ∧ ω' 1 2 = ω 1 2 ∧ ω' 12 14 = ω 12 14
theorem zFdr_rf (ω : ab_S) : zFdr ω ω := ⟨fun _ _ _ => rfl, rfl, rfl, rfl⟩
theorem zFdr_tr {ω ω' ω'' : ab_S} (h1 : zFdr ω ω') (h2 : zFdr ω' ω'') : zFdr ω ω'' := ⟨fun o a b => (h2.1 o a b).trans (h1.1 o a b), h2.2.1.trans h1.2.1, h2.2.2.1.trans h1.2.2.1, h2.2.2.2.trans h1.2.2.2⟩
theorem zFdr_mv {ω ω' : ab_S} (h : zMvn ω ω') : zFdr ω ω' := ⟨fun o a _ => zMvn_o h a, (zMvn_1 h).1, (zMvn_1 h).2, by rw [zMvn_o h (by decide)]⟩
def yFt (τ τ' : ab_S) : Prop := (∀ o, o ≠ 0 → o ≠ 2 → o ≠ 4 → o ≠ 6 → ¬ (11 ≤ o ∧ o ≤ 14) → τ' o = τ o) ∧ (∀ j, j < 22 ∨ j = 29 ∨ j = 31 ∨ 37 < j → τ' 0 j = τ 0 j) ∧ (τ' 0 37 = 0 → τ 0 37 = 0 ∧ τ' 0 30 = τ 0 30) ∧ (0 ≤ τ 0 34 ∧ τ 0 34 ≤ 4 → 0 ≤ τ' 0 34 ∧ τ' 0 34 ≤ 4)
theorem yFt_rf (τ : ab_S) : yFt τ τ := ⟨fun _ _ _ _ _ _ => rfl, fun _ _ => rfl, fun w => ⟨w, rfl⟩, fun t => t⟩
theorem yFt_tr {τ τ' τ'' : ab_S} (h1 : yFt τ τ') (h2 : yFt τ' τ'') : yFt τ τ'' := ⟨fun o a b c d e => (h2.1 o a b c d e).trans (h1.1 o a b c d e), fun j a => (h2.2.1 j a).trans (h1.2.1 j a), fun w => ⟨(h1.2.2.1 (h2.2.2.1 w).1).1, (h2.2.2.1 w).2.trans (h1.2.2.1 (h2.2.2.1 w).1).2⟩, fun t => h2.2.2.2 (h1.2.2.2 t)⟩
theorem yFt_tm {τ τ' : ab_S} (h : yTm τ τ') : yFt τ τ' := ⟨fun o a _ _ _ _ => yTm_o h a, fun j a => yTm_0 h (by omega), fun w => ⟨(yTm_0 h (by omega)).symm.trans w, yTm_0 h (by omega)⟩, fun _ => yTm_t h⟩
theorem yFt_er (τ : ab_S) : yFt τ (yErr τ) := ⟨fun o a _ _ _ _ => ab_set_ne τ _ a, fun j a => by
  show zu (zu (τ 0) 37 1) 30 (τ 0 33) j = τ 0 j
  rw [zu_ne _ _ (by omega), zu_ne _ _ (by omega)], fun w => absurd (show (1 : Int) = 0 from w) (by decide), fun t => t⟩
theorem yErr_w (τ : ab_S) : yErr τ 0 37 = 1 ∧ yErr τ 0 30 = τ 0 33 := ⟨rfl, rfl⟩
/-- how a reading ends in the model -/
def yRs (ω' : ab_S) (v : Int) (τ' : ab_S) : Prop := (v = 0 ∧ τ' 0 37 = 1 ∧ τ' 0 30 = ω' 1 5) ∨ (v = 1 ∧ τ' 0 37 = 0 ∧ yAt ω' τ' ∧ yDr ω' τ')
def yRd (N : ab_M) (ω ω' : ab_S) (v : Int) : Prop := ∀ (τ : ab_S) (K2 : ab_V → ab_S → Prop), yAt ω τ → yDr ω τ → τ 0 37 = 0 → (∀ τ', yFt τ τ' → yRs ω' v τ' → K2 (vI 0) τ') → ab_Runs ab_G2 N [vR 0] τ K2
/-- the same, from a place pc of the model's method -/
def yTl (N : ab_M) (pc : Nat) (L : ab_L → Prop) (ω ω' : ab_S) (v : Int) : Prop := ∀ (G : ab_K) (K2 : ab_V → ab_S → Prop) (τ : ab_S) (l : ab_L), ab_Good ab_G2 N G K2 → L l → yAt ω τ → yDr ω τ → τ 0 37 = 0 → (∀ τ', yFt τ τ' → yRs ω' v τ' → K2 (vI 0) τ') → G pc l [] τ
theorem zDr_new {ω : ab_S} (hD : zDr ω) (hR : zRr ω) (hq : zNq ω) (g : Int → Int) : zDr (ab_set (zNS ω) 1 g) := by
  obtain ⟨⟨n1, n2⟩, d2, d3, d4, d5, d6, d7, d8, d9⟩ := hD
  obtain ⟨⟨q1, q2, q3⟩, q4, q5⟩ := hq
  obtain ⟨p, hp, hk⟩ := hR.2
  have qi := zTkn_in hk
  have l := zTkn_lt hk q1
  have e8 : ab_set (zNS ω) 1 g 12 8 = ω 12 8 + 1 := rfl
  refine ⟨⟨by rw [e8]; omega, fun k k1 k2 => ?_⟩, d2, fun k k1 k2 => ?_, fun k k1 k2 => ?_, fun s s1 s2 => ?_, d6, d7, d8, d9⟩
  · rw [e8] at k2
    show (1 ≤ zu (ω 14) (ω 12 8) (ω 1 3 - ω 1 5) k ∧ zu (ω 14) (ω 12 8) (ω 1 3 - ω 1 5) k ≤ 6) ∧ ∀ i, 0 ≤ i → i < zu (ω 14) (ω 12 8) (ω 1 3 - ω 1 5) k → zLtr (if 6 * ω 12 8 ≤ 6 * k + i ∧ 6 * k + i < 6 * ω 12 8 + (ω 1 3 - ω 1 5) then ω 2 (ω 1 5 + (6 * k + i - 6 * ω 12 8)) else ω 13 (6 * k + i))
    by_cases e : k = ω 12 8
    · rw [e, zu_at]
      refine ⟨by omega, fun i i1 i2 => ?_⟩
      rw [if_pos (by omega)]
      exact l _ (by omega) (by omega)
    · rw [zu_ne _ _ e]
      obtain ⟨a, b⟩ := n2 k k1 (by omega)
      refine ⟨a, fun i i1 i2 => ?_⟩
      have := b i i1 i2
      have a2 : ω (12 + 2) k ≤ 6 := a.2
      have i3 : i < ω (12 + 2) k := i2
      rw [if_neg (by omega)]
      exact this
  · obtain ⟨a, b⟩ := d3 k k1 k2
    refine ⟨a, fun z => b ?_⟩
    rw [e8] at z
    omega
  · obtain ⟨a, b⟩ := d4 k k1 k2
    refine ⟨a, fun z => b ?_⟩
    rw [e8] at z
    omega
  · obtain ⟨a, b, c⟩ := d5 s s1 s2
    rw [e8]
    have a' : 0 ≤ ω 17 s ∧ ω 17 s < ω 12 8 := a
    have b' : 0 ≤ ω 18 s ∧ ω 18 s < ω 12 8 := b
    exact ⟨by show 0 ≤ ω 17 s ∧ ω 17 s < ω 12 8 + 1; omega, by show 0 ≤ ω 18 s ∧ ω 18 s < ω 12 8 + 1; omega, c⟩
theorem yDr_new {ω τ τ' : ab_S} (hD : zDr ω) (hy : yDr ω τ) (hA : yAt ω τ) (hq : zNq ω) (g : Int → Int) (h2 : τ' 2 = zu (τ 2) (ω 12 8) (τ 0 36)) (h4 : τ' 4 = zu (τ 4) (ω 12 8) 0) (h6 : ∀ k, τ' 6 k = if 3 * ω 12 8 ≤ k ∧ k < 3 * ω 12 8 + 3 then 0 else τ 6 k) (hs : ∀ o, 11 ≤ o → o ≤ 14 → τ' o = τ o) (h22 : τ' 0 22 = ω 12 8 + 1) (h0 : ∀ j, 23 ≤ j → j ≤ 27 → τ' 0 j = τ 0 j) : yDr (ab_set (zNS ω) 1 g) τ' := by
  obtain ⟨⟨n1, n2⟩, d2, d3, d4, d5, d6, d7, d8, d9⟩ := hD
  obtain ⟨⟨q1, q2, q3⟩, q4, q5⟩ := id hq
  obtain ⟨p, hp, hk⟩ := hA.1.2
  have qi := zTkn_in hk
  obtain ⟨y1, y2, y3, y4, y5, y6, y7, y8, y9⟩ := hy
  have e8 : ab_set (zNS ω) 1 g 12 8 = ω 12 8 + 1 := rfl
  refine ⟨fun k k1 k2 => ?_, by rw [e8]; exact h22, by rw [h0 23 (by decide) (by decide)]; exact y3, by rw [h0 24 (by decide) (by decide)]; exact y4, by rw [h0 25 (by decide) (by decide)]; exact y5, by rw [h0 26 (by decide) (by decide)]; exact y6, by rw [h0 27 (by decide) (by decide)]; exact y7, fun k k1 k2 => ?_, fun s s1 s2 => ?_⟩
  · rw [e8] at k2
    rw [h2]
    show zu (τ 2) (ω 12 8) (τ 0 36) k = zCd7 (fun i => if 6 * ω 12 8 ≤ i ∧ i < 6 * ω 12 8 + (ω 1 3 - ω 1 5) then ω 2 (ω 1 5 + (i - 6 * ω 12 8)) else ω 13 i) (6 * k) (zu (ω 14) (ω 12 8) (ω 1 3 - ω 1 5) k).toNat ∧ _
    by_cases e : k = ω 12 8
    · rw [e, zu_at, zu_at]
      rcases yAt_tx hA with ⟨t1, t2, t3, t4, -⟩ | ⟨t1, -, -⟩
      · refine ⟨?_, fun i hi z => q3 i hi ((yAt_is hA hi).2 ⟨t3, z⟩)⟩
        rw [t4]
        refine zCd7_congr (fun i hi => ?_)
        rw [if_pos (by omega)]
        congr 1
        omega
      · have := t1 q1
        omega
    · rw [zu_ne _ _ e, zu_ne _ _ e]
      obtain ⟨a, b⟩ := n2 k k1 (by omega)
      obtain ⟨c1, c2⟩ := y1 k k1 (by omega)
      refine ⟨?_, c2⟩
      rw [c1]
      refine zCd7_congr (fun i hi => ?_)
      have a2 : ω (12 + 2) k ≤ 6 := a.2
      have hi2 : (i : Int) < ω (12 + 2) k := by omega
      rw [if_neg (by omega)]
  · rw [e8] at k2
    rw [h4]
    show zu (τ 4) (ω 12 8) 0 k = ω 15 k ∧ ∀ b, 0 ≤ b → b < 3 → τ' 6 (3 * k + b) = ω 16 (3 * k + b)
    by_cases e : k = ω 12 8
    · rw [e, zu_at]
      refine ⟨((d3 _ (by omega) (by omega)).2 (by omega)).symm, fun b b1 b2 => ?_⟩
      rw [h6, if_pos (by omega)]
      exact ((d4 _ (by omega) (by omega)).2 (by omega)).symm
    · rw [zu_ne _ _ e]
      obtain ⟨c1, c2⟩ := y8 k k1 (by omega)
      refine ⟨c1, fun b b1 b2 => ?_⟩
      rw [h6, if_neg (by omega)]
      exact c2 b b1 b2
  · rw [hs 11 (by decide) (by decide), hs 12 (by decide) (by decide), hs 13 (by decide) (by decide), hs 14 (by decide) (by decide)]
    exact y9 s s1 s2
theorem zDr_people {ω : ab_S} {k v : Int} (hD : zDr ω) (hk : 0 ≤ k ∧ k < ω 12 8) (hv : 0 ≤ v ∧ v ≤ 99) : zDr (ab_set ω 15 (zu (ω 15) k v)) := by
  obtain ⟨d1, d2, d3, d4, d5, d6, d7, d8, d9⟩ := hD
  refine ⟨d1, d2, fun j j1 j2 => ?_, d4, d5, d6, d7, d8, d9⟩
  show (0 ≤ zu (ω 15) k v j ∧ zu (ω 15) k v j ≤ 99) ∧ (ω 12 8 ≤ j → zu (ω 15) k v j = 0)
  by_cases e : j = k
  · rw [e, zu_at]
    exact ⟨hv, fun z => by omega⟩
  · rw [zu_ne _ _ e]
    exact d3 j j1 j2
theorem yDr_people {ω τ : ab_S} {k v : Int} (hy : yDr ω τ) : yDr (ab_set ω 15 (zu (ω 15) k v)) (ab_set τ 4 (zu (τ 4) k v)) := by
  obtain ⟨y1, y2, y3, y4, y5, y6, y7, y8, y9⟩ := hy
  refine ⟨y1, y2, y3, y4, y5, y6, y7, fun j j1 j2 => ?_, y9⟩
  obtain ⟨a, b⟩ := y8 j j1 j2
  refine ⟨?_, b⟩
  show zu (τ 4) k v j = zu (ω 15) k v j
  by_cases e : j = k
  · rw [e, zu_at, zu_at]
  · rw [zu_ne _ _ e, zu_ne _ _ e]
    exact a
theorem zDr_likes {ω : ab_S} {k v : Int} (hD : zDr ω) (hk : 0 ≤ k ∧ k < 3 * ω 12 8) (hv : 0 ≤ v ∧ v ≤ 20) : zDr (ab_set ω 16 (zu (ω 16) k v)) := by
  obtain ⟨d1, d2, d3, d4, d5, d6, d7, d8, d9⟩ := hD
  refine ⟨d1, d2, d3, fun j j1 j2 => ?_, d5, d6, d7, d8, d9⟩
  show (0 ≤ zu (ω 16) k v j ∧ zu (ω 16) k v j ≤ 20) ∧ (3 * ω 12 8 ≤ j → zu (ω 16) k v j = 0)
  by_cases e : j = k
  · rw [e, zu_at]
    exact ⟨hv, fun z => by omega⟩
  · rw [zu_ne _ _ e]
    exact d4 j j1 j2
theorem yDr_likes {ω τ : ab_S} {k v : Int} (hy : yDr ω τ) : yDr (ab_set ω 16 (zu (ω 16) k v)) (ab_set τ 6 (zu (τ 6) k v)) := by
  obtain ⟨y1, y2, y3, y4, y5, y6, y7, y8, y9⟩ := hy
  refine ⟨y1, y2, y3, y4, y5, y6, y7, fun j j1 j2 => ?_, y9⟩
  obtain ⟨a, b⟩ := y8 j j1 j2
  refine ⟨a, fun c c1 c2 => ?_⟩
  show zu (τ 6) k v (3 * j + c) = zu (ω 16) k v (3 * j + c)
  by_cases e : 3 * j + c = k
  · rw [e, zu_at, zu_at]
  · rw [zu_ne _ _ e, zu_ne _ _ e]
    exact b c c1 c2
