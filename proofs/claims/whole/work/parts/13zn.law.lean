-- LAWS as class and model hold them; CLASS takeBetween
theorem zu_zu2 (f : Int → Int) (i a b : Int) : zu (zu f i a) i b = zu f i b := by
  funext k
  unfold zu
  split <;> rfl
/-- what m entries of the model come to -/
def yAp (k n : Int → Int) (b : Int) : Nat → Int
  | 0 => 0
  | m + 1 => if k (b + m) = 0 then n (b + m) else yAp k n b m
def yPr (k n : Int → Int) (b : Int) : Nat → Int
  | 0 => -1
  | m + 1 => if k (b + m) = 3 then n (b + m) else yPr k n b m
def yCh (k : Int → Int) (b : Int) : Nat → Int
  | 0 => 0
  | m + 1 => if k (b + m) = 1 ∨ k (b + m) = 2 then yCh k b m + 1 else yCh k b m
theorem yCh_in (k : Int → Int) (b : Int) : ∀ m : Nat, 0 ≤ yCh k b m ∧ yCh k b m ≤ m
  | 0 => by simp [yCh]
  | m + 1 => by
    have := yCh_in k b m
    rw [yCh]
    split <;> omega
theorem yCh_mono (k : Int → Int) (b : Int) : ∀ {m j : Nat}, j ≤ m → yCh k b j ≤ yCh k b m
  | 0, j, h => by
    rw [show j = 0 by omega]
    exact Int.le_refl _
  | m + 1, j, h => by
    by_cases e : j = m + 1
    · rw [e]
      exact Int.le_refl _
    · have := yCh_mono k b (m := m) (j := j) (by omega)
      rw [yCh]
      split <;> omega
def yOp (k : Int → Int) (b : Int) : Nat → Int
  | 0 => 0
  | m + 1 => if k (b + m) = 2 then yOp k b m + 1 else yOp k b m
theorem yOp_in (k : Int → Int) (b : Int) : ∀ m : Nat, 0 ≤ yOp k b m ∧ yOp k b m ≤ yCh k b m
  | 0 => by simp [yOp, yCh]
  | m + 1 => by
    have := yOp_in k b m
    rw [yOp, yCh]
    by_cases e : k (b + m) = 2
    · rw [if_pos e, if_pos (Or.inr e)]
      omega
    · rw [if_neg e]
      split <;> omega
theorem yOp_mono (k : Int → Int) (b : Int) : ∀ {m j : Nat}, j ≤ m → yOp k b j ≤ yOp k b m
  | 0, j, h => by
    rw [show j = 0 by omega]
    exact Int.le_refl _
  | m + 1, j, h => by
    by_cases e : j = m + 1
    · rw [e]
      exact Int.le_refl _
    · have := yOp_mono k b (m := m) (j := j) (by omega)
      rw [yOp]
      split <;> omega
theorem yOp_cg {k k' : Int → Int} {b : Int} : ∀ {m : Nat}, (∀ j, b ≤ j → j < b + m → k' j = k j) → yOp k' b m = yOp k b m
  | 0, _ => rfl
  | m + 1, h => by
    rw [yOp, yOp, h (b + m) (by omega) (by omega), yOp_cg (m := m) (fun j h1 h2 => h j h1 (by omega))]
theorem yAp_cg {k k' n n' : Int → Int} {b : Int} : ∀ {m : Nat}, (∀ j, b ≤ j → j < b + m → k' j = k j ∧ n' j = n j) → yAp k' n' b m = yAp k n b m
  | 0, _ => rfl
  | m + 1, h => by
    rw [yAp, yAp, (h (b + m) (by omega) (by omega)).1, (h (b + m) (by omega) (by omega)).2, yAp_cg (m := m) (fun j h1 h2 => h j h1 (by omega))]
theorem yPr_cg {k k' n n' : Int → Int} {b : Int} : ∀ {m : Nat}, (∀ j, b ≤ j → j < b + m → k' j = k j ∧ n' j = n j) → yPr k' n' b m = yPr k n b m
  | 0, _ => rfl
  | m + 1, h => by
    rw [yPr, yPr, (h (b + m) (by omega) (by omega)).1, (h (b + m) (by omega) (by omega)).2, yPr_cg (m := m) (fun j h1 h2 => h j h1 (by omega))]
theorem yCh_cg {k k' : Int → Int} {b : Int} : ∀ {m : Nat}, (∀ j, b ≤ j → j < b + m → k' j = k j) → yCh k' b m = yCh k b m
  | 0, _ => rfl
  | m + 1, h => by
    rw [yCh, yCh, h (b + m) (by omega) (by omega), yCh_cg (m := m) (fun j h1 h2 => h j h1 (by omega))]
/-- entry j of law c -/
def yEn (ω τ : ab_S) (c : Int) (j : Nat) : Prop := (τ 17 (12 * c + j) = 0 ∧ 0 ≤ τ 20 (12 * c + j) ∧ τ 20 (12 * c + j) ≤ 99) ∨ (τ 17 (12 * c + j) = 3 ∧ ω 3 12 ≤ τ 20 (12 * c + j) ∧ τ 20 (12 * c + j) ≤ ω 3 13) ∨ ((τ 17 (12 * c + j) = 1 ∨ τ 17 (12 * c + j) = 2) ∧ (0 ≤ τ 18 (12 * c + j) ∧ τ 18 (12 * c + j) < ω 3 8) ∧ (0 ≤ τ 19 (12 * c + j) ∧ τ 19 (12 * c + j) < ω 3 8) ∧ (τ 17 (12 * c + j) = 2 → 1 ≤ τ 20 (12 * c + j) ∧ τ 20 (12 * c + j) ≤ 12) ∧ ω 25 (12 * c + yCh (τ 17) (12 * c) j) = τ 18 (12 * c + j) ∧ ω 26 (12 * c + yCh (τ 17) (12 * c) j) = τ 19 (12 * c + j) ∧ ω 27 (12 * c + yCh (τ 17) (12 * c) j) = if τ 17 (12 * c + j) = 2 then τ 20 (12 * c + j) else 0)
/-- law c of m entries is the class's -/
def yLw (ω τ : ab_S) (c : Int) (m : Nat) : Prop := ω 22 c = yAp (τ 17) (τ 20) (12 * c) m ∧ ω 23 c = yPr (τ 17) (τ 20) (12 * c) m ∧ ω 24 c = yCh (τ 17) (12 * c) m ∧ ∀ j : Nat, j < m → yEn ω τ c j
theorem yLw_cg {ω τ ω' τ' : ab_S} {c : Int} {m : Nat} (h : yLw ω τ c m) (h3 : ω' 3 = ω 3) (ha : ω' 22 c = ω 22 c) (hp : ω' 23 c = ω 23 c) (hc : ω' 24 c = ω 24 c) (ho : ∀ k, 12 * c ≤ k → k < 12 * c + yCh (τ 17) (12 * c) m → ω' 25 k = ω 25 k ∧ ω' 26 k = ω 26 k ∧ ω' 27 k = ω 27 k) (ht : ∀ k, 12 * c ≤ k → k < 12 * c + m → τ' 17 k = τ 17 k ∧ τ' 18 k = τ 18 k ∧ τ' 19 k = τ 19 k ∧ τ' 20 k = τ 20 k) : yLw ω' τ' c m := by
  obtain ⟨h1, h2, h4, h5⟩ := h
  refine ⟨by rw [ha, h1, yAp_cg (fun j a b => ⟨(ht j a b).1, (ht j a b).2.2.2⟩)], by rw [hp, h2, yPr_cg (fun j a b => ⟨(ht j a b).1, (ht j a b).2.2.2⟩)], by rw [hc, h4, yCh_cg (fun j a b => (ht j a b).1)], fun j hj => ?_⟩
  have q := h5 j hj
  obtain ⟨t1, t2, t3, t4⟩ := ht (12 * c + j) (by omega) (by omega)
  have tc : yCh (τ' 17) (12 * c) j = yCh (τ 17) (12 * c) j := yCh_cg (fun k a b => (ht k a (by omega)).1)
  unfold yEn at q ⊢
  rw [t1, t2, t3, t4, tc, h3]
  rcases q with q | q | ⟨q1, q2, q3, q4, q5, q6, q7⟩
  · exact Or.inl q
  · exact Or.inr (Or.inl q)
  · have hlt : yCh (τ 17) (12 * c) j < yCh (τ 17) (12 * c) m := by
      have := yCh_mono (τ 17) (12 * c) (show j + 1 ≤ m from hj)
      rw [yCh, if_pos q1] at this
      omega
    have h0 := (yCh_in (τ 17) (12 * c) j).1
    obtain ⟨o1, o2, o3⟩ := ho (12 * c + yCh (τ 17) (12 * c) j) (by omega) (by omega)
    exact Or.inr (Or.inr ⟨q1, q2, q3, q4, by rw [o1]; exact q5, by rw [o2]; exact q6, by rw [o3]; exact q7⟩)
/-- the model's store but for entry i -/
def yEq (τ x : ab_S) (i kd a b n : Int) : Prop := x 17 = zu (τ 17) i kd ∧ x 18 = zu (τ 18) i a ∧ x 19 = zu (τ 19) i b ∧ x 20 = zu (τ 20) i n ∧ (∀ o, o ≠ 0 → ¬ (17 ≤ o ∧ o ≤ 20) → x o = τ o) ∧ (∀ j, j < 30 ∨ j = 31 ∨ 37 < j → x 0 j = τ 0 j) ∧ (x 0 37 = 0 → τ 0 37 = 0 ∧ x 0 30 = τ 0 30) ∧ (0 ≤ τ 0 34 ∧ τ 0 34 ≤ 4 → 0 ≤ x 0 34 ∧ x 0 34 ≤ 4)
theorem yEq_tm {τ x y : ab_S} {i kd a b n : Int} (h : yEq τ x i kd a b n) (t : yTm x y) : yEq τ y i kd a b n := by
  obtain ⟨h1, h2, h3, h4, h5, h6, h7, h8⟩ := h
  refine ⟨(yTm_o t (by decide)).trans h1, (yTm_o t (by decide)).trans h2, (yTm_o t (by decide)).trans h3, (yTm_o t (by decide)).trans h4, fun o o0 o1 => (yTm_o t o0).trans (h5 o o0 o1), fun j hj => (yTm_0 t (by omega)).trans (h6 j hj), fun w => ?_, fun _ => yTm_t t⟩
  rw [yTm_0 t (by omega)] at w
  exact ⟨(h7 w).1, (yTm_0 t (by omega)).trans (h7 w).2⟩
theorem yEq_er {τ x : ab_S} {i kd a b n : Int} (h : yEq τ x i kd a b n) : yEq τ (yErr x) i kd a b n := by
  obtain ⟨h1, h2, h3, h4, h5, h6, h7, h8⟩ := h
  refine ⟨h1, h2, h3, h4, fun o o0 o1 => (ab_set_ne x _ o0).trans (h5 o o0 o1), fun j hj => ?_, fun w => absurd (show (1 : Int) = 0 from w) (by decide), h8⟩
  show zu (zu (x 0) 37 1) 30 (x 0 33) j = τ 0 j
  rw [zu_ne _ _ (by omega), zu_ne _ _ (by omega)]
  exact h6 j hj
theorem yEq_a {τ x : ab_S} {i kd a b n v : Int} (h : yEq τ x i kd a b n) : yEq τ (ab_up x 18 i v) i kd v b n := by
  obtain ⟨h1, h2, h3, h4, h5, h6, h7, h8⟩ := h
  refine ⟨h1, ?_, h3, h4, fun o o0 o1 => (ab_up_o o (by omega)).trans (h5 o o0 o1), h6, h7, h8⟩
  rw [ab_up_eq, ab_set_at, h2, zu_zu2]
theorem yEq_b {τ x : ab_S} {i kd a b n v : Int} (h : yEq τ x i kd a b n) : yEq τ (ab_up x 19 i v) i kd a v n := by
  obtain ⟨h1, h2, h3, h4, h5, h6, h7, h8⟩ := h
  refine ⟨h1, h2, ?_, h4, fun o o0 o1 => (ab_up_o o (by omega)).trans (h5 o o0 o1), h6, h7, h8⟩
  rw [ab_up_eq, ab_set_at, h3, zu_zu2]
theorem yEq_n {τ x : ab_S} {i kd a b n v : Int} (h : yEq τ x i kd a b n) : yEq τ (ab_up x 20 i v) i kd a b v := by
  obtain ⟨h1, h2, h3, h4, h5, h6, h7, h8⟩ := h
  refine ⟨h1, h2, h3, ?_, fun o o0 o1 => (ab_up_o o (by omega)).trans (h5 o o0 o1), h6, h7, h8⟩
  rw [ab_up_eq, ab_set_at, h4, zu_zu2]
/-- the town's names and prices, as the model holds them -/
def yTw (ω τ : ab_S) : Prop := zNn ω 3 ∧ yNm ω 3 τ 1 ∧ τ 0 1 = ω 3 8 ∧ τ 0 6 = ω 3 12 ∧ τ 0 7 = ω 3 13
theorem yTw_cg {ω ω' τ τ' : ab_S} (h : yTw ω τ) (h1 : ∀ o, 3 ≤ o → o ≤ 5 → ω' o = ω o) (h2 : τ' 1 = τ 1) (h3 : ∀ j, 1 ≤ j → j ≤ 7 → τ' 0 j = τ 0 j) : yTw ω' τ' := by
  unfold yTw zNn yNm
  rw [h1 3 (by decide) (by decide), h1 (3 + 1) (by decide) (by decide), h1 (3 + 2) (by decide) (by decide), h2, h3 1 (by decide) (by decide), h3 6 (by decide) (by decide), h3 7 (by decide) (by decide)]
  exact h
/-- what reading a rule may change in the class -/
def zFe (c : Int) (ω ω' : ab_S) : Prop := (∀ o, o ≠ 1 → ¬ (22 ≤ o ∧ o ≤ 27) → ω' o = ω o) ∧ ω' 1 1 = ω 1 1 ∧ ω' 1 2 = ω 1 2 ∧ (∀ k, k ≠ c → ω' 22 k = ω 22 k ∧ ω' 23 k = ω 23 k ∧ ω' 24 k = ω 24 k) ∧ (∀ k, k < 12 * c → ω' 25 k = ω 25 k ∧ ω' 26 k = ω 26 k ∧ ω' 27 k = ω 27 k)
theorem zFe_rf (c : Int) (ω : ab_S) : zFe c ω ω := ⟨fun _ _ _ => rfl, rfl, rfl, fun _ _ => ⟨rfl, rfl, rfl⟩, fun _ _ => ⟨rfl, rfl, rfl⟩⟩
theorem zFe_tr {c : Int} {ω ω' ω'' : ab_S} (h1 : zFe c ω ω') (h2 : zFe c ω' ω'') : zFe c ω ω'' := ⟨fun o a b => (h2.1 o a b).trans (h1.1 o a b), h2.2.1.trans h1.2.1, h2.2.2.1.trans h1.2.2.1, fun k a => ⟨(h2.2.2.2.1 k a).1.trans (h1.2.2.2.1 k a).1, (h2.2.2.2.1 k a).2.1.trans (h1.2.2.2.1 k a).2.1, (h2.2.2.2.1 k a).2.2.trans (h1.2.2.2.1 k a).2.2⟩, fun k a => ⟨(h2.2.2.2.2 k a).1.trans (h1.2.2.2.2 k a).1, (h2.2.2.2.2 k a).2.1.trans (h1.2.2.2.2 k a).2.1, (h2.2.2.2.2 k a).2.2.trans (h1.2.2.2.2 k a).2.2⟩⟩
theorem zFe_mv {c : Int} {ω ω' : ab_S} (h : zMvn ω ω') : zFe c ω ω' := ⟨fun o a _ => zMvn_o h a, (zMvn_1 h).1, (zMvn_1 h).2, fun _ _ => by rw [zMvn_o h (by decide), zMvn_o h (by decide), zMvn_o h (by decide)]; exact ⟨rfl, rfl, rfl⟩, fun _ _ => by rw [zMvn_o h (by decide), zMvn_o h (by decide), zMvn_o h (by decide)]; exact ⟨rfl, rfl, rfl⟩⟩
theorem zFe_no {c : Int} {ω ω' : ab_S} (f1 : ∀ o, o ≠ 1 → ω' o = ω o) (f2 : ∀ k, k ≠ 6 → ω' 1 k = ω 1 k) : zFe c ω ω' := ⟨fun o a _ => f1 o a, f2 1 (by decide), f2 2 (by decide), fun _ _ => by rw [f1 22 (by decide), f1 23 (by decide), f1 24 (by decide)]; exact ⟨rfl, rfl, rfl⟩, fun _ _ => by rw [f1 25 (by decide), f1 26 (by decide), f1 27 (by decide)]; exact ⟨rfl, rfl, rfl⟩⟩
/-- how the reading of a rule ends in the model -/
def yRr (ω0 ω ω' : ab_S) (v c : Int) (m : Nat) (τ τ' : ab_S) : Prop := (∃ kd a b n, yEq τ τ' (12 * c + m) kd a b n ∧ (-11 ≤ kd ∧ kd ≤ 3) ∧ (v = 1 → (kd = 2 ↔ zIs ω0 12))) ∧ ((v = 0 ∧ τ' 0 37 = 1 ∧ τ' 0 30 = ω' 1 5) ∨ (v = 1 ∧ τ' 0 37 = 0 ∧ yAt ω' τ' ∧ yLw ω' τ' c (m + 1)))
/-- the model, from readLaw's entry to its end -/
def yMl (ω ω' : ab_S) (v c op : Int) (m : Nat) : Prop := ∀ (G : ab_K) (K2 : ab_V → ab_S → Prop) (τ : ab_S), ab_Good ab_G2 mdX12_readLaw G K2 → yAt ω τ → yTw ω τ → yLw ω τ c m → τ 0 37 = 0 → (∀ (τ' : ab_S) (z : Option ab_V), yRr ω ω ω' v c m τ τ' → G 197 [some (vR 0), some (vI (12 * c + m)), some (vI op), z] [] τ') → G 0 [some (vR 0), some (vI (12 * c + m)), some (vI op), none] [] τ
/-- a new entry of kind 1 or 2 -/
theorem yLw_ch {ω τ ω' τ' : ab_S} {c kd a b n : Int} {m : Nat} (h : yLw ω τ c m) (hkd : kd = 1 ∨ kd = 2) (ha : 0 ≤ a ∧ a < ω 3 8) (hb : 0 ≤ b ∧ b < ω 3 8) (hn : kd = 2 → 1 ≤ n ∧ n ≤ 12) (he : yEq τ τ' (12 * c + m) kd a b n) (h3 : ω' 3 = ω 3) (h22 : ω' 22 = ω 22) (h23 : ω' 23 = ω 23) (h24 : ω' 24 c = ω 24 c + 1) (h25 : ω' 25 = zu (ω 25) (12 * c + ω 24 c) a) (h26 : ω' 26 = zu (ω 26) (12 * c + ω 24 c) b) (h27 : ω' 27 = zu (ω 27) (12 * c + ω 24 c) (if kd = 2 then n else 0)) : yLw ω' τ' c (m + 1) := by
  obtain ⟨e1, e2, e3, e4, -⟩ := he
  have hch := h.2.2.1
  have pre : ∀ k, 12 * c ≤ k → k < 12 * c + m → τ' 17 k = τ 17 k ∧ τ' 18 k = τ 18 k ∧ τ' 19 k = τ 19 k ∧ τ' 20 k = τ 20 k := fun k _ k2 => by
    rw [e1, e2, e3, e4, zu_ne _ _ (by omega), zu_ne _ _ (by omega), zu_ne _ _ (by omega), zu_ne _ _ (by omega)]
    exact ⟨rfl, rfl, rfl, rfl⟩
  have k0 : τ' 17 (12 * c + m) = kd := by rw [e1, zu_at]
  have c0 : yCh (τ' 17) (12 * c) m = yCh (τ 17) (12 * c) m := yCh_cg (fun k a b => (pre k a b).1)
  have old : ∀ j : Nat, j < m → yEn ω' τ' c j := by
    intro j hj
    have q := h.2.2.2 j hj
    obtain ⟨t1, t2, t3, t4⟩ := pre (12 * c + j) (by omega) (by omega)
    have tc : yCh (τ' 17) (12 * c) j = yCh (τ 17) (12 * c) j := yCh_cg (fun k a b => (pre k a (by omega)).1)
    unfold yEn at q ⊢
    rw [t1, t2, t3, t4, tc, h3]
    rcases q with q | q | ⟨q1, q2, q3, q4, q5, q6, q7⟩
    · exact Or.inl q
    · exact Or.inr (Or.inl q)
    · have hlt : yCh (τ 17) (12 * c) j < yCh (τ 17) (12 * c) m := by
        have := yCh_mono (τ 17) (12 * c) (show j + 1 ≤ m from hj)
        rw [yCh, if_pos q1] at this
        omega
      refine Or.inr (Or.inr ⟨q1, q2, q3, q4, ?_, ?_, ?_⟩)
      · rw [h25, zu_ne _ _ (by omega)]; exact q5
      · rw [h26, zu_ne _ _ (by omega)]; exact q6
      · rw [h27, zu_ne _ _ (by omega)]; exact q7
  refine ⟨?_, ?_, ?_, fun j hj => ?_⟩
  · rw [h22, h.1, yAp, k0, if_neg (by omega)]
    exact (yAp_cg (fun k a b => ⟨(pre k a b).1, (pre k a b).2.2.2⟩)).symm
  · rw [h23, h.2.1, yPr, k0, if_neg (by omega)]
    exact (yPr_cg (fun k a b => ⟨(pre k a b).1, (pre k a b).2.2.2⟩)).symm
  · rw [h24, hch, yCh, k0, if_pos hkd, c0]
  · by_cases e : j = m
    · subst e
      refine Or.inr (Or.inr ?_)
      rw [k0, c0, e2, e3, e4, zu_at, zu_at, zu_at, h3, h25, h26, h27, ← hch, zu_at, zu_at, zu_at]
      exact ⟨hkd, ha, hb, hn, rfl, rfl, rfl⟩
    · exact old j (by omega)
/-- a new entry of kind 0 or 3 -/
theorem yLw_n {ω τ ω' τ' : ab_S} {c kd a b n : Int} {m : Nat} (h : yLw ω τ c m) (hkd : (kd = 0 ∧ 0 ≤ n ∧ n ≤ 99 ∧ ω' 22 c = n ∧ ω' 23 c = ω 23 c) ∨ (kd = 3 ∧ ω 3 12 ≤ n ∧ n ≤ ω 3 13 ∧ ω' 23 c = n ∧ ω' 22 c = ω 22 c)) (he : yEq τ τ' (12 * c + m) kd a b n) (h3 : ω' 3 = ω 3) (h24 : ω' 24 c = ω 24 c) (h25 : ω' 25 = ω 25) (h26 : ω' 26 = ω 26) (h27 : ω' 27 = ω 27) : yLw ω' τ' c (m + 1) := by
  obtain ⟨e1, e2, e3, e4, -⟩ := he
  have pre : ∀ k, 12 * c ≤ k → k < 12 * c + m → τ' 17 k = τ 17 k ∧ τ' 18 k = τ 18 k ∧ τ' 19 k = τ 19 k ∧ τ' 20 k = τ 20 k := fun k _ k2 => by
    rw [e1, e2, e3, e4, zu_ne _ _ (by omega), zu_ne _ _ (by omega), zu_ne _ _ (by omega), zu_ne _ _ (by omega)]
    exact ⟨rfl, rfl, rfl, rfl⟩
  have k0 : τ' 17 (12 * c + m) = kd := by rw [e1, zu_at]
  have n0 : τ' 20 (12 * c + m) = n := by rw [e4, zu_at]
  have a0 : yAp (τ' 17) (τ' 20) (12 * c) m = yAp (τ 17) (τ 20) (12 * c) m := yAp_cg (fun k a b => ⟨(pre k a b).1, (pre k a b).2.2.2⟩)
  have p0 : yPr (τ' 17) (τ' 20) (12 * c) m = yPr (τ 17) (τ 20) (12 * c) m := yPr_cg (fun k a b => ⟨(pre k a b).1, (pre k a b).2.2.2⟩)
  have c0 : yCh (τ' 17) (12 * c) m = yCh (τ 17) (12 * c) m := yCh_cg (fun k a b => (pre k a b).1)
  refine ⟨?_, ?_, ?_, fun j hj => ?_⟩
  · rw [yAp, k0, n0, a0, ← h.1]
    rcases hkd with ⟨q1, q2, q3, q4, q5⟩ | ⟨q1, q2, q3, q4, q5⟩
    · rw [if_pos q1]
      exact q4
    · rw [if_neg (by omega)]
      exact q5
  · rw [yPr, k0, n0, p0, ← h.2.1]
    rcases hkd with ⟨q1, q2, q3, q4, q5⟩ | ⟨q1, q2, q3, q4, q5⟩
    · rw [if_neg (by omega)]
      exact q5
    · rw [if_pos q1]
      exact q4
  · rw [h24, h.2.2.1, yCh, k0, c0, if_neg (by omega)]
  · by_cases e : j = m
    · subst e
      unfold yEn
      rw [k0, n0, h3]
      rcases hkd with ⟨q1, q2, q3, q4, q5⟩ | ⟨q1, q2, q3, q4, q5⟩
      · exact Or.inl ⟨q1, q2, q3⟩
      · exact Or.inr (Or.inl ⟨q1, q2, q3⟩)
    · have q := h.2.2.2 j (by omega)
      obtain ⟨t1, t2, t3, t4⟩ := pre (12 * c + j) (by omega) (by omega)
      have tc : yCh (τ' 17) (12 * c) j = yCh (τ 17) (12 * c) j := yCh_cg (fun k a b => (pre k a (by omega)).1)
      unfold yEn at q ⊢
      rw [t1, t2, t3, t4, tc, h3, h25, h26, h27]
      exact q
