-- BEST LAW: the roads by another law
theorem zRol_di {ω : ab_S} (hT : zTn ω) (h : zRol ω) : ∀ a b, 0 ≤ a → a < ω 3 8 → 0 ≤ b → b < ω 3 8 → (0 ≤ ω 29 (12 * a + b) ∧ ω 29 (12 * a + b) ≤ 49152) ∨ ω 29 (12 * a + b) = 100000 := by
  obtain ⟨ωa, ωb, r1, r2, r3, r4, r5, r6, r7⟩ := h
  obtain ⟨σ1, σ2, hc, hw, rfl⟩ := r3
  have k2 : ∀ o, o ≠ 28 → ¬ (30 ≤ o ∧ o ≤ 33) → σ2 o = ωa o := by
    rcases hc with ⟨hc, hb, rfl⟩ | ⟨hc, hb, g⟩
    · exact fun o o1 o2 => hb.1 o o1 (by omega)
    · exact fun o o1 o2 => ((zCg_o g).1 o o1 o2).trans (hb.1 o o1 (by omega))
  have q3 : σ2 3 = ω 3 := (k2 3 (by decide) (by decide)).trans (r1 3 (by decide) (by decide))
  have q8 : σ2 8 = ω 8 := (k2 8 (by decide) (by decide)).trans (r1 8 (by decide) (by decide))
  have q9 : σ2 9 = ω 9 := (k2 9 (by decide) (by decide)).trans (r1 9 (by decide) (by decide))
  have q10 : σ2 10 = ω 10 := (k2 10 (by decide) (by decide)).trans (r1 10 (by decide) (by decide))
  have hT2 : zTn σ2 := by
    unfold zTn
    rw [q3, q8, q9, q10]
    exact hT
  have hC := hT.1
  have e29 : ω 29 = zfw (ω 3 8) (znb σ2) (ω 3 8).toNat := by
    rw [r6, ab_set_at, r1 3 (by decide) (by decide)]
  have nb := zNb_all hT2 hw (yWq_ex hT2 hw)
  rw [q3] at nb
  intro a b a1 a2 b1 b2
  have fb := zfw_fb hC.2 (fun a b a1 a2 b1 b2 => (nb.1 a b a1 a2 b1 b2).1) (ω 3 8).toNat (by omega) a b a1 a2 b1 b2
  have bd : ∀ w : Nat, w ≤ 12 → (12 : Int) * 2 ^ w ≤ 49152 := by decide
  have := zFb_le fb (bd (ω 3 8).toNat (by omega))
  unfold zFb at this
  rw [e29]
  omega
theorem zDy_rol {ω : ab_S} (hT : zTn ω) (h : zRol ω) : zDy ω := by
  intro p c hp c0 c1
  have r11 := zRol_di hT h
  unfold zRe zrc zto
  by_cases h : p < 100
  · have q := zSt_c hp h
    have := r11 p c q.1 q.2 c0 c1
    rw [if_neg (by omega), if_pos h]
    omega
  · have q := zSt_st hT hp (by omega)
    have q1 := r11 _ c q.2.2.1.1 q.2.2.1.2 c0 c1
    have q2 := r11 _ c q.2.2.2.1.1 q.2.2.2.1.2 c0 c1
    by_cases hc : 100 ≤ p ∧ ¬ ω 30 ((p - 100) / 20) = 0
    · rw [if_pos hc]
      omega
    · rw [if_neg hc, if_neg h]
      omega
theorem zPr_rol {ω τ : ab_S} (b5 : yBo ω τ) (b6 : -1 ≤ ω 34 6 ∧ ω 34 6 < ω 21 6) (b9 : zRol ω) : (ω 28 8 = -1 ∨ (ω 3 12 ≤ ω 28 8 ∧ ω 28 8 ≤ ω 3 13)) ∧ 0 ≤ ω 28 7 ∧ ω 28 7 ≤ 99 := by
  obtain ⟨ωa, ωb, r1, r2, r3, r4, r5, r6, r7⟩ := b9
  obtain ⟨σ1, σ2, hc, hw, rfl⟩ := r3
  rw [r4, r5]
  rcases hc with ⟨hc, hb, rfl⟩ | ⟨hc, hb, g⟩
  · have e7 : σ2 28 7 = 0 := hb.2.2.2.1
    have e8 : σ2 28 8 = -1 := hb.2.2.2.2
    refine ⟨Or.inl e8, ?_⟩
    show 0 ≤ σ2 28 7 ∧ σ2 28 7 ≤ 99
    omega
  · have e7 : σ2 28 7 = ω 22 (ω 34 6) := by rw [(zCg_o g).2 7 (by decide), hb.2.2.2.1, (r2 hc).1]
    have e8 : σ2 28 8 = ω 23 (ω 34 6) := by rw [(zCg_o g).2 8 (by decide), hb.2.2.2.2, (r2 hc).2.1]
    obtain ⟨m, m1, m2, m3, m4⟩ := b5.2 (ω 34 6) hc b6.2
    have q := yPr_in (c := ω 34 6) m3.2.2.2
    rw [← m3.1, ← m3.2.1] at q
    show (σ2 28 8 = -1 ∨ _) ∧ 0 ≤ σ2 28 7 ∧ σ2 28 7 ≤ 99
    refine ⟨?_, by rw [e7]; exact q.2⟩
    show σ2 28 8 = -1 ∨ (ω 3 12 ≤ σ2 28 8 ∧ σ2 28 8 ≤ ω 3 13)
    rw [e8]
    exact q.1
theorem zJ_rol {ω τ : ab_S} (b2 : zTo ω) (b5 : yBo ω τ) (b6 : -1 ≤ ω 34 6 ∧ ω 34 6 < ω 21 6) (b9 : zRol ω) : zJ ω := by
  have pr := zPr_rol b5 b6 b9
  obtain ⟨t1, t2, t3, t4, t5, t6, t7, t8, t9⟩ := b2
  have hC := t2.1
  have hS := t2.2.1
  refine ⟨t2, ⟨fun k k1 k2 => ?_, fun s s1 s2 => t5 s s1 (by omega), zRol_sh b9, t7⟩, t4, zRol_mt t2 b9, t6, t8, pr.2, ?_⟩
  · have := t3 k k1 (by omega)
    omega
  · have := pr.1
    omega
theorem zJ_cg {ω ω' : ab_S} (h : ∀ o, (3 ≤ o ∧ o ≤ 11) ∨ (28 ≤ o ∧ o ≤ 30) → ω' o = ω o) (hJ : zJ ω) : zJ ω' := by
  unfold zJ zTn zPp zMt
  rw [h 3 (by omega), h 6 (by omega), h 7 (by omega), h 8 (by omega), h 9 (by omega), h 10 (by omega), h 11 (by omega), h 28 (by omega), h 29 (by omega), h 30 (by omega)]
  exact hJ
theorem zDy_cg {ω ω' : ab_S} (h : ∀ o, (3 ≤ o ∧ o ≤ 11) ∨ (28 ≤ o ∧ o ≤ 30) → ω' o = ω o) (hD : zDy ω) : zDy ω' := by
  unfold zDy zSt zRe
  rw [h 3 (by omega), h 8 (by omega), h 9 (by omega), h 10 (by omega), h 29 (by omega), h 30 (by omega)]
  exact hD
/-- town, bakers and laws are the same -/
def zFb2 (ω ρ : ab_S) : Prop := (∀ o, (3 ≤ o ∧ o ≤ 11) ∨ (34 ≤ o ∧ o ≤ 39) → ρ o = ω o) ∧ zBk ω ρ
theorem yBo_bk {ω ω' τ : ab_S} (h3 : ω' 3 = ω 3) (hk : zBk ω ω') (hB : yBo ω τ) : yBo ω' τ := by
  refine ⟨by rw [hk.1]; exact hB.1, fun c c0 c1 => ?_⟩
  rw [hk.1] at c1
  obtain ⟨m, m1, m2, ⟨l1, l2, l3, l4⟩, m4⟩ := hB.2 c c0 c1
  obtain ⟨k1, k2, k3⟩ := hk.2.1 c c0 c1
  refine ⟨m, m1, m2, ⟨k1.trans l1, k2.trans l2, k3.trans l3, fun j hj => ?_⟩, m4⟩
  have q := l4 j hj
  have y := yCh_in (τ 17) (12 * c) j
  obtain ⟨e1, e2, e3⟩ := hk.2.2 (12 * c + yCh (τ 17) (12 * c) j) (by omega) (by omega)
  unfold yEn at q ⊢
  rw [h3, e1, e2, e3]
  exact q
theorem zBc_bk {ω ω' : ab_S} {c : Int} (h3 : ω' 3 = ω 3) (hk : zBk ω ω') (hc : 0 ≤ c ∧ c < ω 21 6) (hB : zBc ω c) : zBc ω' c := by
  obtain ⟨k1, k2, k3⟩ := hk.2.1 c hc.1 hc.2
  obtain ⟨q1, q2⟩ := hB
  refine ⟨by rw [k3]; exact q1, fun i i0 i1 => ?_⟩
  rw [k3] at i1
  obtain ⟨e1, e2, e3⟩ := hk.2.2 (12 * c + i) (by omega) (by omega)
  rw [e1, e2, e3, h3]
  exact q2 i i0 i1
/-- the roads of law c, laid beside the same town, bakers, laws -/
theorem zV_J {ω τ ρ T : ab_S} {c : Int} (b2 : zTo ω) (b5 : yBo ω τ) (b6 : zBa ω 34) (hF : zFb2 ω ρ) (hl : zLy ρ c T) (hc : -1 ≤ c ∧ c < ω 21 6) : zJ T ∧ zK T ∧ zDy T := by
  have lo := zLy_o hl
  have e : ∀ o, (3 ≤ o ∧ o ≤ 11) ∨ (34 ≤ o ∧ o ≤ 39) → T o = ω o := fun o ho => (lo o (by omega)).trans (hF.1 o ho)
  have hk : zBk ω T := by
    have := hF.2
    unfold zBk at this ⊢
    rw [lo 21 (by omega), lo 22 (by omega), lo 23 (by omega), lo 24 (by omega), lo 25 (by omega), lo 26 (by omega), lo 27 (by omega)]
    exact this
  have u : ∀ o, o ≠ 34 → ab_up T 34 6 c o = T o := fun o ho => ab_up_o o ho
  have t1 : zTo (ab_up T 34 6 c) := zTo_cg (fun o a b => (u o (by omega)).trans (e o (by omega))) b2
  have t2 : yBo (ab_up T 34 6 c) τ := yBo_bk (by rw [u 3 (by decide), e 3 (by omega)]) (by
    unfold zBk at hk ⊢
    rw [u 21 (by decide), u 22 (by decide), u 23 (by decide), u 24 (by decide), u 25 (by decide), u 26 (by decide), u 27 (by decide)]
    exact hk) b5
  have l6 : ab_up T 34 6 c 34 6 = c := by rw [ab_up_eq, ab_set_at, zu_at]
  have t3 : zRol (ab_up T 34 6 c) := by
    refine ⟨ρ, T, fun o a b => ?_, fun z => ?_, by rw [l6]; exact hl, by rw [u 28 (by decide)], by rw [u 28 (by decide)], u 29 (by decide), u 30 (by decide)⟩
    · rw [u o (by omega), lo o (by omega)]
    · rw [l6, u 22 (by decide), u 23 (by decide), u 24 (by decide), u 25 (by decide), u 26 (by decide), u 27 (by decide), lo 22 (by omega), lo 23 (by omega), lo 24 (by omega), lo 25 (by omega), lo 26 (by omega), lo 27 (by omega)]
      exact ⟨rfl, rfl, rfl, fun _ _ _ => ⟨rfl, rfl, rfl⟩⟩
  have c6 : -1 ≤ ab_up T 34 6 c 34 6 ∧ ab_up T 34 6 c 34 6 < ab_up T 34 6 c 21 6 := by
    rw [l6, u 21 (by decide), hk.1]
    exact hc
  refine ⟨zJ_cg (fun o ho => (u o (by omega)).symm) (zJ_rol t1 t2 c6 t3), ?_, zDy_cg (fun o ho => (u o (by omega)).symm) (zDy_rol t1.2.1 t3)⟩
  have hask := b2.2.2.2.2.2.2.2.1
  unfold zK zSt
  rw [e 3 (by omega), e 10 (by omega), e 34 (by omega), e 35 (by omega), e 36 (by omega), e 37 (by omega), e 38 (by omega), e 39 (by omega)]
  refine ⟨b6.1, fun j j1 j2 => ?_⟩
  obtain ⟨q1, q2, q3, q4, q5⟩ := b6.2.2 j j1 j2
  exact ⟨q1, ⟨Int.le_trans hask.1 q2.1, Int.le_trans q2.2 hask.2.2.1⟩, q3, q4, q5⟩
-- DETERMINISM
def zIr (f g : Int → Int) : Prop := ∀ k, 0 ≤ k → k < 144 → f k = g k
theorem zIr_u {f g : Int → Int} (h : zIr f g) (i v : Int) : zIr (zu f i v) (zu g i v) := by
  intro k k0 k1
  unfold zu
  split
  · rfl
  · exact h k k0 k1
theorem zIr_dg {f g : Int → Int} (h : zIr f g) : ∀ n : Nat, zIr (zdg f n) (zdg g n)
  | 0 => h
  | n + 1 => zIr_u (zIr_dg h n) _ _
theorem zIr_jn {f g : Int → Int} {a b s : Int} (h : zIr f g) (ha : 0 ≤ a ∧ a < 12) (hb : 0 ≤ b ∧ b < 12) : zIr (zjn f a b s) (zjn g a b s) := by
  unfold zjn
  rw [h (12 * a + b) (by omega) (by omega)]
  split
  · exact zIr_u (zIr_u h _ _) _ _
  · exact h
theorem zIr_st {f g sh sh2 a a2 b b2 s s2 : Int → Int} (h : zIr f g) : ∀ n : Nat, (∀ i : Nat, i < n → sh i = sh2 i ∧ a i = a2 i ∧ b i = b2 i ∧ s i = s2 i ∧ (0 ≤ a i ∧ a i < 12) ∧ (0 ≤ b i ∧ b i < 12)) → zIr (zst sh a b s f n) (zst sh2 a2 b2 s2 g n)
  | 0, _ => h
  | n + 1, hh => by
    have ih := zIr_st (sh := sh) (sh2 := sh2) (a := a) (a2 := a2) (b := b) (b2 := b2) (s := s) (s2 := s2) h n (fun i hi => hh i (by omega))
    obtain ⟨e1, e2, e3, e4, e5, e6⟩ := hh n (by omega)
    rw [zst, zst, ← e1, ← e2, ← e3, ← e4]
    split
    · exact zIr_jn ih e5 e6
    · exact ih
theorem zIr_pp {f g : Int → Int} {n v a b : Int} (h : zIr f g) (hv : 0 ≤ v ∧ v < 12) : zIr (zpp n v a b f) (zpp n v a b g) := by
  intro k k0 k1
  unfold zpp
  rw [h k k0 k1, h (12 * (k / 12) + v) (by omega) (by omega), h (12 * v + k % 12) (by omega) (by omega)]
theorem zIr_fw {f g : Int → Int} {n : Int} (h : zIr f g) : ∀ v : Nat, v ≤ 12 → zIr (zfw n f v) (zfw n g v)
  | 0, _ => h
  | v + 1, hv => by
    rw [zfw, zfw]
    exact zIr_pp (zIr_fw h v (by omega)) (by omega)
/-- roads that are the same as far as anybody looks -/
def zEq (σ ρ : ab_S) : Prop := (ρ 28 6 = σ 28 6 ∧ ρ 28 7 = σ 28 7 ∧ ρ 28 8 = σ 28 8) ∧ (∀ s, 0 ≤ s → s < 16 → ρ 30 s = σ 30 s) ∧ (∀ i, 0 ≤ i → i < σ 28 6 → ρ 31 i = σ 31 i ∧ ρ 32 i = σ 32 i ∧ ρ 33 i = σ 33 i) ∧ ∀ o, 3 ≤ o → o ≤ 11 → ρ o = σ o
theorem zEq_s {ω ω' σ σ' ρ ρ' : ab_S} {b i : Int} (h : zEq σ ρ) (e : ω' 25 (b + i) = ω 25 (b + i) ∧ ω' 26 (b + i) = ω 26 (b + i) ∧ ω' 27 (b + i) = ω 27 (b + i)) (h1 : zCs ω b i σ σ') (h2 : zCs ω' b i ρ ρ') : zEq σ' ρ' := by
  obtain ⟨⟨q1, q2, q3⟩, q4, q5, q6⟩ := h
  unfold zCs at h2
  rw [e.1, e.2.1, e.2.2] at h2
  rcases h1 with ⟨a1, a2, a3, a4⟩ | ⟨a1, a2, a3, a4, a5, a6⟩
  · rcases h2 with ⟨b1, b2, b3, b4⟩ | ⟨b1, -⟩
    · have e28 : σ' 28 = σ 28 := a2 28 (by decide) (by decide)
      have f28 : ρ' 28 = ρ 28 := b2 28 (by decide) (by decide)
      refine ⟨by rw [e28, f28]; exact ⟨q1, q2, q3⟩, fun s s0 s1 => ?_, fun j j0 j1 => ?_, fun o o1 o2 => by rw [a2 o (by omega) (by omega), b2 o (by omega) (by omega)]; exact q6 o o1 o2⟩
      · have x := a3 s
        have y := b3 s
        unfold zJs at x y
        rw [q6 8 (by decide) (by decide), q6 9 (by decide) (by decide), q6 3 (by decide) (by decide)] at y
        rcases x with ⟨x1, x2, x3⟩ | ⟨x1, x3⟩
        · rcases y with ⟨-, -, y3⟩ | ⟨y1, -⟩
          · rw [x3, y3]
          · exact absurd ⟨x1, x2⟩ y1
        · rcases y with ⟨y1, y2, -⟩ | ⟨-, y3⟩
          · exact absurd ⟨y1, y2⟩ x1
          · rw [x3, y3]
            exact q4 s s0 s1
      · rw [e28] at j1
        obtain ⟨w1, w2, w3⟩ := q5 j j0 j1
        rw [a2 31 (by decide) (by decide), a2 32 (by decide) (by decide), b2 31 (by decide) (by decide), b2 32 (by decide) (by decide)]
        refine ⟨w1, w2, ?_⟩
        have x := a4 j
        have y := b4 j
        unfold zJl at x y
        rw [w1, w2, q1] at y
        rcases x with ⟨x1, x2, x3⟩ | ⟨x1, x3⟩
        · rcases y with ⟨-, -, y3⟩ | ⟨y1, -⟩
          · rw [x3, y3]
          · exact absurd ⟨x1, x2⟩ y1
        · rcases y with ⟨y1, y2, -⟩ | ⟨-, y3⟩
          · exact absurd ⟨y1, y2⟩ x1
          · rw [x3, y3]
            exact w3
    · exact absurd a1 b1
  · rcases h2 with ⟨b1, -⟩ | ⟨b1, b2, b3, b4, b5, b6⟩
    · exact absurd b1 a1
    · refine ⟨?_, fun s s0 s1 => by rw [a2 30 (by decide) (by decide) (by decide) (by decide), b2 30 (by decide) (by decide) (by decide) (by decide)]; exact q4 s s0 s1, fun j j0 j1 => ?_, fun o o1 o2 => by rw [a2 o (by omega) (by omega) (by omega) (by omega), b2 o (by omega) (by omega) (by omega) (by omega)]; exact q6 o o1 o2⟩
      · rw [a3, b3, zu_at, zu_at, zu_ne _ _ (by decide), zu_ne _ _ (by decide), zu_ne _ _ (by decide), zu_ne _ _ (by decide), q1]
        exact ⟨rfl, q2, q3⟩
      · rw [a3, zu_at] at j1
        rw [a4, a5, a6, b4, b5, b6, q1]
        by_cases ej : j = σ 28 6
        · rw [ej, zu_at, zu_at, zu_at, zu_at, zu_at, zu_at]
          exact ⟨rfl, rfl, rfl⟩
        · rw [zu_ne _ _ ej, zu_ne _ _ ej, zu_ne _ _ ej, zu_ne _ _ ej, zu_ne _ _ ej, zu_ne _ _ ej]
          exact q5 j j0 (by omega)
theorem zLy_det {σ ρ σ' ρ' : ab_S} {c : Int} (hT : zTn σ) (ht : ∀ o, 3 ≤ o → o ≤ 11 → ρ o = σ o) (hb : 0 ≤ c → ρ 22 c = σ 22 c ∧ ρ 23 c = σ 23 c ∧ ρ 24 c = σ 24 c ∧ ∀ k, 12 * c ≤ k → k < 12 * c + 12 → ρ 25 k = σ 25 k ∧ ρ 26 k = σ 26 k ∧ ρ 27 k = σ 27 k) (hch : 0 ≤ c → σ 24 c ≤ 12) (h1 : zLy σ c σ') (h2 : zLy ρ c ρ') : (ρ' 28 6 = σ' 28 6 ∧ ρ' 28 7 = σ' 28 7 ∧ ρ' 28 8 = σ' 28 8) ∧ (∀ s, 0 ≤ s → s < 16 → ρ' 30 s = σ' 30 s) ∧ zIr (ρ' 29) (σ' 29) := by
  obtain ⟨σ1, σ2, hc, hw, rfl⟩ := h1
  obtain ⟨ρ1, ρ2, hc2, hw2, rfl⟩ := h2
  have base : ∀ (a p : Int), zB0 σ a p σ1 → zB0 ρ a p ρ1 → zEq σ1 ρ1 := by
    intro a p x y
    obtain ⟨x1, x2, x3, x4, x5⟩ := x
    obtain ⟨y1, y2, y3, y4, y5⟩ := y
    refine ⟨⟨y3.trans x3.symm, y4.trans x4.symm, y5.trans x5.symm⟩, fun s s0 s1 => (y2 s s0 s1).trans (x2 s s0 s1).symm, fun i i0 i1 => ?_, fun o o1 o2 => ?_⟩
    · have : σ1 28 6 = 0 := x3
      have i1' : i < σ1 28 6 := i1
      omega
    · rw [x1 o (by omega) (by omega), y1 o (by omega) (by omega)]
      exact ht o o1 o2
  have E : zEq σ2 ρ2 := by
    rcases hc with ⟨hc, x, e1⟩ | ⟨hc, x, g⟩
    · rcases hc2 with ⟨-, y, e2⟩ | ⟨hc2, -⟩
      · rw [e1, e2]
        exact base 0 (-1) x y
      · omega
    · rcases hc2 with ⟨hc2, -⟩ | ⟨-, y, g2⟩
      · omega
      · obtain ⟨q1, q2, q3, q4⟩ := hb hc
        rw [q1, q2] at y
        rw [q3] at g2
        have b0 := base _ _ x y
        obtain ⟨r, r0, rn, rs⟩ := g
        obtain ⟨w, w0, wn, ws⟩ := g2
        have c12 := hch hc
        have key : ∀ i : Nat, i ≤ (σ 24 c).toNat → zEq (r i) (w i) := by
          intro i
          induction i with
          | zero =>
            intro _
            rw [r0, w0]
            exact b0
          | succ i ih =>
            intro hi
            refine zEq_s (ih (by omega)) ?_ (rs i (by omega)) (ws i (by omega))
            have z := q4 (12 * c + i) (by omega) (by omega)
            rw [x.1 25 (by decide) (by decide), x.1 26 (by decide) (by decide), x.1 27 (by decide) (by decide), y.1 25 (by decide) (by decide), y.1 26 (by decide) (by decide), y.1 27 (by decide) (by decide)]
            exact z
        have := key _ (Nat.le_refl _)
        rw [rn, wn] at this
        exact this
  obtain ⟨⟨q1, q2, q3⟩, q4, q5, q6⟩ := E
  have s2 : ∀ o, 3 ≤ o → o ≤ 11 → σ2 o = σ o := fun o o1 o2 => by
    rcases hc with ⟨-, x, e1⟩ | ⟨-, x, g⟩
    · rw [e1]
      exact x.1 o (by omega) (by omega)
    · exact ((zCg_o g).1 o (by omega) (by omega)).trans (x.1 o (by omega) (by omega))
  have hT2 : zTn σ2 := by
    unfold zTn
    rw [s2 3 (by decide) (by decide), s2 8 (by decide) (by decide), s2 9 (by decide) (by decide), s2 10 (by decide) (by decide)]
    exact hT
  refine ⟨?_, fun s s0 s1 => ?_, ?_⟩
  · rw [ab_set_ne _ _ (by decide), ab_set_ne _ _ (by decide)]
    exact ⟨q1, q2, q3⟩
  · rw [ab_set_ne _ _ (by decide), ab_set_ne _ _ (by decide)]
    exact q4 s s0 s1
  · rw [ab_set_at, ab_set_at, ht 3 (by decide) (by decide)]
    have hC := hT.1
    have hS := hT2.2.1
    have hC2 := hT2.1
    refine zIr_fw ?_ _ (by omega)
    unfold znb
    rw [q1, q6 3 (by decide) (by decide), q6 8 (by decide) (by decide), q6 9 (by decide) (by decide), q6 10 (by decide) (by decide)]
    refine zIr_st (zIr_st (zIr_dg (fun k k0 k1 => ?_) _) _ (fun i hi => ?_)) _ (fun i hi => ?_)
    · unfold zfill
      rw [if_pos ⟨k0, k1⟩, if_pos ⟨k0, k1⟩]
    · obtain ⟨f1, f2, f3⟩ := hT2.2.2 i (by omega) (by omega)
      exact ⟨q4 i (by omega) (by omega), rfl, rfl, rfl, by omega, by omega⟩
    · obtain ⟨w1, w2, w3⟩ := q5 i (by omega) (by omega)
      obtain ⟨p1, p2, p3⟩ := hw.2.2 i (by omega) (by omega)
      exact ⟨rfl, w1, w2, w3, by rw [w1]; omega, by rw [w2]; omega⟩
