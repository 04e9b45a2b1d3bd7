-- CLASS: the market with given stands
/-- nothing that lasts is otherwise (the links are scratch) -/
def zFr (ω σ : ab_S) : Prop := ∀ o, (o < 65 ∧ ¬ (31 ≤ o ∧ o ≤ 33)) → σ o = ω o
/-- nothing but the market is otherwise -/
def zFm (σ ρ : ab_S) : Prop := ∀ o, (o < 65 ∨ 75 < o) → ρ o = σ o
theorem zFm_refl (σ : ab_S) : zFm σ σ := fun _ _ => rfl
theorem zFm_trans {σ ρ υ : ab_S} (h1 : zFm σ ρ) (h2 : zFm ρ υ) : zFm σ υ := fun o ho => (h2 o ho).trans (h1 o ho)
theorem zFr_m {ω σ ρ : ab_S} (h1 : zFr ω σ) (h2 : zFm σ ρ) : zFr ω ρ := fun o ho => (h2 o (Or.inl ho.1)).trans (h1 o ho)
theorem zTn_fr {ω σ : ab_S} (h : zFr ω σ) : zTn σ = zTn ω := by
  unfold zTn
  rw [h 3 (by decide), h 8 (by decide), h 9 (by decide), h 10 (by decide)]
theorem zSt_fr {ω σ : ab_S} (h : zFr ω σ) (p : Int) : zSt σ p = zSt ω p := by
  unfold zSt
  rw [h 3 (by decide), h 10 (by decide)]
theorem zPp_fr {ω σ : ab_S} (h : zFr ω σ) : zPp σ = zPp ω := by
  unfold zPp
  rw [h 3 (by decide), h 6 (by decide), h 11 (by decide), h 30 (by decide)]
theorem zbits_congr {n h : Int} {f g : Int → Int} (hn : n ≤ 4) (hf : ∀ j, 0 ≤ j → j < n → f j = g j) : zbits n f h = zbits n g h := by
  unfold zbits
  refine zb4_congr (fun j p1 p2 => ?_)
  rw [Bool.eq_iff_iff, zB_iff hn, zB_iff hn]
  constructor
  · rintro ⟨q1, q2, q3⟩
    refine ⟨q1, by rw [← hf j p1 q1]; exact q2, fun i z1 z2 => ?_⟩
    rw [← hf j p1 q1, ← hf i z1 z2]
    exact q3 i z1 z2
  · rintro ⟨q1, q2, q3⟩
    refine ⟨q1, by rw [hf j p1 q1]; exact q2, fun i z1 z2 => ?_⟩
    rw [hf j p1 q1, hf i z1 z2]
    exact q3 i z1 z2
/-- steps from a SPOT to a corner: 100000 and more, none -/
def zRe (ω : ab_S) (p c : Int) : Int := zrc (ω 29) (ω 8) (ω 9) (ω 10) (ω 30) p c
/-- the market as it is with the stands sp, pr -/
def zmk (ω : ab_S) (sp pr : Int → Int) : ab_S := ab_set (ab_set (ab_set (ab_set (ab_set ω 66 sp) 67 pr) 68 (fun k => zRe ω (sp (k / 12)) (k % 12))) 71 (ω 37)) 65 (fun k => if k = 7 then ω 34 5 else ω 3 10)
/-- it holds them -/
def zLd (ω : ab_S) (sp pr : Int → Int) (σ : ab_S) : Prop := zFr ω σ ∧ σ 65 7 = ω 34 5 ∧ σ 65 8 = ω 3 10 ∧ ∀ j, 0 ≤ j → j < ω 34 5 → σ 66 j = sp j ∧ σ 67 j = pr j ∧ σ 71 j = ω 37 j ∧ σ 72 j = ω 38 j ∧ ∀ c, 0 ≤ c → c < ω 3 8 → σ 68 (12 * j + c) = zRe ω (sp j) c
theorem zmk_65 (ω : ab_S) (sp pr : Int → Int) : zmk ω sp pr 65 = fun k => if k = 7 then ω 34 5 else ω 3 10 := rfl
theorem zmk_66 (ω : ab_S) (sp pr : Int → Int) : zmk ω sp pr 66 = sp := rfl
theorem zmk_67 (ω : ab_S) (sp pr : Int → Int) : zmk ω sp pr 67 = pr := rfl
theorem zmk_68 (ω : ab_S) (sp pr : Int → Int) (j c : Int) (hc : 0 ≤ c ∧ c < 12) : zmk ω sp pr 68 (12 * j + c) = zRe ω (sp j) c := by
  show zRe ω (sp ((12 * j + c) / 12)) ((12 * j + c) % 12) = _
  rw [show (12 * j + c) / 12 = j by omega, show (12 * j + c) % 12 = c by omega]
theorem zmk_fr (ω : ab_S) (sp pr : Int → Int) : zFr ω (zmk ω sp pr) := by
  intro o ho
  unfold zmk
  rw [ab_set_ne _ _ (by omega), ab_set_ne _ _ (by omega), ab_set_ne _ _ (by omega), ab_set_ne _ _ (by omega), ab_set_ne _ _ (by omega)]
theorem zmk_ld (ω : ab_S) (sp pr : Int → Int) (hC : ω 3 8 ≤ 12) : zLd ω sp pr (ab_set (zmk ω sp pr) 72 (ω 38)) := by
  refine ⟨fun o ho => ?_, rfl, rfl, fun j j1 j2 => ⟨rfl, rfl, rfl, rfl, fun c c1 c2 => ?_⟩⟩
  · rw [ab_set_ne _ _ (by omega)]
    exact zmk_fr ω sp pr o ho
  · rw [ab_set_ne _ _ (by omega)]
    exact zmk_68 ω sp pr j c (by omega)
theorem zCm_ld {ω σ : ab_S} {sp pr : Int → Int} (hC : ω 3 8 ≤ 12) (hn : ω 34 5 ≤ 4) (hL : zLd ω sp pr σ) {k : Int} (hk : 0 ≤ k ∧ k < ω 3 8) : zCm σ k = zCm (zmk ω sp pr) k := by
  obtain ⟨h1, h2, h3, h4⟩ := hL
  have e3 : σ 3 = ω 3 := h1 _ (by decide)
  have e7 : σ 7 = ω 7 := h1 _ (by decide)
  unfold zCm
  rw [h2, e3]
  show zbits (ω 34 5) (zCk σ k) (ω 3 11) = zbits (ω 34 5) (zCk (zmk ω sp pr) k) (ω 3 11)
  refine zbits_congr hn (fun j p1 p2 => ?_)
  obtain ⟨q1, q2, q3, q4, q5⟩ := h4 j p1 p2
  have q6 := q5 k hk.1 hk.2
  show σ 67 j + σ 65 8 * σ 68 (12 * j + k) - σ 7 (3 * k + σ 71 j) = pr j + ω 3 10 * zmk ω sp pr 68 (12 * j + k) - ω 7 (3 * k + ω 37 j)
  rw [q2, h3, q6, q3, e7, zmk_68 ω sp pr j k (by omega)]
theorem zCX_ld {ω σ : ab_S} {sp pr : Int → Int} (hT : zTn ω) (hL : zLd ω sp pr σ) {s : Int} (hs : 0 ≤ s ∧ s < ω 3 9) {j X : Int} (hj : 0 ≤ j ∧ j < ω 34 5) : zCX σ 65 s X j = zCX (zmk ω sp pr) 65 s X j := by
  obtain ⟨h1, h2, h3, h4⟩ := hL
  have hT1 := hT.1
  obtain ⟨f1, f2, f3⟩ := hT.2.2 s hs.1 hs.2
  have e8 : σ 8 = ω 8 := h1 _ (by decide)
  have e9 : σ 9 = ω 9 := h1 _ (by decide)
  have e10 : σ 10 = ω 10 := h1 _ (by decide)
  obtain ⟨q1, q2, q3, q4, q5⟩ := h4 j hj.1 hj.2
  have g8 : zmk ω sp pr 8 = ω 8 := rfl
  have g9 : zmk ω sp pr 9 = ω 9 := rfl
  have g10 : zmk ω sp pr 10 = ω 10 := rfl
  have g65 : zmk ω sp pr 65 8 = ω 3 10 := rfl
  simp only [zCX, Nat.reduceAdd]
  rw [zmk_66, zmk_67, g8, g9, g10, g65, e8, e9, e10, q1, q2, h3, q5 (ω 8 s) f1.1 f1.2, q5 (ω 9 s) f2.1 f2.2, zmk_68 ω sp pr j (ω 8 s) (by omega), zmk_68 ω sp pr j (ω 9 s) (by omega)]
theorem zTal_ld {ω σ : ab_S} {sp pr : Int → Int} (hT : zTn ω) (hn : ω 34 5 ≤ 4) (hL : zLd ω sp pr σ) {x : Int} {k s : Nat} (hk : (k : Int) ≤ ω 3 8) (hs : (s : Int) ≤ ω 3 9) : zTal σ x k s = zTal (zmk ω sp pr) x k s := by
  have hT1 := hT.1
  have h1 := hL.1
  have h2 := hL.2.1
  have h3 := hL.2.2.1
  have e3 : σ 3 = ω 3 := h1 _ (by decide)
  have e6 : σ 6 = ω 6 := h1 _ (by decide)
  have e10 : σ 10 = ω 10 := h1 _ (by decide)
  have e11 : σ 11 = ω 11 := h1 _ (by decide)
  have e30 : σ 30 = ω 30 := h1 _ (by decide)
  unfold zTal
  congr 1
  · refine zS_congr (fun i hi => ?_)
    rw [zCm_ld hT1.2 hn hL (by omega), h3, e6]
    rfl
  · refine zS_congr (fun i hi => ?_)
    have e : ∀ c, zCells σ 65 i x c = zCells (zmk ω sp pr) 65 i x c := by
      intro c
      unfold zCells
      refine zS_congr (fun l hl => ?_)
      rw [h2, e3]
      show (if zbits (ω 34 5) (zCX σ 65 i (2 * l + 1)) (4 * ω 3 11) = x then 1 else 0) = (if zbits (ω 34 5) (zCX (zmk ω sp pr) 65 i (2 * l + 1)) (4 * ω 3 11) = x then 1 else 0)
      rw [zbits_congr hn (fun j j1 j2 => zCX_ld hT hL (by omega) ⟨j1, j2⟩)]
    rw [e, h3, e10, e11, e30]
    rfl
/-- SOLD, who buys at a corner, PARTS that buy nowhere -/
def zE (ω : ab_S) (sp pr : Int → Int) (j : Int) : Int := zsl (fun x => zTal (zmk ω sp pr) x (ω 3 8).toNat (ω 3 9).toNat) j 15
def zM (ω : ab_S) (sp pr : Int → Int) (k : Int) : Int := zCm (zmk ω sp pr) k
def zH (ω : ab_S) (sp pr : Int → Int) : Int := zTal (zmk ω sp pr) 0 (ω 3 8).toNat (ω 3 9).toNat
theorem zsl_congr {T U : Int → Int} {j : Int} (h : ∀ x, 0 ≤ x → x < 16 → T x = U x) : zsl T j 15 = zsl U j 15 := by
  unfold zsl
  refine zS_congr (fun i hi => ?_)
  rw [h (i + 1) (by omega) (by omega)]
theorem zsl_in {T : Int → Int} {j B : Int} (hB : 0 ≤ B) (h : ∀ x, 0 ≤ x → x < 16 → 0 ≤ T x ∧ T x ≤ B) : 0 ≤ zsl T j 15 ∧ zsl T j 15 ≤ 15 * B := by
  unfold zsl
  refine zS_in (f := fun i : Nat => zbj (i + 1) j * (T (i + 1) / zpop (i + 1))) (B := B) hB (n := 15) (fun i hi => ?_)
  have q := h (i + 1) (by omega) (by omega)
  have hp := zpop_in (m := (i : Int) + 1) (by omega)
  have d1 : 0 ≤ T (i + 1) / zpop (i + 1) := Int.ediv_nonneg q.1 (by omega)
  have d2 : T (i + 1) / zpop (i + 1) ≤ T (i + 1) := Int.ediv_le_self _ q.1
  rcases zbj_in (i + 1) j with z | z <;> rw [z] <;> omega
/-- the fewest steps between corners are such -/
def zMt (ω : ab_S) : Prop := zin 100000 (ω 29) ∧ (∀ a, 0 ≤ a → a < ω 3 8 → ω 29 (12 * a + a) = 0) ∧ (∀ a b c, 0 ≤ a → a < ω 3 8 → 0 ≤ b → b < ω 3 8 → 0 ≤ c → c < ω 3 8 → ω 29 (12 * a + b) ≤ ω 29 (12 * a + c) + ω 29 (12 * c + b)) ∧ (∀ a b, 0 ≤ a → a < ω 3 8 → 0 ≤ b → b < ω 3 8 → ω 29 (12 * a + b) = ω 29 (12 * b + a)) ∧ (∀ s, 0 ≤ s → s < ω 3 9 → ω 30 s = 0 → ω 29 (12 * ω 8 s + ω 9 s) ≤ ω 10 s)
/-- all that lasts is as it may be: the town and the roads -/
def zJ (ω : ab_S) : Prop := zTn ω ∧ zPp ω ∧ (∀ k, 0 ≤ k → k < 36 → 0 ≤ ω 7 k ∧ ω 7 k ≤ 20) ∧ zMt ω ∧ (1 ≤ ω 3 10 ∧ ω 3 10 ≤ 5) ∧ (0 ≤ ω 3 12 ∧ ω 3 12 ≤ ω 3 13 ∧ ω 3 13 ≤ 60 ∧ ω 3 13 ≤ ω 3 12 + 20) ∧ (0 ≤ ω 28 7 ∧ ω 28 7 ≤ 99) ∧ (ω 28 8 = -1 ∨ (0 ≤ ω 28 8 ∧ ω 28 8 ≤ 60))
/-- and the bakers -/
def zK (ω : ab_S) : Prop := (0 ≤ ω 34 5 ∧ ω 34 5 ≤ 4) ∧ ∀ j, 0 ≤ j → j < ω 34 5 → zSt ω (ω 35 j) ∧ (0 ≤ ω 36 j ∧ ω 36 j ≤ 60) ∧ (0 ≤ ω 37 j ∧ ω 37 j < 3) ∧ (0 ≤ ω 38 j ∧ ω 38 j < 4) ∧ (0 ≤ ω 39 j ∧ ω 39 j < 3)
/-- stands that may be -/
def zOk (ω : ab_S) (sp pr : Int → Int) : Prop := ∀ j, 0 ≤ j → j < ω 34 5 → zSt ω (sp j) ∧ (0 ≤ pr j ∧ pr j ≤ 60)
theorem zRe_in {ω : ab_S} {p c : Int} (hT : zTn ω) (hin : zin 100000 (ω 29)) (hp : zSt ω p) (hc : 0 ≤ c ∧ c < ω 3 8) : 0 ≤ zRe ω p c ∧ zRe ω p c ≤ 100012 := by
  have hT1 := hT.1
  unfold zRe zrc zto
  by_cases h : p < 100
  · have q := zSt_c hp h
    rw [if_neg (by omega), if_pos h]
    have := hin (12 * p + c) (by omega) (by omega)
    omega
  · have q := zSt_st hT hp (by omega)
    have q1 := hin (12 * ω 8 ((p - 100) / 20) + c) (by omega) (by omega)
    have q2 := hin (12 * ω 9 ((p - 100) / 20) + c) (by omega) (by omega)
    split <;> omega
/-- over an open street -/
theorem zRe_tri {ω : ab_S} {p s : Int} (hJ : zJ ω) (hp : zSt ω p) (hs : 0 ≤ s ∧ s < ω 3 9) (ho : ω 30 s = 0) : zRe ω p (ω 8 s) ≤ zRe ω p (ω 9 s) + ω 10 s ∧ zRe ω p (ω 9 s) ≤ zRe ω p (ω 8 s) + ω 10 s ∧ ((100 ≤ p ∧ (p - 100) / 20 = s) → zRe ω p (ω 8 s) ≤ (p - 100) % 20 ∧ zRe ω p (ω 9 s) ≤ ω 10 s - (p - 100) % 20) := by
  obtain ⟨hT, -, -, ⟨hin, hd, htr, hsy, hst⟩, -⟩ := hJ
  have hT1 := hT.1
  obtain ⟨f1, f2, f3⟩ := hT.2.2 s hs.1 hs.2
  have w := hst s hs.1 hs.2 ho
  have w2 := hsy (ω 8 s) (ω 9 s) f1.1 f1.2 f2.1 f2.2
  unfold zRe zrc zto
  by_cases h : p < 100
  · have q := zSt_c hp h
    have t1 := htr p (ω 8 s) (ω 9 s) q.1 q.2 f1.1 f1.2 f2.1 f2.2
    have t2 := htr p (ω 9 s) (ω 8 s) q.1 q.2 f2.1 f2.2 f1.1 f1.2
    rw [if_neg (by omega), if_pos h, if_neg (by omega), if_pos h]
    omega
  · have q := zSt_st hT hp (by omega)
    have t1 := htr (ω 8 ((p - 100) / 20)) (ω 8 s) (ω 9 s) q.2.2.1.1 q.2.2.1.2 f1.1 f1.2 f2.1 f2.2
    have t2 := htr (ω 8 ((p - 100) / 20)) (ω 9 s) (ω 8 s) q.2.2.1.1 q.2.2.1.2 f2.1 f2.2 f1.1 f1.2
    have t3 := htr (ω 9 ((p - 100) / 20)) (ω 8 s) (ω 9 s) q.2.2.2.1.1 q.2.2.2.1.2 f1.1 f1.2 f2.1 f2.2
    have t4 := htr (ω 9 ((p - 100) / 20)) (ω 9 s) (ω 8 s) q.2.2.2.1.1 q.2.2.2.1.2 f2.1 f2.2 f1.1 f1.2
    have d1 := hd (ω 8 s) f1.1 f1.2
    have d2 := hd (ω 9 s) f2.1 f2.2
    by_cases hc : 100 ≤ p ∧ ¬ ω 30 ((p - 100) / 20) = 0
    · rw [if_pos hc, if_pos hc]
      refine ⟨by omega, by omega, fun z => ?_⟩
      rw [z.2] at hc
      exact absurd ho hc.2
    · rw [if_neg hc, if_neg h, if_neg hc, if_neg h]
      refine ⟨by omega, by omega, fun z => ?_⟩
      rw [z.2]
      omega
theorem zE_in {ω : ab_S} {sp pr : Int → Int} (hJ : zJ ω) (j : Int) : 0 ≤ zE ω sp pr j ∧ zE ω sp pr j ≤ 100000000 := by
  obtain ⟨hT, hP, hl, hM, hst, -⟩ := hJ
  have hT1 := hT.1
  have hT2 := hT.2.1
  unfold zE
  have := zsl_in (T := fun x => zTal (zmk ω sp pr) x (ω 3 8).toNat (ω 3 9).toNat) (j := j) (B := 748800) (by omega) (fun x x1 x2 => ?_)
  · omega
  · obtain ⟨p1, p2, p3, p4⟩ := hP
    have a := zS_in (f := fun i : Nat => if zCm (zmk ω sp pr) i = x then 24 * ω 3 10 * ω 6 i else 0) (B := 24000) (by omega) (n := (ω 3 8).toNat) (fun i hi => by
      have q := p1 i (by omega) (by omega)
      have q2 := zmul5 hst (x := ω 6 i) (by omega)
      have e : 24 * ω 3 10 * ω 6 i = 24 * (ω 3 10 * ω 6 i) := Int.mul_assoc _ _ _
      split <;> omega)
    have b := zS_in (f := fun i : Nat => if ω 30 i = 0 then 12 * ω 11 i * zCells (zmk ω sp pr) 65 i x (2 * (ω 3 10 * ω 10 i)).toNat else 0) (B := 240 * 120) (by omega) (n := (ω 3 9).toNat) (fun i hi => by
      have q := p2 i (by omega) (by omega)
      have q2 := hT.2.2 i (by omega) (by omega)
      have q3 := zmul12 hst (t := ω 10 i) (by omega)
      have q4 := zCells_in (zmk ω sp pr) 65 i x (2 * (ω 3 10 * ω 10 i)).toNat
      have q5 : 12 * ω 11 i * zCells (zmk ω sp pr) 65 i x (2 * (ω 3 10 * ω 10 i)).toNat ≤ 240 * zCells (zmk ω sp pr) 65 i x (2 * (ω 3 10 * ω 10 i)).toNat := Int.mul_le_mul_of_nonneg_right (by omega) q4.1
      have q6 : 0 ≤ 12 * ω 11 i * zCells (zmk ω sp pr) 65 i x (2 * (ω 3 10 * ω 10 i)).toNat := Int.mul_nonneg (by omega) q4.1
      split <;> omega)
    have e : zTal (zmk ω sp pr) x (ω 3 8).toNat (ω 3 9).toNat = zS (fun i : Nat => if zCm (zmk ω sp pr) i = x then 24 * ω 3 10 * ω 6 i else 0) (ω 3 8).toNat + zS (fun i : Nat => if ω 30 i = 0 then 12 * ω 11 i * zCells (zmk ω sp pr) 65 i x (2 * (ω 3 10 * ω 10 i)).toNat else 0) (ω 3 9).toNat := rfl
    show 0 ≤ zTal (zmk ω sp pr) x (ω 3 8).toNat (ω 3 9).toNat ∧ zTal (zmk ω sp pr) x (ω 3 8).toNat (ω 3 9).toNat ≤ 748800
    rw [e]
    omega
/-- the price that is asked -/
def zpr (ω : ab_S) (pr : Int → Int) (j : Int) : Int := if ω 28 8 = -1 then pr j else ω 28 8
