-- SPEC: moves of a seller, the best of them
/-- seller s takes the move m -/
def zTs (ω : ab_S) (sp : Int → Int) (s m : Int) : Int → Int := if ω 39 s = 1 then sp else zu sp s m
def zTp (ω : ab_S) (pr : Int → Int) (s m : Int) : Int → Int := if ω 39 s = 1 then zu pr s m else pr
def zNow (ω : ab_S) (sp pr : Int → Int) (s : Int) : Int := if ω 39 s = 1 then pr s else sp s
def zG (ω : ab_S) (sp pr : Int → Int) (s m : Int) : Int := zT ω (zTs ω sp s m) (zTp ω pr s m) (ω 38 s)
/-- a move other than to stay -/
def zCd (ω : ab_S) (sp pr : Int → Int) (s m : Int) : Prop := (ω 39 s = 0 ∧ zSt ω m ∧ m ≠ sp s ∧ ¬ zshp (ω 30) m ∧ zFar ω sp s m) ∨ (ω 39 s = 1 ∧ ω 28 8 = -1 ∧ ω 3 12 ≤ m ∧ m ≤ ω 3 13 ∧ m ≠ pr s)
def zVm (ω : ab_S) (s m : Int) : Prop := (ω 39 s = 1 → 0 ≤ m ∧ m ≤ 60) ∧ (ω 39 s ≠ 1 → zSt ω m)
theorem zu_self (f : Int → Int) (i : Int) : zu f i (f i) = f := by
  funext k
  unfold zu
  split
  · rename_i h
    rw [h]
  · rfl
theorem zu_zu (f : Int → Int) (i a b : Int) : zu (zu f i a) i b = zu f i b := by
  funext k
  unfold zu
  split <;> rfl
theorem zTs_now (ω : ab_S) (sp pr : Int → Int) (s : Int) : zTs ω sp s (zNow ω sp pr s) = sp ∧ zTp ω pr s (zNow ω sp pr s) = pr := by
  unfold zTs zTp zNow
  split
  · exact ⟨rfl, zu_self _ _⟩
  · exact ⟨zu_self _ _, rfl⟩
theorem zOk_t {ω : ab_S} {sp pr : Int → Int} {s m : Int} (ho : zOk ω sp pr) (hm : zVm ω s m) : zOk ω (zTs ω sp s m) (zTp ω pr s m) := by
  unfold zTs zTp
  by_cases h : ω 39 s = 1
  · rw [if_pos h, if_pos h]
    exact zOk_pr ho (hm.1 h)
  · rw [if_neg h, if_neg h]
    exact zOk_sp ho (hm.2 h)
theorem zVm_cd {ω : ab_S} {sp pr : Int → Int} {s m : Int} (hJ : zJ ω) (h : zCd ω sp pr s m) : zVm ω s m := by
  have ha := hJ.2.2.2.2.2.1
  rcases h with ⟨h1, h2, -⟩ | ⟨h1, h2, h3, h4, h5⟩
  · exact ⟨fun q => by omega, fun _ => h2⟩
  · exact ⟨fun _ => by omega, fun q => absurd h1 q⟩
theorem zVm_now {ω : ab_S} {sp pr : Int → Int} {s : Int} (ho : zOk ω sp pr) (hs : 0 ≤ s ∧ s < ω 34 5) : zVm ω s (zNow ω sp pr s) := by
  have q := ho s hs.1 hs.2
  unfold zNow
  constructor
  · intro z
    rw [if_pos z]
    exact q.2
  · intro z
    rw [if_neg z]
    exact q.1
theorem zCd_le {ω : ab_S} {sp pr : Int → Int} {s m : Int} (hJ : zJ ω) (h : zCd ω sp pr s m) : 0 ≤ m ∧ m < 420 := by
  have ha := hJ.2.2.2.2.2.1
  rcases h with ⟨h1, h2, -⟩ | ⟨h1, h2, h3, h4, h5⟩
  · exact zSt_le hJ.1 h2
  · omega
/-- the first of the best, over the numbers below -/
noncomputable def zbf (P : Int → Prop) (g : Int → Int) (now : Int) : Nat → Int × Int
  | 0 => (now, g now)
  | m + 1 => @ite _ (P m ∧ (zbf P g now m).2 < g m) (Classical.propDecidable _) ((m : Int), g m) (zbf P g now m)
theorem zbf_yes {P : Int → Prop} {g : Int → Int} {now : Int} {m : Nat} (h1 : P m) (h2 : (zbf P g now m).2 < g m) : zbf P g now (m + 1) = ((m : Int), g m) := by
  rw [zbf]
  exact if_pos ⟨h1, h2⟩
theorem zbf_no {P : Int → Prop} {g : Int → Int} {now : Int} {m : Nat} (h : ¬ (P m ∧ (zbf P g now m).2 < g m)) : zbf P g now (m + 1) = zbf P g now m := by
  rw [zbf]
  exact if_neg h
theorem zbf_skip {P : Int → Prop} {g : Int → Int} {now : Int} {a : Nat} : ∀ {n : Nat}, (∀ i : Nat, a ≤ i → i < a + n → ¬ P i) → zbf P g now (a + n) = zbf P g now a
  | 0, _ => rfl
  | n + 1, h => by
    rw [← Nat.add_assoc, zbf_no (fun q => h (a + n) (by omega) (by omega) q.1), zbf_skip (n := n) (fun i h1 h2 => h i h1 (by omega))]
theorem zbf_skip2 {P : Int → Prop} {g : Int → Int} {now : Int} {a b : Nat} (hab : a ≤ b) (h : ∀ i : Nat, a ≤ i → i < b → ¬ P i) : zbf P g now b = zbf P g now a := by
  have := zbf_skip (P := P) (g := g) (now := now) (a := a) (n := b - a) (fun i h1 h2 => h i h1 (by omega))
  rw [show a + (b - a) = b by omega] at this
  exact this
theorem zbf_in (P : Int → Prop) (g : Int → Int) (now : Int) : ∀ n : Nat, (zbf P g now n).2 = g (zbf P g now n).1 ∧ ((zbf P g now n).1 = now ∨ P (zbf P g now n).1)
  | 0 => ⟨rfl, Or.inl rfl⟩
  | n + 1 => by
    by_cases h : P n ∧ (zbf P g now n).2 < g n
    · rw [zbf_yes h.1 h.2]
      exact ⟨rfl, Or.inr h.1⟩
    · rw [zbf_no h]
      exact zbf_in P g now n
theorem zbf_now {P : Int → Prop} {g : Int → Int} {now : Int} {n : Nat} (h : (zbf P g now n).1 = now) (hn : ¬ P now) : ∀ i : Nat, i < n → P i → g i ≤ g now := by
  induction n with
  | zero => intro i hi; omega
  | succ n ih =>
    by_cases hc : P n ∧ (zbf P g now n).2 < g n
    · rw [zbf_yes hc.1 hc.2] at h
      dsimp only at h
      rw [← h] at hn
      exact absurd hc.1 hn
    · rw [zbf_no hc] at h
      intro i hi hP
      by_cases e : i = n
      · subst e
        have q := (zbf_in P g now i).1
        rw [h] at q
        have : ¬ (zbf P g now i).2 < g i := fun z => hc ⟨hP, z⟩
        omega
      · exact ih h i (by omega) hP
theorem zbf_mv {P : Int → Prop} {g : Int → Int} {now : Int} : ∀ {n : Nat}, (zbf P g now n).1 ≠ now → ∃ i : Nat, i < n ∧ P i ∧ g now < g i
  | 0, h => absurd rfl h
  | n + 1, h => by
    by_cases hc : P n ∧ (zbf P g now n).2 < g n
    · have hm : ∀ k : Nat, g now ≤ (zbf P g now k).2 := by
        intro k
        induction k with
        | zero => exact Int.le_refl _
        | succ k ihk =>
          by_cases hk : P k ∧ (zbf P g now k).2 < g k
          · rw [zbf_yes hk.1 hk.2]
            have := hk.2
            show g now ≤ g k
            omega
          · rw [zbf_no hk]
            exact ihk
      exact ⟨n, by omega, hc.1, by have := hm n; have := hc.2; omega⟩
    · rw [zbf_no hc] at h
      obtain ⟨i, h1, h2, h3⟩ := zbf_mv h
      exact ⟨i, by omega, h2, h3⟩
noncomputable def zBm (ω : ab_S) (sp pr : Int → Int) (s : Int) : Int := (zbf (zCd ω sp pr s) (zG ω sp pr s) (zNow ω sp pr s) 420).1
noncomputable def zBt (ω : ab_S) (sp pr : Int → Int) (s : Int) : Int := (zbf (zCd ω sp pr s) (zG ω sp pr s) (zNow ω sp pr s) 420).2
theorem zVm_bm {ω : ab_S} {sp pr : Int → Int} {s : Int} (hJ : zJ ω) (ho : zOk ω sp pr) (hs : 0 ≤ s ∧ s < ω 34 5) : zVm ω s (zBm ω sp pr s) := by
  rcases (zbf_in (zCd ω sp pr s) (zG ω sp pr s) (zNow ω sp pr s) 420).2 with h | h
  · unfold zBm
    rw [h]
    exact zVm_now ho hs
  · exact zVm_cd hJ h
theorem zCd_now {ω : ab_S} {sp pr : Int → Int} {s : Int} : ¬ zCd ω sp pr s (zNow ω sp pr s) := by
  unfold zCd zNow
  rintro (⟨h1, h2, h3, -⟩ | ⟨h1, h2, h3, h4, h5⟩)
  · rw [if_neg (by omega)] at h3
    exact h3 rfl
  · rw [if_pos h1] at h5
    exact h5 rfl
/-- the list of the other moves, as far as below a bound -/
def zOt (P : Int → Prop) (cnt : Int) (f : Int → Int) (bound cap : Int) : Prop := (0 ≤ cnt ∧ cnt ≤ cap) ∧ (∀ i, 0 ≤ i → i < cnt → P (f i) ∧ f i < bound) ∧ (∀ i j, 0 ≤ i → i < j → j < cnt → f i < f j) ∧ (∀ m, m < bound → P m → ∃ i, 0 ≤ i ∧ i < cnt ∧ f i = m)
theorem zOt_yes {P : Int → Prop} {cnt bound cap : Int} {f : Int → Int} (h : zOt P cnt f bound cap) (hP : P bound) : zOt P (cnt + 1) (zu f cnt bound) (bound + 1) (cap + 1) := by
  obtain ⟨h1, h2, h3, h4⟩ := h
  refine ⟨by omega, fun i i1 i2 => ?_, fun i j i1 i2 i3 => ?_, fun m m1 m2 => ?_⟩
  · unfold zu
    split
    · exact ⟨hP, by omega⟩
    · have := h2 i i1 (by omega)
      exact ⟨this.1, by omega⟩
  · unfold zu
    rw [if_neg (show i ≠ cnt by omega)]
    split
    · exact (h2 i i1 (by omega)).2
    · exact h3 i j i1 i2 (by omega)
  · by_cases e : m = bound
    · exact ⟨cnt, by omega, by omega, by rw [zu_at, e]⟩
    · obtain ⟨i, i1, i2, i3⟩ := h4 m (by omega) m2
      exact ⟨i, i1, by omega, by rw [zu_ne _ _ (by omega), i3]⟩
theorem zOt_to {P : Int → Prop} {cnt bound cap b2 c2 : Int} {f : Int → Int} (h : zOt P cnt f bound cap) (hb : bound ≤ b2) (hc : cap ≤ c2) (hP : ∀ m, bound ≤ m → m < b2 → ¬ P m) : zOt P cnt f b2 c2 := by
  obtain ⟨h1, h2, h3, h4⟩ := h
  refine ⟨by omega, fun i i1 i2 => ?_, h3, fun m m1 m2 => ?_⟩
  · have := h2 i i1 i2
    exact ⟨this.1, by omega⟩
  · by_cases e : m < bound
    · exact h4 m e m2
    · exact absurd m2 (hP m (by omega) m1)
