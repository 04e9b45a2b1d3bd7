-- SPEC: games on corners
def zGs (ω : ab_S) (x y z a b c : Int) : Int → Int := if z = -1 then zu (zu (ω 35) x a) y b else zu (zu (zu (ω 35) x a) y b) z c
abbrev zP0 (ω : ab_S) : Int → Int := zpr ω (ω 36)
def zLet (ω : ab_S) (x y z a b c : Int) : Prop := zFar ω (zGs ω x y z a b c) x a ∧ zFar ω (zGs ω x y z a b c) y b ∧ (z ≠ -1 → zFar ω (zGs ω x y z a b c) z c)
def zpl (x y z p : Int) : Int := if p = 0 then x else if p = 1 then y else z
/-- what player p EARNS by the row; -1: it isn't let -/
noncomputable def zWv (ω : ab_S) (x y z p a b c : Int) : Int := @ite _ (zLet ω x y z a b c) (Classical.propDecidable _) (zE ω (zGs ω x y z a b c) (zP0 ω) (zpl x y z p) * zP0 ω (zpl x y z p)) (-1)
theorem zWv_let {ω : ab_S} {x y z p a b c : Int} (h : zLet ω x y z a b c) : zWv ω x y z p a b c = zE ω (zGs ω x y z a b c) (zP0 ω) (zpl x y z p) * zP0 ω (zpl x y z p) := if_pos h
theorem zWv_not {ω : ab_S} {x y z p a b c : Int} (h : ¬ zLet ω x y z a b c) : zWv ω x y z p a b c = -1 := if_neg h
/-- players of a game -/
def zPl (ω : ab_S) (x y z : Int) : Prop := (0 ≤ x ∧ x < ω 34 5) ∧ (0 ≤ y ∧ y < ω 34 5) ∧ x ≠ y ∧ (z = -1 ∨ ((0 ≤ z ∧ z < ω 34 5) ∧ x ≠ z ∧ y ≠ z))
theorem zGs_x {ω : ab_S} {x y z a b c a2 : Int} (h : zPl ω x y z) : zu (zGs ω x y z a b c) x a2 = zGs ω x y z a2 b c := by
  obtain ⟨h1, h2, h3, h4⟩ := h
  funext k
  unfold zGs
  by_cases hz : z = -1
  · rw [if_pos hz, if_pos hz]
    unfold zu
    repeat' split
    all_goals first | rfl | omega
  · rw [if_neg hz, if_neg hz]
    unfold zu
    repeat' split
    all_goals first | rfl | omega
theorem zGs_y {ω : ab_S} {x y z a b c b2 : Int} (h : zPl ω x y z) : zu (zGs ω x y z a b c) y b2 = zGs ω x y z a b2 c := by
  obtain ⟨h1, h2, h3, h4⟩ := h
  funext k
  unfold zGs
  by_cases hz : z = -1
  · rw [if_pos hz, if_pos hz]
    unfold zu
    repeat' split
    all_goals first | rfl | omega
  · rw [if_neg hz, if_neg hz]
    unfold zu
    repeat' split
    all_goals first | rfl | omega
theorem zGs_z {ω : ab_S} {x y z a b c c2 : Int} (hz : z ≠ -1) : zu (zGs ω x y z a b c) z c2 = zGs ω x y z a b c2 := by
  funext k
  unfold zGs
  rw [if_neg hz, if_neg hz]
  unfold zu
  repeat' split
  all_goals first | rfl | omega
theorem zGs_0 {ω : ab_S} {x y z : Int} (h : zPl ω x y z) : zGs ω x y z (ω 35 x) (ω 35 y) (ω 35 z) = ω 35 := by
  unfold zGs
  by_cases hz : z = -1
  · rw [if_pos hz, zu_self, zu_self]
  · rw [if_neg hz, zu_self, zu_self, zu_self]
theorem zGs_at {ω : ab_S} {x y z a b c : Int} (h : zPl ω x y z) : zGs ω x y z a b c x = a ∧ zGs ω x y z a b c y = b ∧ (z ≠ -1 → zGs ω x y z a b c z = c) := by
  obtain ⟨h1, h2, h3, h4⟩ := h
  unfold zGs zu
  refine ⟨?_, ?_, ?_⟩
  · split
    · simp [h3]
    · have h5 : ¬ x = z := by omega
      simp [h3, h5]
  · split
    · simp
    · have h5 : ¬ y = z := by omega
      simp [h5]
  · intro hz
    rw [if_neg hz]
    simp
theorem zGs_ok {ω : ab_S} {x y z a b c : Int} {pr : Int → Int} (ho : zOk ω (ω 35) pr) (ha : zSt ω a) (hb : zSt ω b) (hc : z = -1 ∨ zSt ω c) : zOk ω (zGs ω x y z a b c) pr := by
  unfold zGs
  split
  · exact zOk_sp (zOk_sp ho ha) hb
  · rename_i hz
    refine zOk_sp (zOk_sp (zOk_sp ho ha) hb) ?_
    rcases hc with e | e
    · exact absurd e hz
    · exact e
theorem zSt_cn {ω : ab_S} {a : Int} (hT : zTn ω) (ha : 0 ≤ a ∧ a < ω 3 8) : zSt ω a := by
  have := hT.1
  unfold zSt zSp
  omega
/-- depth of a game's rows -/
def zdp (C z : Int) : Int := if z = -1 then 1 else C
def zrw (C D a b c : Int) : Int := (a * C + b) * D + c
theorem zrw_in {C D a b c : Int} (hC : 0 ≤ C ∧ C ≤ 12) (hD : 0 ≤ D ∧ D ≤ 12) (ha : 0 ≤ a ∧ a < C) (hb : 0 ≤ b ∧ b < C) (hc : 0 ≤ c ∧ c < D) : 0 ≤ zrw C D a b c ∧ zrw C D a b c < 1728 ∧ zrw C D a b c / (C * D) = a ∧ zrw C D a b c / D % C = b ∧ zrw C D a b c % D = c := by
  have h1 : 0 ≤ a * C + b := by
    have := Int.mul_nonneg ha.1 hC.1
    omega
  have h2 : a * C + b < C * C := by
    have : (a + 1) * C ≤ C * C := Int.mul_le_mul_of_nonneg_right (by omega) hC.1
    rw [Int.add_mul, Int.one_mul] at this
    omega
  have h3 : C * C ≤ 144 := by
    have := Int.mul_le_mul hC.2 hC.2 hC.1 (by omega)
    omega
  have h4 : 0 ≤ (a * C + b) * D := Int.mul_nonneg h1 hD.1
  have h5 : (a * C + b) * D ≤ 143 * D := Int.mul_le_mul_of_nonneg_right (by omega) hD.1
  have q1 : zrw C D a b c / D = a * C + b := by
    unfold zrw
    rw [Int.add_comm, Int.add_mul_ediv_right _ _ (by omega), Int.ediv_eq_zero_of_lt hc.1 hc.2, Int.zero_add]
  refine ⟨?_, ?_, ?_, ?_, ?_⟩
  · unfold zrw; omega
  · unfold zrw; omega
  · rw [Int.mul_comm C D, ← Int.ediv_ediv_of_nonneg (by omega), q1, Int.add_comm, Int.add_mul_ediv_right _ _ (by omega), Int.ediv_eq_zero_of_lt hb.1 hb.2, Int.zero_add]
  · rw [q1, Int.add_comm, Int.add_mul_emod_self_right, Int.emod_eq_of_lt hb.1 hb.2]
  · unfold zrw
    rw [Int.add_comm, Int.add_mul_emod_self_right, Int.emod_eq_of_lt hc.1 hc.2]
/-- how many of the numbers below are such -/
noncomputable def zct (P : Int → Prop) : Nat → Int
  | 0 => 0
  | r + 1 => zct P r + @ite _ (P r) (Classical.propDecidable _) 1 0
theorem zct_yes {P : Int → Prop} {r : Nat} (h : P r) : zct P (r + 1) = zct P r + 1 := by
  rw [zct]
  congr 1
  exact if_pos h
theorem zct_no {P : Int → Prop} {r : Nat} (h : ¬ P r) : zct P (r + 1) = zct P r := by
  rw [zct]
  have : @ite Int (P r) (Classical.propDecidable _) 1 0 = 0 := if_neg h
  rw [this]
  omega
theorem zct_in (P : Int → Prop) : ∀ r : Nat, 0 ≤ zct P r ∧ zct P r ≤ r
  | 0 => ⟨Int.le_refl 0, Int.le_refl 0⟩
  | r + 1 => by
    have ih := zct_in P r
    by_cases h : P r
    · rw [zct_yes h]
      omega
    · rw [zct_no h]
      omega
theorem zct_mono {P : Int → Prop} {a : Nat} : ∀ {n : Nat}, zct P a ≤ zct P (a + n)
  | 0 => Int.le_refl _
  | n + 1 => by
    have ih := zct_mono (P := P) (a := a) (n := n)
    rw [← Nat.add_assoc]
    by_cases h : P (a + n : Nat)
    · rw [zct_yes h]
      omega
    · rw [zct_no h]
      exact ih
theorem zct_lt {P : Int → Prop} {a b : Nat} (h : P a) (hab : a < b) : zct P a < zct P b := by
  have := zct_mono (P := P) (a := a + 1) (n := b - (a + 1))
  rw [show a + 1 + (b - (a + 1)) = b by omega, zct_yes h] at this
  omega
/-- an ascending list of them counts them -/
theorem zOt_ct {P : Int → Prop} {cnt cap : Int} {f : Int → Int} (h0 : ∀ m, P m → 0 ≤ m) : ∀ {r : Nat}, zOt P cnt f r cap → zct P r = cnt ∧ ∀ i, 0 ≤ i → i < cnt → zct P (f i).toNat = i := by
  intro r
  induction r generalizing cnt cap with
  | zero =>
    intro h
    have hc : cnt = 0 := by
      apply Classical.byContradiction
      intro z
      have q := h.2.1 0 (by omega) (by have := h.1; omega)
      have := h0 _ q.1
      omega
    subst hc
    exact ⟨rfl, fun i i1 i2 => by omega⟩
  | succ r ih =>
    intro h
    obtain ⟨h1, h2, h3, h4⟩ := h
    by_cases hP : P r
    · obtain ⟨i, i1, i2, i3⟩ := h4 r (by omega) hP
      have hl : i = cnt - 1 := by
        apply Classical.byContradiction
        intro z
        have q1 := h3 i (cnt - 1) i1 (by omega) (by omega)
        have q2 := h2 (cnt - 1) (by omega) (by omega)
        omega
      have hz : zOt P (cnt - 1) f r cap := by
        refine ⟨by omega, fun j j1 j2 => ⟨(h2 j j1 (by omega)).1, ?_⟩, fun j k j1 j2 j3 => h3 j k j1 j2 (by omega), fun m m1 m2 => ?_⟩
        · have := h3 j i j1 (by omega) i2
          omega
        · obtain ⟨j, j1, j2, j3⟩ := h4 m (by omega) m2
          refine ⟨j, j1, ?_, j3⟩
          by_cases c : j = i
          · subst c
            omega
          · omega
      obtain ⟨e1, e2⟩ := ih hz
      refine ⟨by rw [zct_yes hP, e1]; omega, fun j j1 j2 => ?_⟩
      by_cases c : j = i
      · rw [c, i3, show ((r : Int)).toNat = r by omega, e1, hl]
      · exact e2 j j1 (by omega)
    · have hz : zOt P cnt f r cap := by
        refine ⟨h1, fun j j1 j2 => ⟨(h2 j j1 j2).1, ?_⟩, h3, fun m m1 m2 => h4 m (by omega) m2⟩
        have q := h2 j j1 j2
        by_cases c : f j = r
        · rw [c] at q
          exact absurd q.1 hP
        · omega
      obtain ⟨e1, e2⟩ := ih hz
      exact ⟨by rw [zct_no hP, e1], e2⟩
/-- a rest -/
def zRt (ω : ab_S) (x y z a b c : Int) : Prop := zLet ω x y z a b c ∧ (∀ m, 0 ≤ m → m < ω 3 8 → zWv ω x y z 0 m b c ≤ zWv ω x y z 0 a b c ∧ zWv ω x y z 1 a m c ≤ zWv ω x y z 1 a b c ∧ (z ≠ -1 → zWv ω x y z 2 a b m ≤ zWv ω x y z 2 a b c))
/-- a row's number is a rest's -/
def zRq (ω : ab_S) (x y z r : Int) : Prop := ∃ a b c, (0 ≤ a ∧ a < ω 3 8) ∧ (0 ≤ b ∧ b < ω 3 8) ∧ (0 ≤ c ∧ c < zdp (ω 3 8) z) ∧ r = zrw (ω 3 8) (zdp (ω 3 8) z) a b c ∧ zRt ω x y z a b c
theorem zWv_in {ω : ab_S} {x y z p a b c : Int} (hJ : zJ ω) (hK : zK ω) (hP : zPl ω x y z) (hp : p = 0 ∨ p = 1 ∨ (p = 2 ∧ z ≠ -1)) : -1 ≤ zWv ω x y z p a b c ∧ zWv ω x y z p a b c ≤ 6000000000 ∧ (zLet ω x y z a b c → 0 ≤ zWv ω x y z p a b c) := by
  obtain ⟨h1, h2, h3, h4⟩ := hP
  have hpl : 0 ≤ zpl x y z p ∧ zpl x y z p < ω 34 5 := by
    unfold zpl
    rcases hp with rfl | rfl | ⟨rfl, hz⟩
    · exact h1
    · exact h2
    · simp
      omega
  have q : 0 ≤ zE ω (zGs ω x y z a b c) (zP0 ω) (zpl x y z p) * zP0 ω (zpl x y z p) ∧ zE ω (zGs ω x y z a b c) (zP0 ω) (zpl x y z p) * zP0 ω (zpl x y z p) ≤ 6000000000 := zmul60 (zE_in (sp := zGs ω x y z a b c) (pr := zP0 ω) hJ (zpl x y z p)) (zOk_0 hJ hK _ hpl.1 hpl.2).2
  by_cases h : zLet ω x y z a b c
  · rw [zWv_let h]
    exact ⟨by omega, q.2, fun _ => q.1⟩
  · rw [zWv_not h]
    exact ⟨by omega, by omega, fun z => absurd z h⟩
