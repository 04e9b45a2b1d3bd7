-- MATH: what is reckoned rests on the town, the roads and the bakers alone
def zCo (o : Nat) : Bool := (Nat.ble 3 o && Nat.ble o 11) || (Nat.ble 28 o && Nat.ble o 30) || (Nat.ble 34 o && Nat.ble o 39)
def zCnl (ω : ab_S) : ab_S := fun o => bif zCo o then ω o else fun _ => 0
theorem zCnl_eq {ω ω' : ab_S} (h : ∀ o, (3 ≤ o ∧ o ≤ 11) ∨ (28 ≤ o ∧ o ≤ 30) ∨ (34 ≤ o ∧ o ≤ 39) → ω' o = ω o) : zCnl ω' = zCnl ω := by
  funext o
  unfold zCnl
  cases e : zCo o
  · rfl
  · have : (3 ≤ o ∧ o ≤ 11) ∨ (28 ≤ o ∧ o ≤ 30) ∨ (34 ≤ o ∧ o ≤ 39) := by
      unfold zCo at e
      simp only [Bool.or_eq_true, Bool.and_eq_true, Nat.ble_eq] at e
      omega
    rw [h o this]
theorem zRe_cn (ω : ab_S) (p c : Int) : zRe (zCnl ω) p c = zRe ω p c := rfl
theorem zE_cn (ω : ab_S) (sp pr : Int → Int) (j : Int) : zE (zCnl ω) sp pr j = zE ω sp pr j := rfl
theorem zBm_cn (ω : ab_S) (sp pr : Int → Int) (s : Int) : zBm (zCnl ω) sp pr s = zBm ω sp pr s := rfl
theorem zRs_cn (ω : ab_S) (a : (Int → Int) × (Int → Int)) : ∀ j : Nat, zRs (zCnl ω) a j = zRs ω a j
  | 0 => rfl
  | j + 1 => by
    have ih := zRs_cn ω a j
    rw [zRs, zRs, ih, zBm_cn]
    rfl
theorem zRn_cn (ω : ab_S) : ∀ r : Nat, zRn (zCnl ω) r = zRn ω r
  | 0 => rfl
  | r + 1 => by
    have ih := zRn_cn ω r
    rw [zRn, zRn, ih, zRs_cn]
    rfl
theorem zMv_cn (ω : ab_S) (a : (Int → Int) × (Int → Int)) (j : Nat) : zMv (zCnl ω) a j = zMv ω a j := by
  unfold zMv
  simp only [zRs_cn, zBm_cn]
  rfl
theorem zSm_cn (ω : ab_S) (a b : (Int → Int) × (Int → Int)) : zSm (zCnl ω) a b = zSm ω a b := rfl
theorem zCnl_ct (ω : ab_S) : zCnl ω 34 5 = ω 34 5 := rfl
theorem zGo_cn (ω : ab_S) (r : Nat) : zGo (zCnl ω) r = zGo ω r := by
  unfold zGo
  simp only [zRn_cn, zMv_cn, zSm_cn, zCnl_ct]
theorem zChs_cn (ω : ab_S) (n h : Int) (R : Nat) (l : Int) : zChs (zCnl ω) n h R l = zChs ω n h R l := by
  unfold zChs
  simp only [zRn_cn, zMv_cn, zSm_cn, zGo_cn, zCnl_ct]
/-- what is remembered of a chase is right where town, roads and bakers are the same -/
theorem zChc_cn {ω ω' ρ ρ' : ab_S} {n : Int} (h : ∀ o, (3 ≤ o ∧ o ≤ 11) ∨ (28 ≤ o ∧ o ≤ 30) ∨ (34 ≤ o ∧ o ≤ 39) → ω' o = ω o) (h1 : ρ' 85 = ρ 85) (h2 : ρ' 86 = ρ 86) (h3 : ρ' 87 = ρ 87) (hc : zChc ω ρ n) : zChc ω' ρ' n := by
  have e := zCnl_eq h
  obtain ⟨R, c1, c2, c3⟩ := hc
  refine ⟨R, ?_, ?_, ?_⟩
  · rw [h3, ← zChs_cn ω', e, zChs_cn]
    exact c1
  · rw [h3]
    exact c2
  · intro j j1 j2
    rw [h1, h2, ← zRn_cn ω', e, zRn_cn]
    exact c3 j j1 (by rw [← h 34 (by omega)]; exact j2)
