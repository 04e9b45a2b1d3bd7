-- what is remembered of a chase stays behind a game
theorem zQc_h {ω ω' : ab_S} (h : zFh ω ω') (hq : zQc ω) : zQc ω' := by
  obtain ⟨q1, q2, q3⟩ := hq
  have hh : ∀ o, 82 ≤ o → o ≤ 87 → ω' o = ω o := fun o o1 o2 => h.1 o (by omega)
  unfold zQc
  rw [hh 82 (by decide) (by decide), h.1 0 (by omega)]
  exact ⟨q1, q2, fun z => zChc_cn (fun o ho => h.1 o (by omega)) (hh 85 (by decide) (by decide)) (hh 86 (by decide) (by decide)) (hh 87 (by decide) (by decide)) (q3 z)⟩
