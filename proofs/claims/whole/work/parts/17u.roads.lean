-- MATH: what the roads that were laid are
theorem zRol_mt {ω : ab_S} (hT : zTn ω) (h : zRol ω) : zin 100000 (ω 29) ∧ (∀ a, 0 ≤ a → a < ω 3 8 → ω 29 (12 * a + a) = 0) ∧ (∀ a b c, 0 ≤ a → a < ω 3 8 → 0 ≤ b → b < ω 3 8 → 0 ≤ c → c < ω 3 8 → ω 29 (12 * a + b) ≤ ω 29 (12 * a + c) + ω 29 (12 * c + b)) ∧ (∀ a b, 0 ≤ a → a < ω 3 8 → 0 ≤ b → b < ω 3 8 → ω 29 (12 * a + b) = ω 29 (12 * b + a)) ∧ (∀ s, 0 ≤ s → s < ω 3 9 → ω 30 s = 0 → ω 29 (12 * ω 8 s + ω 9 s) ≤ ω 10 s) := by
  obtain ⟨ωa, ωb, r1, r2, r3, r4, r5, r6, r7⟩ := h
  obtain ⟨σ1, σ2, hc, hw, rfl⟩ := r3
  have k2 : ∀ o, o ≠ 28 → ¬ (30 ≤ o ∧ o ≤ 33) → σ2 o = ωa o := by
    rcases hc with ⟨hc, hb, rfl⟩ | ⟨hc, hb, g⟩
    · exact fun o o1 o2 => hb.1 o o1 (by omega)
    · exact fun o o1 o2 => ((zCg_o g).1 o o1 o2).trans (hb.1 o o1 (by omega))
  have q3 : σ2 3 = ω 3 := (k2 3 (by decide) (by decide)).trans (r1 3 (by decide) (by decide))
  have q8 : σ2 8 = ω 8 := (k2 8 (by decide) (by decide)).trans (r1 8 (by decide) (by decide))
  have q9 : σ2 9 = ω 9 := (k2 9 (by decide) (by decide)).trans (r1 9 (by decide) (by decide))
  have q10 : σ2 10 = ω 10 := (k2 10 (by decide) (by decide)).trans (r1 10 (by decide) (by decide))
  have hT2 : zTn σ2 := by
    unfold zTn
    rw [q3, q8, q9, q10]
    exact hT
  have hC := hT.1
  have e29 : ω 29 = zfw (ω 3 8) (znb σ2) (ω 3 8).toNat := by
    rw [r6, ab_set_at, r1 3 (by decide) (by decide)]
  have e30 : ω 30 = σ2 30 := by
    rw [r7, ab_set_ne _ _ (by decide)]
  have nb := zNb_all hT2 hw (yWq_ex hT2 hw)
  rw [q3] at nb
  obtain ⟨n1, n2, n3, n4⟩ := nb
  rw [e29]
  refine ⟨zfw_in n3 _ (by omega), fun a a1 a2 => ?_, fun a b c a1 a2 b1 b2 c1 c2 => ?_, fun a b a1 a2 b1 b2 => ?_, fun s s1 s2 s3 => ?_⟩
  · have := zfw_dg (n := ω 3 8) n3 (i := a) (by omega) (n2 a a1 a2) (ω 3 8).toNat (by omega)
    rw [show 12 * a + a = 13 * a by omega]
    exact this
  · exact zfw_tri hC.2 n3 n2 _ (by omega) a b c a1 a2 b1 b2 c1 (by omega)
  · exact zfw_sym hC.2 (fun a b a1 a2 b1 b2 => (n1 a b a1 a2 b1 b2).2) _ (by omega) a b a1 a2 b1 b2
  · obtain ⟨f1, f2, f3⟩ := hT.2.2 s s1 s2
    have b1 := zfw_le (d := znb σ2) f1 f2 hC.2 (ω 3 8).toNat
    have b2 := zst_bd hT2 hw (s := s) (by rw [q3]; exact ⟨s1, s2⟩) (by rw [← e30]; exact s3)
    rw [q8, q9, q10] at b2
    omega
