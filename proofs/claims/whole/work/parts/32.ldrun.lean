-- CLASS: the market's methods with given stands
theorem zLd_sv {ω σ : ab_S} {sp pr : Int → Int} (hJ : zJ ω) (hK : 0 ≤ ω 34 5 ∧ ω 34 5 ≤ 4) (hL : zLd ω sp pr σ) (ho : zOk ω sp pr) : zSv σ 65 := by
  obtain ⟨hT, hP, hl, hM, hst, -⟩ := hJ
  obtain ⟨h1, h2, h3, h4⟩ := hL
  unfold zSv
  rw [h2, h3, h1 3 (by decide)]
  refine ⟨hK, hst, fun j j1 j2 => ?_⟩
  obtain ⟨q1, q2, q3, q4, q5⟩ := h4 j j1 j2
  obtain ⟨o1, o2⟩ := ho j j1 j2
  refine ⟨?_, ?_, fun c c1 c2 => ?_⟩
  · show zSt σ (σ 66 j)
    rw [q1, zSt_fr h1]
    exact o1
  · show 0 ≤ σ 67 j ∧ σ 67 j ≤ 60
    rw [q2]
    exact o2
  · show 0 ≤ σ 68 (12 * j + c) ∧ σ 68 (12 * j + c) ≤ 100012
    rw [q5 c c1 c2]
    exact zRe_in hT hM.1 o1 ⟨c1, c2⟩
theorem zLd_tri {ω σ : ab_S} {sp pr : Int → Int} (hJ : zJ ω) (hL : zLd ω sp pr σ) (ho : zOk ω sp pr) {s : Int} (hs : 0 ≤ s ∧ s < ω 3 9) (hh : ω 30 s = 0) : zTri σ 65 s := by
  obtain ⟨h1, h2, h3, h4⟩ := hL
  obtain ⟨f1, f2, f3⟩ := hJ.1.2.2 s hs.1 hs.2
  unfold zTri
  intro j j1 j2
  rw [h2] at j2
  obtain ⟨q1, q2, q3, q4, q5⟩ := h4 j j1 j2
  have t := zRe_tri hJ (ho j j1 j2).1 hs hh
  simp only [Nat.reduceAdd]
  rw [h1 8 (by decide), h1 9 (by decide), h1 10 (by decide), q1, q5 _ f1.1 f1.2, q5 _ f2.1 f2.2]
  exact t
theorem l_goRound {ω σ : ab_S} {sp pr : Int → Int} {K : ab_V → ab_S → Prop} (hJ : zJ ω) (hK : zK ω) (hL : zLd ω sp pr σ) (ho : zOk ω sp pr)
    (h : ∀ ρ, zLd ω sp pr ρ → zFm σ ρ → (∀ j, 0 ≤ j → j < ω 34 5 → ρ 75 j = zE ω sp pr j) → (∀ k, 0 ≤ k → k < ω 3 8 → ρ 74 k = zM ω sp pr k) → ρ 73 0 = zH ω sp pr → K (vI 0) ρ) : ab_Runs ab_G1 mdX8_goRound [vR 65] σ K := by
  have h1 := hL.1
  have h2 := hL.2.1
  have hT := hJ.1
  have hT1 := hT.1
  have hT2 := hT.2.1
  have e3 : σ 3 = ω 3 := h1 3 (by decide)
  refine r_goRoundM (by rw [zTn_fr h1]; exact hT) (zLd_sv hJ hK.1 hL ho) ⟨fun j j1 j2 => ?_, ?_⟩ (by rw [zPp_fr h1]; exact hJ.2.1) (fun s s1 s2 s3 => ?_) (fun b m t c s hc ht hs => ?_)
  · rw [h2] at j2
    rw [(hL.2.2.2 j j1 j2).2.2.1]
    exact (hK.2 j j1 j2).2.2.1
  · rw [h1 7 (by decide)]
    exact hJ.2.2.1
  · rw [e3] at s2
    rw [h1 30 (by decide)] at s3
    exact zLd_tri hJ hL ho ⟨s1, s2⟩ s3
  · rw [e3] at hc ht
    rw [h2] at hs
    have hfm : zFm σ (ab_mk σ b m t c s) := by
      intro o q
      unfold ab_mk
      rw [ab_set_ne _ _ (by omega), ab_set_ne _ _ (by omega), ab_set_ne _ _ (by omega), ab_set_ne _ _ (by omega), ab_set_ne _ _ (by omega)]
    have ht2 : ∀ x, 0 ≤ x → x < 16 → t x = zTal (zmk ω sp pr) x (ω 3 8).toNat (ω 3 9).toNat := by
      intro x x1 x2
      rw [ht x x1 x2, zTal_ld hT hK.1.2 hL (by omega) (by omega)]
    refine h _ ⟨zFr_m h1 hfm, h2, hL.2.2.1, hL.2.2.2⟩ hfm (fun j j1 j2 => ?_) (fun k k1 k2 => ?_) ?_
    · show s j = _
      rw [hs j j1 j2, zsl_congr ht2]
      rfl
    · show c k = _
      rw [hc k k1 k2, zCm_ld hT1.2 hK.1.2 hL ⟨k1, k2⟩]
      rfl
    · show t 0 = _
      rw [ht2 0 (by omega) (by omega)]
      rfl
/-- what a chain earns with these stands -/
def zT (ω : ab_S) (sp pr : Int → Int) (c : Int) : Int := zTk (ω 34 5) (ω 38) (zE ω sp pr) pr c (ω 34 5).toNat
theorem zTk_congr {n : Int} {ch ch2 sa sa2 pr pr2 : Int → Int} {c : Int} : ∀ {k : Nat}, (∀ j, 0 ≤ j → j < (k : Int) → ch j = ch2 j ∧ sa j = sa2 j ∧ pr j = pr2 j) → zTk n ch sa pr c k = zTk n ch2 sa2 pr2 c k
  | 0, _ => rfl
  | k + 1, h => by
    have q := h k (by omega) (by omega)
    rw [zTk, zTk, zTk_congr (k := k) (fun j j1 j2 => h j j1 (by omega)), q.1, q.2.1, q.2.2]
theorem zTk_in {n : Int} {ch sa pr : Int → Int} {c : Int} : ∀ {k : Nat}, (∀ j, 0 ≤ j → j < (k : Int) → (0 ≤ sa j ∧ sa j ≤ 100000000) ∧ (0 ≤ pr j ∧ pr j ≤ 60)) → 0 ≤ zTk n ch sa pr c k ∧ zTk n ch sa pr c k ≤ k * 6000000000
  | 0, _ => by simp [zTk]
  | k + 1, h => by
    have q := h k (by omega) (by omega)
    have ih := zTk_in (n := n) (ch := ch) (sa := sa) (pr := pr) (c := c) (k := k) (fun j j1 j2 => h j j1 (by omega))
    have m := zmul60 q.1 q.2
    rw [zTk]
    split <;> omega
theorem zT_in {ω : ab_S} {sp pr : Int → Int} (hJ : zJ ω) (hK : zK ω) (ho : zOk ω sp pr) (c : Int) : 0 ≤ zT ω sp pr c ∧ zT ω sp pr c ≤ 24000000000 := by
  have hn := hK.1
  have := zTk_in (n := ω 34 5) (ch := ω 38) (sa := zE ω sp pr) (pr := pr) (c := c) (k := (ω 34 5).toNat) (fun j j1 j2 => ⟨zE_in hJ j, (ho j j1 (by omega)).2⟩)
  unfold zT
  omega
theorem l_takings {ω σ : ab_S} {sp pr : Int → Int} {c : Int} {K : ab_V → ab_S → Prop} (hJ : zJ ω) (hK : zK ω) (hL : zLd ω sp pr σ) (ho : zOk ω sp pr) (hc : 0 ≤ c ∧ c < 4) (hs : ∀ j, 0 ≤ j → j < ω 34 5 → σ 75 j = zE ω sp pr j) (h : K (vJ (zT ω sp pr c)) σ) : ab_Runs ab_G1 mdX3_takings [vR 65, vI c] σ K := by
  have hn := hK.1
  have h2 := hL.2.1
  refine r_takings (by rw [h2]; exact hn) hc (fun j j1 j2 => ?_) ?_
  · rw [h2] at j2
    obtain ⟨q1, q2, q3, q4, q5⟩ := hL.2.2.2 j j1 j2
    rw [hs j j1 j2, q2, q4]
    exact ⟨zE_in hJ j, (ho j j1 j2).2, (hK.2 j j1 j2).2.2.2.1⟩
  · rw [h2, zTk_congr (ch2 := ω 38) (sa2 := zE ω sp pr) (pr2 := pr) (fun j j1 j2 => ?_)]
    · exact h
    · obtain ⟨q1, q2, q3, q4, q5⟩ := hL.2.2.2 j j1 (by omega)
      exact ⟨q4, hs j j1 (by omega), q2⟩
theorem l_worth {ω σ : ab_S} {sp pr : Int → Int} {j : Int} {K : ab_V → ab_S → Prop} (hJ : zJ ω) (hK : zK ω) (hL : zLd ω sp pr σ) (ho : zOk ω sp pr) (hj : 0 ≤ j ∧ j < ω 34 5) (hs : ∀ j, 0 ≤ j → j < ω 34 5 → σ 75 j = zE ω sp pr j) (h : K (vJ (zE ω sp pr j * pr j)) σ) : ab_Runs ab_G1 mdX3_worth [vR 65, vI j] σ K := by
  have hn := hK.1
  obtain ⟨q1, q2, q3, q4, q5⟩ := hL.2.2.2 j hj.1 hj.2
  refine r_worth (by omega) (by rw [hs j hj.1 hj.2]; exact zE_in hJ j) (by rw [q2]; exact (ho j hj.1 hj.2).2) ?_
  rw [hs j hj.1 hj.2, q2]
  exact h
theorem l_place {ω σ : ab_S} {sp pr : Int → Int} {j p : Int} {K : ab_V → ab_S → Prop} (hJ : zJ ω) (hK : zK ω) (hL : zLd ω sp pr σ) (hj : 0 ≤ j ∧ j < ω 34 5) (hp : zSt ω p) (h : ∀ ρ, zLd ω (zu sp j p) pr ρ → zFm σ ρ → K (vI 0) ρ) : ab_Runs ab_G1 mdX8_place [vR 65, vI j, vI p] σ K := by
  obtain ⟨hT, hP, hl, hM, hst, -⟩ := hJ
  obtain ⟨h1, h2, h3, h4⟩ := hL
  have hn := hK.1
  have hT1 := hT.1
  have e3 : σ 3 = ω 3 := h1 3 (by decide)
  refine r_place (Or.inl rfl) (by rw [zTn_fr h1]; exact hT) (by rw [h1 29 (by decide)]; exact hM.1) (by rw [zSt_fr h1]; exact hp) (by omega) (by rw [h1 30 (by decide)]; exact hP.2.2.1) (fun f hf1 hf2 => ?_)
  rw [e3, h1 29 (by decide), h1 8 (by decide), h1 9 (by decide), h1 10 (by decide), h1 30 (by decide)] at hf1
  simp only [Nat.reduceAdd] at hf2 ⊢
  have hfm : zFm σ (ab_set (ab_set σ 66 (zu (σ 66) j p)) 68 f) := by
    intro o q
    rw [ab_set_ne _ _ (by omega), ab_set_ne _ _ (by omega)]
  refine h _ ⟨zFr_m h1 hfm, h2, h3, fun i i1 i2 => ?_⟩ hfm
  obtain ⟨q1, q2, q3, q4, q5⟩ := h4 i i1 i2
  refine ⟨?_, q2, q3, q4, fun c c1 c2 => ?_⟩
  · show zu (σ 66) j p i = zu sp j p i
    unfold zu
    split
    · rfl
    · exact q1
  · show f (12 * i + c) = zRe ω (zu sp j p i) c
    by_cases e : i = j
    · rw [e, zu_at, hf1 c c1 c2]
      rfl
    · rw [zu_ne _ _ e, hf2 (12 * i + c) (by omega)]
      exact q5 c c1 c2
/-- steps from one SPOT to another, neither on a shut street: as the market counts them -/
def zD (ω : ab_S) (q p : Int) : Int := if p < 100 then zRe ω q p else if 100 ≤ q ∧ (q - 100) / 20 = (p - 100) / 20 then min (min ((p - 100) % 20 + zRe ω q (ω 8 ((p - 100) / 20))) (ω 10 ((p - 100) / 20) - (p - 100) % 20 + zRe ω q (ω 9 ((p - 100) / 20)))) (max ((p - 100) % 20 - (q - 100) % 20) (-((p - 100) % 20 - (q - 100) % 20))) else min ((p - 100) % 20 + zRe ω q (ω 8 ((p - 100) / 20))) (ω 10 ((p - 100) / 20) - (p - 100) % 20 + zRe ω q (ω 9 ((p - 100) / 20)))
/-- the others are far enough from p -/
def zFar (ω : ab_S) (sp : Int → Int) (j p : Int) : Prop := ω 28 7 = 0 ∨ ∀ i, 0 ≤ i → i < ω 34 5 → i = j ∨ ω 28 7 ≤ zD ω (sp i) p
theorem zsto_ld {ω σ : ab_S} {sp pr : Int → Int} {i p : Int} (hT : zTn ω) (hL : zLd ω sp pr σ) (hi : 0 ≤ i ∧ i < ω 34 5) (hp : zSt ω p) : zsto (σ 68) (σ 8) (σ 9) (σ 10) (σ 66 i) i p = zD ω (sp i) p := by
  obtain ⟨h1, h2, h3, h4⟩ := hL
  obtain ⟨q1, q2, q3, q4, q5⟩ := h4 i hi.1 hi.2
  unfold zsto zD
  rw [h1 8 (by decide), h1 9 (by decide), h1 10 (by decide), q1, zabs]
  by_cases h : p < 100
  · have z := zSt_c hp h
    rw [if_pos h, if_pos h, q5 p z.1 z.2]
  · have z := zSt_st hT hp (by omega)
    rw [if_neg h, if_neg h, q5 _ z.2.2.1.1 z.2.2.1.2, q5 _ z.2.2.2.1.1 z.2.2.2.1.2]
theorem l_isFar {ω σ : ab_S} {sp pr : Int → Int} {j p : Int} {K : ab_V → ab_S → Prop} (hJ : zJ ω) (hK : zK ω) (hL : zLd ω sp pr σ) (ho : zOk ω sp pr) (hj : 0 ≤ j ∧ j < 4) (hp : zSt ω p) (h : ∀ v, (zFar ω sp j p ∧ v = 1 ∨ ¬ zFar ω sp j p ∧ v = 0) → K (vI v) σ) : ab_Runs ab_G1 mdX3_isFarEnough [vR 65, vI j, vI p] σ K := by
  have hsv := zLd_sv hJ hK.1 hL ho
  have h1 := hL.1
  have e28 : σ 28 = ω 28 := h1 28 (by decide)
  have e : zfarOk σ j p ↔ zFar ω sp j p := by
    unfold zfarOk zFar
    rw [e28, hL.2.1]
    constructor
    · rintro (z | z)
      · exact Or.inl z
      · refine Or.inr (fun i i1 i2 => ?_)
        rw [← zsto_ld hJ.1 hL ⟨i1, i2⟩ hp]
        exact z i i1 i2
    · rintro (z | z)
      · exact Or.inl z
      · refine Or.inr (fun i i1 i2 => ?_)
        rw [zsto_ld hJ.1 hL ⟨i1, i2⟩ hp]
        exact z i i1 i2
  refine r_isFar (by rw [zTn_fr h1]; exact hJ.1) hsv hj (by rw [zSt_fr h1]; exact hp) (by rw [e28]; exact hJ.2.2.2.2.2.2.1) (fun v hv => ?_)
  rw [e] at hv
  exact h v hv
theorem zOk_sp {ω : ab_S} {sp pr : Int → Int} {j p : Int} (ho : zOk ω sp pr) (hp : zSt ω p) : zOk ω (zu sp j p) pr := by
  intro i i1 i2
  have q := ho i i1 i2
  refine ⟨?_, q.2⟩
  unfold zu
  split
  · exact hp
  · exact q.1
theorem zOk_pr {ω : ab_S} {sp pr : Int → Int} {j p : Int} (ho : zOk ω sp pr) (hp : 0 ≤ p ∧ p ≤ 60) : zOk ω sp (zu pr j p) := by
  intro i i1 i2
  have q := ho i i1 i2
  refine ⟨q.1, ?_⟩
  unfold zu
  split
  · exact hp
  · exact q.2
theorem zOk_0 {ω : ab_S} (hJ : zJ ω) (hK : zK ω) : zOk ω (ω 35) (zpr ω (ω 36)) := by
  intro j j1 j2
  obtain ⟨q1, q2, -⟩ := hK.2 j j1 j2
  refine ⟨q1, ?_⟩
  have := hJ.2.2.2.2.2.2.2
  unfold zpr
  split <;> omega
set_option maxRecDepth 100000 in
set_option maxHeartbeats 4000000 in
theorem l_load {ω σ : ab_S} {K : ab_V → ab_S → Prop} (hJ : zJ ω) (hK : zK ω) (hF : zFr ω σ) (h : ∀ ρ, zLd ω (ω 35) (zpr ω (ω 36)) ρ → zFm σ ρ → K (vI 0) ρ) : ab_Runs ab_G1 mdX3_load [vR 65, vR 34] σ K := by
  refine ab_runs mwX3_load (by decide +kernel) (Nat.le_of_ble_eq_true rfl) (fun G hG => ?_)
  show G 0 [some (vR 65), some (vR 34), none] [] _
  obtain ⟨hT, hP, hl, hM, hst, hask, hap, hpri⟩ := id hJ
  have hn := hK.1
  have hT1 := hT.1
  have key : ∀ (k : Nat) (j : Int) (ρ : ab_S), ω 34 5 - j < k → 0 ≤ j → j ≤ ω 34 5 → zFm σ ρ → ρ 65 7 = ω 34 5 → ρ 65 8 = ω 3 10 → (∀ i, 0 ≤ i → i < j → ρ 66 i = ω 35 i ∧ ρ 67 i = zpr ω (ω 36) i ∧ ρ 71 i = ω 37 i ∧ ρ 72 i = ω 38 i ∧ ∀ c, 0 ≤ c → c < ω 3 8 → ρ 68 (12 * i + c) = zRe ω (ω 35 i) c) → G 21 [some (vR 65), some (vR 34), some (vI j)] [] ρ := by
    intro k
    induction k with
    | zero => intro j ρ h1 h2 h3; omega
    | succ k ih =>
      intro j ρ h1 h2 h3 hm hc hpa hr
      have hf := zFr_m hF hm
      have e3 : ρ 3 = ω 3 := hf 3 (by decide)
      have e28 : ρ 28 = ω 28 := hf 28 (by decide)
      have e35 : ρ 35 = ω 35 := hf 35 (by decide)
      have e36 : ρ 36 = ω 36 := hf 36 (by decide)
      have e37 : ρ 37 = ω 37 := hf 37 (by decide)
      have e38 : ρ 38 = ω 38 := hf 38 (by decide)
      have fin : j < ω 34 5 → ∀ f, (∀ c, 0 ≤ c → c < ω 3 8 → f (12 * j + c) = zRe ω (ω 35 j) c) → (∀ k, ¬ (12 * j ≤ k ∧ k < 12 * j + 12) → f k = ρ 68 k) → ∀ v, v = zpr ω (ω 36) j → G 21 [some (vR 65), some (vR 34), some (vI (j + 1))] [] (ab_up (ab_up (ab_up (ab_set (ab_set ρ 66 (zu (ρ 66) j (ω 35 j))) 68 f) 67 j v) 71 j (ω 37 j)) 72 j (ω 38 j)) := by
        intro hj f hf1 hf2 v hv
        refine ih (j + 1) _ (by omega) (by omega) (by omega) (fun o q => ?_) hc hpa (fun i i1 i2 => ?_)
        · rw [ab_up_o o (by omega), ab_up_o o (by omega), ab_up_o o (by omega), ab_set_ne _ _ (by omega), ab_set_ne _ _ (by omega)]
          exact hm o q
        · show (zu (ρ 66) j (ω 35 j) i = _) ∧ ((if i = j then v else ρ 67 i) = _) ∧ ((if i = j then ω 37 j else ρ 71 i) = _) ∧ ((if i = j then ω 38 j else ρ 72 i) = _) ∧ ∀ c, 0 ≤ c → c < ω 3 8 → f (12 * i + c) = _
          by_cases e : i = j
          · subst e
            rw [if_pos rfl, if_pos rfl, if_pos rfl, zu_at]
            exact ⟨rfl, hv, rfl, rfl, hf1⟩
          · rw [if_neg e, if_neg e, if_neg e, zu_ne _ _ e]
            obtain ⟨q1, q2, q3, q4, q5⟩ := hr i i1 (by omega)
            refine ⟨q1, q2, q3, q4, fun c c1 c2 => ?_⟩
            rw [hf2 (12 * i + c) (by omega)]
            exact q5 c c1 c2
      apply hG [21] 60
      simp only [cq_lt, cq_le, cq_gt, cq_ge, cq_eq, cq_r1, cq_r2, ab_r32, ab_r64, ab_go, ab_stp, wp_z, wp_s, ab_in, ab_gv, ab_psh, ab_rok, ab_wsum, ab_prm, ab_ret, ab_sw, ab_cd, ab_tg, ab_cat_i, ab_cat_l, ab_cat_r, ab_cl_n, ab_cl_i, ab_cl_l, ab_cl_r, ab_f2_0, ab_f2_1, ab_f4_0, ab_f4_1, ab_f4_2, ab_f4_3, ab_op_s, ab_gI_s, ab_gL_s, ab_gR_s, ab_b1_s, ab_b2_s, ab_l1_s, ab_l2_s, ab_li_s, ab_o1_s, ab_io_s, ab_lo1_s, ab_iio_s, ab_lio_s, ab_cp5_s, ab_d2_l, ab_d2_i, ab_d2_o, ex_iconst, ex_bipush, ex_sipush, ex_lconst, ex_ldc, ex_ldc_w, ex_ldc2_w, ex_iload_n, ex_iload, ex_lload_n, ex_lload, ex_aload_n, ex_aload, ex_istore_n, ex_istore, ex_lstore_n, ex_lstore, ex_iinc, ex_iadd, ex_isub, ex_imul, ex_iand, ex_ior, ex_ixor, ex_ishl, ex_ishr, ex_iushr, ex_idiv, ex_irem, ex_ladd, ex_lsub, ex_lmul, ex_lor, ex_ldiv, ex_lrem, ex_lshl, ex_lcmp, ex_ineg, ex_lneg, ex_i2l, ex_l2i, ex_i2b, ex_dup, ex_pop, ex_dup2, ex_goto, ex_ifCond, ex_if_icmp, ex_tableswitch, ex_getfield, ex_putfield, ex_iaload, ex_laload, ex_baload, ex_iastore, ex_lastore, ex_bastore, ex_aaload, ex_arraylength, ex_invokevirtual, ex_invokestatic, ex_ireturn, ex_lreturn, ex_return_, List.map_cons, List.map_nil, List.sum_cons, List.sum_nil, List.drop_succ_cons, List.drop_zero, List.take_succ_cons, List.take_zero, List.reverse_cons, List.reverse_nil, List.nil_append, List.cons_append, List.length_cons, List.length_nil, true_and, and_true, cond_false, cond_true, Bool.false_or, Bool.or_false, Bool.or_true, Bool.true_or, true_or, or_true, false_or, or_false, if_true, if_false, reduceIte, ite_true, ite_false, implies_true, true_implies, false_implies, forall_const, not_true_eq_false, not_false_eq_true, Nat.reduceAdd, Nat.reduceMul, Nat.reduceSub, Nat.reduceBEq, Nat.reduceEqDiff, Nat.reduceLeDiff, Nat.reduceLT, Int.reduceAdd, Int.reduceSub, Int.reduceMul, Int.reduceNeg, Int.reduceToNat, Int.reduceLE, Int.reduceLT, Int.reduceEq, Int.reduceNe, Int.reduceNatCast, Nat.add_zero, Nat.zero_add, reduceCtorEq, Int.reduceNatCast', moX3_load, dX3_load_0, dX3_load_1, dX3_load_2, gt1_3_27_34, gt1_3_27_41, gt1_3_27_47, gt1_3_27_53, gt1_3_27_59, dX3_load_5, pt1_3_33_65, dX3_load_8, dX3_load_9, dX3_load_10, gt1_3_34_65, dX3_load_13, gt1_3_38_3, gt1_3_38_12, dX3_load_16, pt1_3_43_65, dX3_load_19, dX3_load_20, dX3_load_21, dX3_load_22, dX3_load_23, gt1_3_33_65, dX3_load_26, dX3_load_29, dX3_load_30, dX3_load_31, dX3_load_32, gt1_3_46_34, gt1_3_46_41, gt1_3_46_47, gt1_3_46_53, gt1_3_46_59, dX3_load_35, dX3_load_36, dX3_load_37, vn3_49, iv3_49_3, moX8_place, dX3_load_40, dX3_load_41, gt1_3_53_65, dX3_load_44, dX3_load_45, dX3_load_46, gt1_3_56_65, dX3_load_49, gt1_3_60_28, dX3_load_52, dX3_load_53, dX3_load_56, dX3_load_57, dX3_load_60, dX3_load_63, dX3_load_66, dX3_load_67, gt1_3_64_34, gt1_3_64_41, gt1_3_64_47, gt1_3_64_53, gt1_3_64_59, dX3_load_70, dX3_load_71, dX3_load_72, dX3_load_73, dX3_load_74, gt1_3_9_65, dX3_load_77, dX3_load_78, dX3_load_79, gt1_3_65_34, gt1_3_65_41, gt1_3_65_47, gt1_3_65_53, gt1_3_65_59, dX3_load_82, dX3_load_83, dX3_load_84, dX3_load_85, dX3_load_86, gt1_3_15_65, dX3_load_89, dX3_load_90, dX3_load_91, gt1_3_66_34, gt1_3_66_41, gt1_3_66_47, gt1_3_66_53, gt1_3_66_59, dX3_load_94, dX3_load_95, dX3_load_96, dX3_load_97, dX3_load_100, dX3_load_103, ar1_0, ar1_1, ar1_10, ar1_100, ar1_101, ar1_102, ar1_11, ar1_12, ar1_13, ar1_14, ar1_15, ar1_16, ar1_17, ar1_18, ar1_19, ar1_2, ar1_20, ar1_21, ar1_22, ar1_23, ar1_24, ar1_25, ar1_26, ar1_27, ar1_28, ar1_29, ar1_3, ar1_30, ar1_31, ar1_32, ar1_33, ar1_34, ar1_35, ar1_36, ar1_37, ar1_38, ar1_39, ar1_4, ar1_40, ar1_41, ar1_42, ar1_43, ar1_44, ar1_45, ar1_46, ar1_47, ar1_48, ar1_49, ar1_5, ar1_50, ar1_51, ar1_52, ar1_53, ar1_54, ar1_55, ar1_56, ar1_57, ar1_58, ar1_59, ar1_6, ar1_60, ar1_61, ar1_62, ar1_63, ar1_64, ar1_65, ar1_66, ar1_67, ar1_68, ar1_69, ar1_7, ar1_70, ar1_71, ar1_72, ar1_73, ar1_74, ar1_75, ar1_76, ar1_77, ar1_78, ar1_79, ar1_8, ar1_80, ar1_81, ar1_82, ar1_83, ar1_84, ar1_85, ar1_86, ar1_87, ar1_88, ar1_89, ar1_9, ar1_90, ar1_91, ar1_92, ar1_93, ar1_94, ar1_95, ar1_96, ar1_97, ar1_98, ar1_99, lk_0, lk_1, lk_2, st1_2, hc, e35]
      repeat' (with_reducible (first | apply And.intro | intro _))
      all_goals first | omega | skip
      · rename_i hq
        have e : j = ω 34 5 := by omega
        exact h ρ ⟨hf, hc, hpa, fun i i1 i2 => hr i i1 (by omega)⟩ hm
      · rename_i hq
        obtain ⟨b1, b2, b3, b4, b5⟩ := hK.2 j h2 (by omega)
        refine r_place (Or.inl rfl) (by rw [zTn_fr hf]; exact hT) (by rw [hf 29 (by decide)]; exact hM.1) (by rw [zSt_fr hf]; exact b1) (by omega) (by rw [hf 30 (by decide)]; exact hP.2.2.1) (fun f hf1 hf2 => ?_)
        rw [e3, hf 29 (by decide), hf 8 (by decide), hf 9 (by decide), hf 10 (by decide), hf 30 (by decide)] at hf1
        simp only [Nat.reduceAdd] at hf2 ⊢
        have fin' := fin (by omega) f hf1 hf2
        unfold zpr at fin'
        have g28 : ab_set (ab_set ρ 66 (zu (ρ 66) j (ω 35 j))) 68 f 28 = ω 28 := e28
        have g36 : ab_set (ab_set ρ 66 (zu (ρ 66) j (ω 35 j))) 68 f 36 = ω 36 := e36
        have g37 : ∀ v, ab_up (ab_set (ab_set ρ 66 (zu (ρ 66) j (ω 35 j))) 68 f) 67 j v 37 = ω 37 := fun _ => e37
        have g38 : ∀ v, ab_up (ab_up (ab_set (ab_set ρ 66 (zu (ρ 66) j (ω 35 j))) 68 f) 67 j v) 71 j (ω 37 j) 38 = ω 38 := fun _ => e38
        try simp only [cq_lt, cq_le, cq_gt, cq_ge, cq_eq, cq_r1, cq_r2, ab_r32, ab_r64, ab_go, ab_stp, wp_z, wp_s, ab_in, ab_gv, ab_psh, ab_rok, ab_wsum, ab_prm, ab_ret, ab_sw, ab_cd, ab_tg, ab_cat_i, ab_cat_l, ab_cat_r, ab_cl_n, ab_cl_i, ab_cl_l, ab_cl_r, ab_f2_0, ab_f2_1, ab_f4_0, ab_f4_1, ab_f4_2, ab_f4_3, ab_op_s, ab_gI_s, ab_gL_s, ab_gR_s, ab_b1_s, ab_b2_s, ab_l1_s, ab_l2_s, ab_li_s, ab_o1_s, ab_io_s, ab_lo1_s, ab_iio_s, ab_lio_s, ab_cp5_s, ab_d2_l, ab_d2_i, ab_d2_o, ex_iconst, ex_bipush, ex_sipush, ex_lconst, ex_ldc, ex_ldc_w, ex_ldc2_w, ex_iload_n, ex_iload, ex_lload_n, ex_lload, ex_aload_n, ex_aload, ex_istore_n, ex_istore, ex_lstore_n, ex_lstore, ex_iinc, ex_iadd, ex_isub, ex_imul, ex_iand, ex_ior, ex_ixor, ex_ishl, ex_ishr, ex_iushr, ex_idiv, ex_irem, ex_ladd, ex_lsub, ex_lmul, ex_lor, ex_ldiv, ex_lrem, ex_lshl, ex_lcmp, ex_ineg, ex_lneg, ex_i2l, ex_l2i, ex_i2b, ex_dup, ex_pop, ex_dup2, ex_goto, ex_ifCond, ex_if_icmp, ex_tableswitch, ex_getfield, ex_putfield, ex_iaload, ex_laload, ex_baload, ex_iastore, ex_lastore, ex_bastore, ex_aaload, ex_arraylength, ex_invokevirtual, ex_invokestatic, ex_ireturn, ex_lreturn, ex_return_, List.map_cons, List.map_nil, List.sum_cons, List.sum_nil, List.drop_succ_cons, List.drop_zero, List.take_succ_cons, List.take_zero, List.reverse_cons, List.reverse_nil, List.nil_append, List.cons_append, List.length_cons, List.length_nil, true_and, and_true, cond_false, cond_true, Bool.false_or, Bool.or_false, Bool.or_true, Bool.true_or, true_or, or_true, false_or, or_false, if_true, if_false, reduceIte, ite_true, ite_false, implies_true, true_implies, false_implies, forall_const, not_true_eq_false, not_false_eq_true, Nat.reduceAdd, Nat.reduceMul, Nat.reduceSub, Nat.reduceBEq, Nat.reduceEqDiff, Nat.reduceLeDiff, Nat.reduceLT, Int.reduceAdd, Int.reduceSub, Int.reduceMul, Int.reduceNeg, Int.reduceToNat, Int.reduceLE, Int.reduceLT, Int.reduceEq, Int.reduceNe, Int.reduceNatCast, Nat.add_zero, Nat.zero_add, reduceCtorEq, Int.reduceNatCast', moX3_load, dX3_load_0, dX3_load_1, dX3_load_2, gt1_3_27_34, gt1_3_27_41, gt1_3_27_47, gt1_3_27_53, gt1_3_27_59, dX3_load_5, pt1_3_33_65, dX3_load_8, dX3_load_9, dX3_load_10, gt1_3_34_65, dX3_load_13, gt1_3_38_3, gt1_3_38_12, dX3_load_16, pt1_3_43_65, dX3_load_19, dX3_load_20, dX3_load_21, dX3_load_22, dX3_load_23, gt1_3_33_65, dX3_load_26, dX3_load_29, dX3_load_30, dX3_load_31, dX3_load_32, gt1_3_46_34, gt1_3_46_41, gt1_3_46_47, gt1_3_46_53, gt1_3_46_59, dX3_load_35, dX3_load_36, dX3_load_37, vn3_49, iv3_49_3, moX8_place, dX3_load_40, dX3_load_41, gt1_3_53_65, dX3_load_44, dX3_load_45, dX3_load_46, gt1_3_56_65, dX3_load_49, gt1_3_60_28, dX3_load_52, dX3_load_53, dX3_load_56, dX3_load_57, dX3_load_60, dX3_load_63, dX3_load_66, dX3_load_67, gt1_3_64_34, gt1_3_64_41, gt1_3_64_47, gt1_3_64_53, gt1_3_64_59, dX3_load_70, dX3_load_71, dX3_load_72, dX3_load_73, dX3_load_74, gt1_3_9_65, dX3_load_77, dX3_load_78, dX3_load_79, gt1_3_65_34, gt1_3_65_41, gt1_3_65_47, gt1_3_65_53, gt1_3_65_59, dX3_load_82, dX3_load_83, dX3_load_84, dX3_load_85, dX3_load_86, gt1_3_15_65, dX3_load_89, dX3_load_90, dX3_load_91, gt1_3_66_34, gt1_3_66_41, gt1_3_66_47, gt1_3_66_53, gt1_3_66_59, dX3_load_94, dX3_load_95, dX3_load_96, dX3_load_97, dX3_load_100, dX3_load_103, ar1_0, ar1_1, ar1_10, ar1_100, ar1_101, ar1_102, ar1_11, ar1_12, ar1_13, ar1_14, ar1_15, ar1_16, ar1_17, ar1_18, ar1_19, ar1_2, ar1_20, ar1_21, ar1_22, ar1_23, ar1_24, ar1_25, ar1_26, ar1_27, ar1_28, ar1_29, ar1_3, ar1_30, ar1_31, ar1_32, ar1_33, ar1_34, ar1_35, ar1_36, ar1_37, ar1_38, ar1_39, ar1_4, ar1_40, ar1_41, ar1_42, ar1_43, ar1_44, ar1_45, ar1_46, ar1_47, ar1_48, ar1_49, ar1_5, ar1_50, ar1_51, ar1_52, ar1_53, ar1_54, ar1_55, ar1_56, ar1_57, ar1_58, ar1_59, ar1_6, ar1_60, ar1_61, ar1_62, ar1_63, ar1_64, ar1_65, ar1_66, ar1_67, ar1_68, ar1_69, ar1_7, ar1_70, ar1_71, ar1_72, ar1_73, ar1_74, ar1_75, ar1_76, ar1_77, ar1_78, ar1_79, ar1_8, ar1_80, ar1_81, ar1_82, ar1_83, ar1_84, ar1_85, ar1_86, ar1_87, ar1_88, ar1_89, ar1_9, ar1_90, ar1_91, ar1_92, ar1_93, ar1_94, ar1_95, ar1_96, ar1_97, ar1_98, ar1_99, lk_0, lk_1, lk_2, st1_2, g28, g36, g37, g38]
        repeat' (with_reducible (first | apply And.intro | intro _))
        all_goals first | omega | skip
        · rename_i hz
          exact fin' _ (by rw [if_pos hz])
        · rename_i hz
          exact fin' _ (by rw [if_neg hz])
  have e34 : σ 34 = ω 34 := hF 34 (by decide)
  have e3 : ab_up σ 65 7 (ω 34 5) 3 = ω 3 := hF 3 (by decide)
  apply hG [21] 60
  simp only [cq_lt, cq_le, cq_gt, cq_ge, cq_eq, cq_r1, cq_r2, ab_r32, ab_r64, ab_go, ab_stp, wp_z, wp_s, ab_in, ab_gv, ab_psh, ab_rok, ab_wsum, ab_prm, ab_ret, ab_sw, ab_cd, ab_tg, ab_cat_i, ab_cat_l, ab_cat_r, ab_cl_n, ab_cl_i, ab_cl_l, ab_cl_r, ab_f2_0, ab_f2_1, ab_f4_0, ab_f4_1, ab_f4_2, ab_f4_3, ab_op_s, ab_gI_s, ab_gL_s, ab_gR_s, ab_b1_s, ab_b2_s, ab_l1_s, ab_l2_s, ab_li_s, ab_o1_s, ab_io_s, ab_lo1_s, ab_iio_s, ab_lio_s, ab_cp5_s, ab_d2_l, ab_d2_i, ab_d2_o, ex_iconst, ex_bipush, ex_sipush, ex_lconst, ex_ldc, ex_ldc_w, ex_ldc2_w, ex_iload_n, ex_iload, ex_lload_n, ex_lload, ex_aload_n, ex_aload, ex_istore_n, ex_istore, ex_lstore_n, ex_lstore, ex_iinc, ex_iadd, ex_isub, ex_imul, ex_iand, ex_ior, ex_ixor, ex_ishl, ex_ishr, ex_iushr, ex_idiv, ex_irem, ex_ladd, ex_lsub, ex_lmul, ex_lor, ex_ldiv, ex_lrem, ex_lshl, ex_lcmp, ex_ineg, ex_lneg, ex_i2l, ex_l2i, ex_i2b, ex_dup, ex_pop, ex_dup2, ex_goto, ex_ifCond, ex_if_icmp, ex_tableswitch, ex_getfield, ex_putfield, ex_iaload, ex_laload, ex_baload, ex_iastore, ex_lastore, ex_bastore, ex_aaload, ex_arraylength, ex_invokevirtual, ex_invokestatic, ex_ireturn, ex_lreturn, ex_return_, List.map_cons, List.map_nil, List.sum_cons, List.sum_nil, List.drop_succ_cons, List.drop_zero, List.take_succ_cons, List.take_zero, List.reverse_cons, List.reverse_nil, List.nil_append, List.cons_append, List.length_cons, List.length_nil, true_and, and_true, cond_false, cond_true, Bool.false_or, Bool.or_false, Bool.or_true, Bool.true_or, true_or, or_true, false_or, or_false, if_true, if_false, reduceIte, ite_true, ite_false, implies_true, true_implies, false_implies, forall_const, not_true_eq_false, not_false_eq_true, Nat.reduceAdd, Nat.reduceMul, Nat.reduceSub, Nat.reduceBEq, Nat.reduceEqDiff, Nat.reduceLeDiff, Nat.reduceLT, Int.reduceAdd, Int.reduceSub, Int.reduceMul, Int.reduceNeg, Int.reduceToNat, Int.reduceLE, Int.reduceLT, Int.reduceEq, Int.reduceNe, Int.reduceNatCast, Nat.add_zero, Nat.zero_add, reduceCtorEq, Int.reduceNatCast', moX3_load, dX3_load_0, dX3_load_1, dX3_load_2, gt1_3_27_34, gt1_3_27_41, gt1_3_27_47, gt1_3_27_53, gt1_3_27_59, dX3_load_5, pt1_3_33_65, dX3_load_8, dX3_load_9, dX3_load_10, gt1_3_34_65, dX3_load_13, gt1_3_38_3, gt1_3_38_12, dX3_load_16, pt1_3_43_65, dX3_load_19, dX3_load_20, dX3_load_21, dX3_load_22, dX3_load_23, gt1_3_33_65, dX3_load_26, dX3_load_29, dX3_load_30, dX3_load_31, dX3_load_32, gt1_3_46_34, gt1_3_46_41, gt1_3_46_47, gt1_3_46_53, gt1_3_46_59, dX3_load_35, dX3_load_36, dX3_load_37, vn3_49, iv3_49_3, moX8_place, dX3_load_40, dX3_load_41, gt1_3_53_65, dX3_load_44, dX3_load_45, dX3_load_46, gt1_3_56_65, dX3_load_49, gt1_3_60_28, dX3_load_52, dX3_load_53, dX3_load_56, dX3_load_57, dX3_load_60, dX3_load_63, dX3_load_66, dX3_load_67, gt1_3_64_34, gt1_3_64_41, gt1_3_64_47, gt1_3_64_53, gt1_3_64_59, dX3_load_70, dX3_load_71, dX3_load_72, dX3_load_73, dX3_load_74, gt1_3_9_65, dX3_load_77, dX3_load_78, dX3_load_79, gt1_3_65_34, gt1_3_65_41, gt1_3_65_47, gt1_3_65_53, gt1_3_65_59, dX3_load_82, dX3_load_83, dX3_load_84, dX3_load_85, dX3_load_86, gt1_3_15_65, dX3_load_89, dX3_load_90, dX3_load_91, gt1_3_66_34, gt1_3_66_41, gt1_3_66_47, gt1_3_66_53, gt1_3_66_59, dX3_load_94, dX3_load_95, dX3_load_96, dX3_load_97, dX3_load_100, dX3_load_103, ar1_0, ar1_1, ar1_10, ar1_100, ar1_101, ar1_102, ar1_11, ar1_12, ar1_13, ar1_14, ar1_15, ar1_16, ar1_17, ar1_18, ar1_19, ar1_2, ar1_20, ar1_21, ar1_22, ar1_23, ar1_24, ar1_25, ar1_26, ar1_27, ar1_28, ar1_29, ar1_3, ar1_30, ar1_31, ar1_32, ar1_33, ar1_34, ar1_35, ar1_36, ar1_37, ar1_38, ar1_39, ar1_4, ar1_40, ar1_41, ar1_42, ar1_43, ar1_44, ar1_45, ar1_46, ar1_47, ar1_48, ar1_49, ar1_5, ar1_50, ar1_51, ar1_52, ar1_53, ar1_54, ar1_55, ar1_56, ar1_57, ar1_58, ar1_59, ar1_6, ar1_60, ar1_61, ar1_62, ar1_63, ar1_64, ar1_65, ar1_66, ar1_67, ar1_68, ar1_69, ar1_7, ar1_70, ar1_71, ar1_72, ar1_73, ar1_74, ar1_75, ar1_76, ar1_77, ar1_78, ar1_79, ar1_8, ar1_80, ar1_81, ar1_82, ar1_83, ar1_84, ar1_85, ar1_86, ar1_87, ar1_88, ar1_89, ar1_9, ar1_90, ar1_91, ar1_92, ar1_93, ar1_94, ar1_95, ar1_96, ar1_97, ar1_98, ar1_99, lk_0, lk_1, lk_2, st1_2, e34, e3]
  refine key 5 0 _ (by omega) (by omega) (by omega) (fun o q => ?_) rfl rfl (fun i i1 i2 => by omega)
  rw [ab_up_o o (by omega), ab_up_o o (by omega)]
