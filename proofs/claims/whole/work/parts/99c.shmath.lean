-- SHIFT: what people who go elsewhere change
/-- n people go from a to b -/
def zPm (ω : ab_S) (a b n : Int) : ab_S := ab_set ω 6 (zu (zu (ω 6) a (ω 6 a - n)) b (ω 6 b + n))
theorem zS_pt (b : Int) (c : Int) : ∀ n : Nat, zS (fun k => if (k : Int) = b then c else 0) n = if 0 ≤ b ∧ b < n then c else 0
  | 0 => by
    rw [if_neg (by omega)]
    rfl
  | n + 1 => by
    rw [zS, zS_pt b c n]
    by_cases h : (n : Int) = b
    · rw [if_neg (by omega), if_pos h, if_pos (by omega)]
      omega
    · rw [if_neg h]
      by_cases h2 : 0 ≤ b ∧ b < n
      · rw [if_pos h2, if_pos (by omega)]
        omega
      · rw [if_neg h2, if_neg (by omega)]
        omega
/-- what seller j gets of a person at corner k -/
def zw1 (ω : ab_S) (sp pr : Int → Int) (k j : Int) : Int := 2 * ω 3 10 * (if zM ω sp pr k = 0 then 0 else zwt j (zM ω sp pr k))
theorem yC1_w (ω : ab_S) (sp pr : Int → Int) (j : Int) (n : Nat) : yC1 ω sp pr j n = zS (fun k => ω 6 k * zw1 ω sp pr k j) n := by
  unfold yC1
  refine zS_congr (fun k _ => ?_)
  have hM : 0 ≤ zM ω sp pr k ∧ zM ω sp pr k < 16 := zb4_in _
  have := zwt_at (b := zM ω sp pr k) (j := j) (e := 2 * ω 3 10 * ω 6 k) hM
  rw [show 24 * ω 3 10 * ω 6 k = 12 * (2 * ω 3 10 * ω 6 k) by rw [← Int.mul_assoc, ← Int.mul_assoc]; rfl, this]
  unfold zw1
  rw [Int.mul_comm (2 * ω 3 10) (ω 6 k), Int.mul_assoc]
theorem zE_mv {ω : ab_S} {sp pr : Int → Int} {a b n : Int} (ha : 0 ≤ a ∧ a < ω 3 8) (hb : 0 ≤ b ∧ b < ω 3 8) (hab : a ≠ b) (j : Int) : zE (zPm ω a b n) sp pr j = zE ω sp pr j + n * (zw1 ω sp pr b j - zw1 ω sp pr a j) := by
  rw [zE_sum, zE_sum]
  have e2 : yC2 (zPm ω a b n) sp pr j ((zPm ω a b n) 3 9).toNat = yC2 ω sp pr j (ω 3 9).toNat := rfl
  have e3 : ((zPm ω a b n) 3 8).toNat = (ω 3 8).toNat := rfl
  rw [e2, e3, yC1_w, yC1_w]
  have ew : ∀ k, zw1 (zPm ω a b n) sp pr k j = zw1 ω sp pr k j := fun k => rfl
  have e4 : zS (fun k => (zPm ω a b n) 6 k * zw1 (zPm ω a b n) sp pr k j) (ω 3 8).toNat = zS (fun k => (ω 6 k * zw1 ω sp pr k j + (if (k : Int) = b then n * zw1 ω sp pr b j else 0)) + (if (k : Int) = a then -(n * zw1 ω sp pr a j) else 0)) (ω 3 8).toNat := by
    refine zS_congr (fun k _ => ?_)
    rw [ew]
    show zu (zu (ω 6) a (ω 6 a - n)) b (ω 6 b + n) k * _ = _
    by_cases h1 : (k : Int) = b
    · rw [if_pos h1, if_neg (by omega), h1, zu_at, Int.add_mul]
      omega
    · rw [if_neg h1, zu_ne _ _ h1]
      by_cases h2 : (k : Int) = a
      · rw [if_pos h2, h2, zu_at, Int.sub_mul]
        omega
      · rw [if_neg h2, zu_ne _ _ h2]
        omega
  rw [e4, zS_sum, zS_sum, zS_pt, zS_pt, if_pos (by omega), if_pos (by omega), Int.mul_sub]
  omega
/-- what a chain gets of a person at corner k -/
def zO1 (ω : ab_S) (sp pr : Int → Int) (c k : Int) : Int := zTk (ω 34 5) (ω 38) (zw1 ω sp pr k) pr c (ω 34 5).toNat
theorem zTk_lin {N : Int} {ch s0 s1 s2 pr : Int → Int} {c n : Int} : ∀ {k : Nat}, zTk N ch (fun j => s0 j + n * (s1 j - s2 j)) pr c k = zTk N ch s0 pr c k + n * (zTk N ch s1 pr c k - zTk N ch s2 pr c k)
  | 0 => by simp [zTk]
  | k + 1 => by
    rw [zTk, zTk, zTk, zTk, zTk_lin (k := k)]
    by_cases h : ch k = c
    · rw [if_pos h, if_pos h, if_pos h, if_pos h]
      simp only [Int.add_mul, Int.mul_sub, Int.mul_add, Int.mul_assoc, Int.sub_mul]
      omega
    · rw [if_neg h, if_neg h, if_neg h, if_neg h]
      simp only [Int.add_zero]
theorem zT_mv {ω : ab_S} {sp pr : Int → Int} {a b n : Int} (ha : 0 ≤ a ∧ a < ω 3 8) (hb : 0 ≤ b ∧ b < ω 3 8) (hab : a ≠ b) (c : Int) : zT (zPm ω a b n) sp pr c = zT ω sp pr c + n * (zO1 ω sp pr c b - zO1 ω sp pr c a) := by
  unfold zT zO1
  rw [← zTk_lin]
  show zTk (ω 34 5) (ω 38) (zE (zPm ω a b n) sp pr) pr c (ω 34 5).toNat = _
  refine zTk_congr (fun j _ _ => ⟨rfl, zE_mv ha hb hab j, rfl⟩)
/-- seller s gains that much more a person by the move m -/
def zOg (ω : ab_S) (sp pr : Int → Int) (a b s m : Int) : Int := zO1 ω (zTs ω sp s m) (zTp ω pr s m) (ω 38 s) b - zO1 ω (zTs ω sp s m) (zTp ω pr s m) (ω 38 s) a
/-- seller s would rather go when n people have gone -/
def zRy (ω : ab_S) (sp pr : Int → Int) (a b s n : Int) : Prop := ∃ m, zCd ω sp pr s m ∧ zG ω sp pr s (zNow ω sp pr s) + n * zOg ω sp pr a b s (zNow ω sp pr s) < zG ω sp pr s m + n * zOg ω sp pr a b s m
theorem zG_mv {ω : ab_S} {sp pr : Int → Int} {a b n s m : Int} (ha : 0 ≤ a ∧ a < ω 3 8) (hb : 0 ≤ b ∧ b < ω 3 8) (hab : a ≠ b) : zG (zPm ω a b n) sp pr s m = zG ω sp pr s m + n * zOg ω sp pr a b s m := by
  unfold zG zOg
  exact zT_mv ha hb hab _
theorem zRy_iff {ω : ab_S} {sp pr : Int → Int} {a b n s : Int} (hJ : zJ ω) (ha : 0 ≤ a ∧ a < ω 3 8) (hb : 0 ≤ b ∧ b < ω 3 8) (hab : a ≠ b) : zBm (zPm ω a b n) sp pr s ≠ zNow (zPm ω a b n) sp pr s ↔ zRy ω sp pr a b s n := by
  have eC : zCd (zPm ω a b n) sp pr s = zCd ω sp pr s := rfl
  have eN : zNow (zPm ω a b n) sp pr s = zNow ω sp pr s := rfl
  unfold zBm zRy
  rw [eC, eN]
  constructor
  · intro h
    obtain ⟨i, h1, h2, h3⟩ := zbf_mv h
    rw [zG_mv ha hb hab, zG_mv ha hb hab] at h3
    exact ⟨i, h2, h3⟩
  · rintro ⟨m, h1, h2⟩ h
    have hm := zCd_le hJ h1
    have := zbf_now h (zCd_now) m.toNat (by omega) (by rw [show ((m.toNat : Nat) : Int) = m by omega]; exact h1)
    rw [zG_mv ha hb hab, zG_mv ha hb hab, show ((m.toNat : Nat) : Int) = m by omega] at this
    omega
/-- L is the fewest, over what R says; P people there are -/
def zLf (P : Int) (R : Int → Prop) (L : Int) : Prop := (L = 0 ∧ R 0) ∨ ((1 ≤ L ∧ L ≤ P + 1) ∧ ¬ R 0 ∧ ∀ n, 0 ≤ n → n ≤ P → (R n ↔ L ≤ n))
theorem zLf_0 {P : Int} (hP : 0 ≤ P) : zLf P (fun _ => False) (P + 1) := Or.inr ⟨by omega, fun z => z, fun n h0 h1 => ⟨fun z => z.elim, fun z => by omega⟩⟩
/-- two together -/
theorem zLf_or {P L M : Int} {R S : Int → Prop} (h1 : zLf P R L) (h2 : zLf P S M) : zLf P (fun n => R n ∨ S n) (min L M) := by
  rcases h1 with ⟨a1, a2⟩ | ⟨a1, a2, a3⟩
  · refine Or.inl ⟨?_, Or.inl a2⟩
    rcases h2 with ⟨b1, b2⟩ | ⟨b1, b2, b3⟩ <;> omega
  · rcases h2 with ⟨b1, b2⟩ | ⟨b1, b2, b3⟩
    · exact Or.inl ⟨by omega, Or.inr b2⟩
    · refine Or.inr ⟨by omega, ?_, fun n n0 n1 => ?_⟩
      · rintro (z | z)
        · exact a2 z
        · exact b2 z
      · have := a3 n n0 n1
        have := b3 n n0 n1
        constructor
        · rintro (z | z)
          · have := (a3 n n0 n1).1 z
            omega
          · have := (b3 n n0 n1).1 z
            omega
        · intro z
          by_cases c : L ≤ n
          · exact Or.inl ((a3 n n0 n1).2 c)
          · exact Or.inr ((b3 n n0 n1).2 (by omega))
theorem zLf_cg {P L : Int} {R S : Int → Prop} (h : zLf P R L) (e : ∀ n, R n ↔ S n) : zLf P S L := by
  rcases h with ⟨a1, a2⟩ | ⟨a1, a2, a3⟩
  · exact Or.inl ⟨a1, (e 0).1 a2⟩
  · exact Or.inr ⟨a1, fun z => a2 ((e 0).2 z), fun n n0 n1 => (e n).symm.trans (a3 n n0 n1)⟩
/-- one move that is d behind and gains g a person -/
theorem zLf_neg {P L d g : Int} {R : Int → Prop} (hd : d < 0) : zLf P (fun n => R n ∨ d < n * g) 0 := Or.inl ⟨rfl, Or.inr (by rw [Int.zero_mul]; exact hd)⟩
theorem zLf_no {P L d g : Int} {R : Int → Prop} (h : zLf P R L) (hd : 0 ≤ d) (hg : g ≤ 0) : zLf P (fun n => R n ∨ d < n * g) L := by
  have nn : ∀ n, 0 ≤ n → ¬ d < n * g := fun n n0 z => by
    have := Int.mul_le_mul_of_nonneg_left hg n0
    rw [Int.mul_zero] at this
    omega
  rcases h with ⟨a1, a2⟩ | ⟨a1, a2, a3⟩
  · exact Or.inl ⟨a1, Or.inl a2⟩
  · refine Or.inr ⟨a1, ?_, fun n n0 n1 => ?_⟩
    · rintro (z | z)
      · exact a2 z
      · exact nn 0 (by omega) z
    · constructor
      · rintro (z | z)
        · exact (a3 n n0 n1).1 z
        · exact absurd z (nn n n0)
      · exact fun z => Or.inl ((a3 n n0 n1).2 z)
theorem zLf_yes {P L d g : Int} {R : Int → Prop} (h : zLf P R L) (hd : 0 ≤ d) (hg : 0 < g) : zLf P (fun n => R n ∨ d < n * g) (min L (d / g + 1)) := by
  have qd : 0 ≤ d / g := Int.ediv_nonneg hd (by omega)
  have iff : ∀ n, d < n * g ↔ d / g + 1 ≤ n := fun n => by
    rw [← Int.ediv_lt_iff_lt_mul hg]
    omega
  rcases h with ⟨a1, a2⟩ | ⟨a1, a2, a3⟩
  · exact Or.inl ⟨by omega, Or.inl a2⟩
  · refine Or.inr ⟨by omega, ?_, fun n n0 n1 => ?_⟩
    · rintro (z | z)
      · exact a2 z
      · rw [iff] at z
        omega
    · show (R n ∨ d < n * g) ↔ _
      rw [iff]
      have := a3 n n0 n1
      constructor
      · rintro (z | z)
        · have := (a3 n n0 n1).1 z
          omega
        · omega
      · intro z
        by_cases c : L ≤ n
        · exact Or.inl ((a3 n n0 n1).2 c)
        · exact Or.inr (by omega)
/-- the answer -/
def zSh (P : Int) (R : Int → Prop) (v : Int) : Prop := ((1 ≤ v ∧ v ≤ P) ∧ ¬ R 0 ∧ R v ∧ ∀ n, 1 ≤ n → n < v → ¬ R n) ∨ (v = -1 ∧ (R 0 ∨ ∀ n, 1 ≤ n → n ≤ P → ¬ R n))
theorem zSh_f {P L : Int} {R : Int → Prop} (hP : 0 ≤ P) (h : zLf P R L) : zSh P R (if L < 1 ∨ P < L then -1 else L) := by
  rcases h with ⟨a1, a2⟩ | ⟨a1, a2, a3⟩
  · rw [if_pos (by omega)]
    exact Or.inr ⟨rfl, Or.inl a2⟩
  · by_cases c : P < L
    · rw [if_pos (by omega)]
      refine Or.inr ⟨rfl, Or.inr (fun n n0 n1 z => ?_)⟩
      have := (a3 n (by omega) n1).1 z
      omega
    · rw [if_neg (by omega)]
      refine Or.inl ⟨by omega, a2, (a3 L (by omega) (by omega)).2 (by omega), fun n n0 n1 z => ?_⟩
      have := (a3 n (by omega) (by omega)).1 z
      omega
theorem zSh_one {P v w : Int} {R : Int → Prop} (p : zSh P R v) (q : zSh P R w) : v = w := by
  rcases p with ⟨a1, a2, a3, a4⟩ | ⟨a1, a2⟩
  · rcases q with ⟨b1, b2, b3, b4⟩ | ⟨b1, b2⟩
    · by_cases c : v < w
      · exact absurd a3 (b4 v a1.1 c)
      · by_cases c2 : w < v
        · exact absurd b3 (a4 w b1.1 c2)
        · omega
    · rcases b2 with b2 | b2
      · exact absurd b2 a2
      · exact absurd a3 (b2 v a1.1 a1.2)
  · rcases q with ⟨b1, b2, b3, b4⟩ | ⟨b1, b2⟩
    · rcases a2 with a2 | a2
      · exact absurd a2 b2
      · exact absurd b3 (a2 w b1.1 b1.2)
    · omega
/-- somebody would rather go -/
def zRa2 (ω : ab_S) (sp pr : Int → Int) (a b n : Int) : Prop := ∃ s, 0 ≤ s ∧ s < ω 34 5 ∧ zRy ω sp pr a b s n
