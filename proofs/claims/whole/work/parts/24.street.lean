-- CLASS: Market along a street
theorem zLe_congr {n d m : Int} {f g : Int → Int} (h : ∀ j, 0 ≤ j → j < n → f j = g j) (hf : zLe n f d m) : zLe n g d m := by
  refine ⟨fun j p1 p2 => by rw [← h j p1 p2]; exact hf.1 j p1 p2, ?_⟩
  rcases hf.2 with z | ⟨j, z1, z2, z3⟩
  · exact Or.inl z
  · exact Or.inr ⟨j, z1, z2, by rw [← h j z1 z2]; exact z3⟩
theorem zmsk_congr {n m : Int} {f g : Int → Int} (h : ∀ j, 0 ≤ j → j < n → f j = g j) : zmsk n f m = zmsk n g m := by
  unfold zmsk
  refine zb4_congr (fun j q1 q2 => ?_)
  by_cases hj : j < n
  · rw [h j q1 hj]
  · simp [hj]
theorem zLe_4 {n m : Int} {f g : Int → Int} (h : ∀ j, 0 ≤ j → j < n → g j = 4 * f j) (hf : zLe n f 1000000 m) : zLe n g (4 * 1000000) (4 * m) ∧ zmsk n g (4 * m) = zmsk n f m := by
  refine ⟨⟨fun j p1 p2 => ?_, ?_⟩, ?_⟩
  · have := h j p1 p2
    have := hf.1 j p1 p2
    omega
  · rcases hf.2 with ⟨z1, z2⟩ | ⟨j, z1, z2, z3⟩
    · exact Or.inl ⟨z1, by omega⟩
    · exact Or.inr ⟨j, z1, z2, by rw [h j z1 z2]; omega⟩
  · unfold zmsk
    refine zb4_congr (fun j q1 q2 => ?_)
    rw [Bool.eq_iff_iff]
    simp only [Bool.and_eq_true, decide_eq_true_eq]
    constructor
    · rintro ⟨z1, z2⟩
      have := h j q1 z1
      omega
    · rintro ⟨z1, z2⟩
      have := h j q1 z1
      omega
/-- the cells of street s, from its first corner: how many of the first c buy by the bits x -/
def zCells (σ : ab_S) (o : Nat) (s x : Int) (c : Nat) : Int := zS (fun i => if zbits (σ o 7) (zCX σ o s (2 * i + 1)) (4 * σ 3 11) = x then 1 else 0) c
/-- along an open street the steps to its corners go together -/
def zTri (σ : ab_S) (o : Nat) (s : Int) : Prop := ∀ j, 0 ≤ j → j < σ o 7 → σ (o + 3) (12 * j + σ 8 s) ≤ σ (o + 3) (12 * j + σ 9 s) + σ 10 s ∧ σ (o + 3) (12 * j + σ 9 s) ≤ σ (o + 3) (12 * j + σ 8 s) + σ 10 s ∧ ((100 ≤ σ (o + 1) j ∧ (σ (o + 1) j - 100) / 20 = s) → σ (o + 3) (12 * j + σ 8 s) ≤ (σ (o + 1) j - 100) % 20 ∧ σ (o + 3) (12 * j + σ 9 s) ≤ σ 10 s - (σ (o + 1) j - 100) % 20)
theorem zCt_ends {σ : ab_S} {o : Nat} {s j : Int} (hp : 1 ≤ σ o 8 ∧ σ o 8 ≤ 5) (hT : zTri σ o s) (hj : 0 ≤ j ∧ j < σ o 7) : zCt σ o s 0 j = σ (o + 2) j + σ o 8 * σ (o + 3) (12 * j + σ 8 s) ∧ zCt σ o s (σ 10 s) j = σ (o + 2) j + σ o 8 * σ (o + 3) (12 * j + σ 9 s) := by
  obtain ⟨h1, h2, h3⟩ := hT j hj.1 hj.2
  have q1 := Int.mul_le_mul_of_nonneg_left h1 (show 0 ≤ σ o 8 by omega)
  have q2 := Int.mul_le_mul_of_nonneg_left h2 (show 0 ≤ σ o 8 by omega)
  rw [Int.mul_add] at q1 q2
  unfold zCt
  rw [Int.mul_zero, Int.sub_zero, Int.sub_self, Int.mul_zero]
  by_cases h : 100 ≤ σ (o + 1) j ∧ (σ (o + 1) j - 100) / 20 = s
  · obtain ⟨h4, h5⟩ := h3 h
    have q3 := Int.mul_le_mul_of_nonneg_left h4 (show 0 ≤ σ o 8 by omega)
    have q4 := Int.mul_le_mul_of_nonneg_left h5 (show 0 ≤ σ o 8 by omega)
    rw [if_pos h, if_pos h, zabs, zabs]
    have e1 : max (0 - (σ (o + 1) j - 100) % 20) (-(0 - (σ (o + 1) j - 100) % 20)) = (σ (o + 1) j - 100) % 20 := by omega
    by_cases h6 : (σ (o + 1) j - 100) % 20 ≤ σ 10 s
    · have e2 : max (σ 10 s - (σ (o + 1) j - 100) % 20) (-(σ 10 s - (σ (o + 1) j - 100) % 20)) = σ 10 s - (σ (o + 1) j - 100) % 20 := by omega
      rw [e1, e2]
      omega
    · have e2 : max (σ 10 s - (σ (o + 1) j - 100) % 20) (-(σ 10 s - (σ (o + 1) j - 100) % 20)) = -(σ 10 s - (σ (o + 1) j - 100) % 20) := by omega
      rw [e1, e2, Int.mul_neg]
      have q5 := Int.mul_le_mul_of_nonneg_left (show σ 10 s - (σ (o + 1) j - 100) % 20 ≤ 0 by omega) (show 0 ≤ σ o 8 by omega)
      rw [Int.mul_zero] at q5
      omega
  · rw [if_neg h, if_neg h]
    omega
/-- a stretch adds just its cells -/
theorem zCells_add {σ : ab_S} {o : Nat} {s t0 t1 m0 m1 x : Int} (hp : 1 ≤ σ o 8 ∧ σ o 8 ≤ 5) (hn : σ o 7 ≤ 4) (hh : σ 3 11 ≤ 9999) (ht : 0 ≤ t0 ∧ t0 ≤ t1 ∧ t1 ≤ 12) (h0 : zLe (σ o 7) (zCt σ o s t0) 1000000 m0) (h1 : zLe (σ o 7) (zCt σ o s t1) 1000000 m1)
    (hno : ∀ j, 0 ≤ j → j < σ o 7 → (100 ≤ σ (o + 1) j ∧ (σ (o + 1) j - 100) / 20 = s) → ((σ (o + 1) j - 100) % 20 ≤ t0 ∨ t1 ≤ (σ (o + 1) j - 100) % 20)) :
    zCells σ o s x (2 * (σ o 8 * t1)).toNat = zCells σ o s x (2 * (σ o 8 * t0)).toNat + (max 0 (min (m1 - m0 + (σ o 8 * t1 - σ o 8 * t0)) (2 * (σ 3 11 - m0))) * (if zmsk (σ o 7) (zCt σ o s t0) m0 = x then 1 else 0) + max 0 (min (2 * (σ o 8 * t1 - σ o 8 * t0) - (m1 - m0 + (σ o 8 * t1 - σ o 8 * t0))) (2 * (σ 3 11 - m1))) * (if zmsk (σ o 7) (zCt σ o s t1) m1 = x then 1 else 0) + (2 * (σ o 8 * t1 - σ o 8 * t0) - max 0 (min (m1 - m0 + (σ o 8 * t1 - σ o 8 * t0)) (2 * (σ 3 11 - m0))) - max 0 (min (2 * (σ o 8 * t1 - σ o 8 * t0) - (m1 - m0 + (σ o 8 * t1 - σ o 8 * t0))) (2 * (σ 3 11 - m1)))) * (if 0 = x then 1 else 0)) := by
  have p0 := zmul12 hp (t := t0) (by omega)
  have p1 := zmul12 hp (t := t1) (by omega)
  have p2 : σ o 8 * t0 ≤ σ o 8 * t1 := Int.mul_le_mul_of_nonneg_left ht.2.1 (by omega)
  obtain ⟨a0, a1⟩ := zLe_4 (g := zCX σ o s (4 * (σ o 8 * t0))) (fun j _ _ => zCX_t hp) h0
  obtain ⟨b0, b1⟩ := zLe_4 (g := zCX σ o s (4 * (σ o 8 * t1))) (fun j _ _ => zCX_t hp) h1
  obtain ⟨L, hL⟩ : ∃ L : Nat, (L : Int) = σ o 8 * t1 - σ o 8 * t0 := ⟨(σ o 8 * t1 - σ o 8 * t0).toNat, by omega⟩
  obtain ⟨c0, hc0⟩ : ∃ c0 : Nat, (c0 : Int) = 2 * (σ o 8 * t0) := ⟨(2 * (σ o 8 * t0)).toNat, by omega⟩
  have e1 : (2 * (σ o 8 * t1)).toNat = c0 + 2 * L := by omega
  have e0 : (2 * (σ o 8 * t0)).toNat = c0 := by omega
  rw [e1, e0]
  unfold zCells
  rw [zS_add]
  congr 1
  have hb : m1 ≤ m0 + L ∧ m0 ≤ m1 + L := by
    rcases h0.2 with ⟨z1, z2⟩ | ⟨j, z1, z2, z3⟩
    · rcases h1.2 with ⟨y1, y2⟩ | ⟨i, y1, y2, y3⟩
      · omega
      · omega
    · rcases h1.2 with ⟨y1, y2⟩ | ⟨i, y1, y2, y3⟩
      · omega
      · have q1 := zCX_lip (s := s) (j := j) hp ht.2.1
        have q2 := zCX_lip (s := s) (j := i) hp ht.2.1
        rw [zCX_t hp, zCX_t hp] at q1 q2
        have q3 := h1.1 j z1 z2
        have q4 := h0.1 i y1 y2
        omega
  have key := zstretch_sum (n := σ o 7) (hm := σ 3 11) (m0 := m0) (m1 := m1) (len := L) (C := fun i => zCX σ o s (4 * (σ o 8 * t0) + (2 * i + 1))) (f0 := zCX σ o s (4 * (σ o 8 * t0))) (f1 := zCX σ o s (4 * (σ o 8 * t1))) (w := fun M => if M = x then 1 else 0) hn a0 b0 hh (by omega) hb.1 hb.2 (fun i hi j j1 j2 => by
    have := zCX_mid (s := s) (j := j) (i := i) hp ht.2.1 (hno j j1 j2) (by omega)
    rw [hL]
    exact this) rfl rfl
  rw [a1, b1, hL] at key
  rw [← key]
  refine zS_congr (fun i hi => ?_)
  have e2 : 2 * ((c0 + i : Nat) : Int) + 1 = 4 * (σ o 8 * t0) + (2 * i + 1) := by omega
  rw [e2]
