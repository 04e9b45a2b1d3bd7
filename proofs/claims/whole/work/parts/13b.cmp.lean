-- the answers of lcmp
theorem cq_lt (x y : Int) : (ab_cmp x y < 0) = (x < y) := by
  apply propext
  unfold ab_cmp
  by_cases h1 : y < x
  · rw [if_pos h1]; omega
  · rw [if_neg h1]
    by_cases h2 : x = y
    · rw [if_pos h2]; omega
    · rw [if_neg h2]; omega
theorem cq_le (x y : Int) : (ab_cmp x y ≤ 0) = (x ≤ y) := by
  apply propext
  unfold ab_cmp
  by_cases h1 : y < x
  · rw [if_pos h1]; omega
  · rw [if_neg h1]
    by_cases h2 : x = y
    · rw [if_pos h2]; omega
    · rw [if_neg h2]; omega
theorem cq_gt (x y : Int) : (0 < ab_cmp x y) = (y < x) := by
  apply propext
  unfold ab_cmp
  by_cases h1 : y < x
  · rw [if_pos h1]; omega
  · rw [if_neg h1]
    by_cases h2 : x = y
    · rw [if_pos h2]; omega
    · rw [if_neg h2]; omega
theorem cq_ge (x y : Int) : (0 ≤ ab_cmp x y) = (y ≤ x) := by
  apply propext
  unfold ab_cmp
  by_cases h1 : y < x
  · rw [if_pos h1]; omega
  · rw [if_neg h1]
    by_cases h2 : x = y
    · rw [if_pos h2]; omega
    · rw [if_neg h2]; omega
theorem cq_eq (x y : Int) : (ab_cmp x y = 0) = (x = y) := by
  apply propext
  unfold ab_cmp
  by_cases h1 : y < x
  · rw [if_pos h1]; omega
  · rw [if_neg h1]
    by_cases h2 : x = y
    · rw [if_pos h2]; omega
    · rw [if_neg h2]; omega
theorem cq_r1 (x y : Int) : (-2147483648 ≤ ab_cmp x y) = True := by
  apply eq_true
  unfold ab_cmp
  by_cases h1 : y < x
  · rw [if_pos h1]; omega
  · rw [if_neg h1]
    by_cases h2 : x = y
    · rw [if_pos h2]; omega
    · rw [if_neg h2]; omega
theorem cq_r2 (x y : Int) : (ab_cmp x y ≤ 2147483647) = True := by
  apply eq_true
  unfold ab_cmp
  by_cases h1 : y < x
  · rw [if_pos h1]; omega
  · rw [if_neg h1]
    by_cases h2 : x = y
    · rw [if_pos h2]; omega
    · rw [if_neg h2]; omega
