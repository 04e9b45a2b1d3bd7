-- the answers of lcmp
theorem cm_lt (x y : Int) : (ab_cmp x y < 0) = (x < y) := by
  apply propext
  unfold ab_cmp
  split
  · omega
  · split <;> omega
theorem cm_le (x y : Int) : (ab_cmp x y ≤ 0) = (x ≤ y) := by
  apply propext
  unfold ab_cmp
  split
  · omega
  · split <;> omega
theorem cm_gt (x y : Int) : (0 < ab_cmp x y) = (y < x) := by
  apply propext
  unfold ab_cmp
  split
  · omega
  · split <;> omega
theorem cm_ge (x y : Int) : (0 ≤ ab_cmp x y) = (y ≤ x) := by
  apply propext
  unfold ab_cmp
  split
  · omega
  · split <;> omega
theorem cm_eq (x y : Int) : (ab_cmp x y = 0) = (x = y) := by
  apply propext
  unfold ab_cmp
  split
  · omega
  · split <;> omega
theorem cm_r1 (x y : Int) : (-2147483648 ≤ ab_cmp x y) = True := by
  apply propext
  unfold ab_cmp
  split
  · omega
  · split <;> omega
theorem cm_r2 (x y : Int) : (ab_cmp x y ≤ 2147483647) = True := by
  apply propext
  unfold ab_cmp
  split
  · omega
  · split <;> omega
