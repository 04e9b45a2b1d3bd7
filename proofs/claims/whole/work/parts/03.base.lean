-- THE GHOST MACHINE: values and stores of whole numbers; a method's body is read as a predicate transformer over them
/-- a value: an int, a long, an object by its number, a constant text (2 k) or its bytes (2 k + 1) -/
abbrev ab_V : Type := Int ⊕ Int ⊕ Nat ⊕ Nat
abbrev ab_S : Type := Nat → Int → Int
abbrev ab_L : Type := List (Option ab_V)
/-- an object: its class (20: ints, 21: longs, 22: booleans, 23: bytes, 24: references), its size, its references -/
abbrev ab_O : Type := Nat × Nat × List (Option Nat)
/-- a method: its class, name, code, locals, answer, frames, words, arguments (with this) -/
abbrev ab_M : Type := Nat × MethodName × ByteArray × Nat × Option FieldType × Nat × Nat × Nat
def ab_own (M : ab_M) : Nat := M.1
def ab_y (M : ab_M) : MethodName := M.2.1
def ab_cc (M : ab_M) : ByteArray := M.2.2.1
def ab_ml (M : ab_M) : Nat := M.2.2.2.1
def ab_rt (M : ab_M) : Option FieldType := M.2.2.2.2.1
def ab_fr (M : ab_M) : Nat := M.2.2.2.2.2.1
def ab_lo (M : ab_M) : Nat := M.2.2.2.2.2.2.1
def ab_na (M : ab_M) : Nat := M.2.2.2.2.2.2.2
def ab_c (ad kd : Nat → Nat) : ab_V → Value
  | .inl x => .int (Int32.ofInt x)
  | .inr (.inl x) => .long (Int64.ofInt x)
  | .inr (.inr (.inl o)) => .ref (ad o)
  | .inr (.inr (.inr k)) => .ref (kd k)
def ab_cat : ab_V → Nat
  | .inr (.inl _) => 2
  | _ => 1
theorem ab_cat_c (ad kd : Nat → Nat) (v : ab_V) : (ab_c ad kd v).category = ab_cat v := by
  rcases v with x | x | x | x <;> rfl
def ab_up (σ : ab_S) (o : Nat) (k v : Int) : ab_S := fun o' k' => if o' = o then (if k' = k then v else σ o k') else σ o' k'
def ab_r32 (x : Int) : Prop := -2147483648 ≤ x ∧ x ≤ 2147483647
def ab_r64 (x : Int) : Prop := -9223372036854775808 ≤ x ∧ x ≤ 9223372036854775807
-- NUMBERS
theorem ab_i32 {x : Int} (h : ab_r32 x) : (Int32.ofInt x).toInt = x := by
  obtain ⟨h1, h2⟩ := h
  rw [Int32.toInt_ofInt]
  simp [Int.bmod_def]
  omega
theorem ab_i64 {x : Int} (h : ab_r64 x) : (Int64.ofInt x).toInt = x := by
  obtain ⟨h1, h2⟩ := h
  rw [Int64.toInt_ofInt]
  simp [Int.bmod_def]
  omega
theorem ab_inj32 {x y : Int32} (h : x.toInt = y.toInt) : x = y := Int32.toInt_inj.mp h
theorem ab_inj64 {x y : Int64} (h : x.toInt = y.toInt) : x = y := Int64.toInt_inj.mp h
theorem ab_of32 (x : Int32) : Int32.ofInt x.toInt = x := by simp
theorem ab_of64 (x : Int64) : Int64.ofInt x.toInt = x := by simp
theorem ab_lt32 {x y : Int} (hx : ab_r32 x) (hy : ab_r32 y) : Int32.ofInt x < Int32.ofInt y ↔ x < y := by
  rw [Int32.lt_iff_toInt_lt, ab_i32 hx, ab_i32 hy]
theorem ab_le32 {x y : Int} (hx : ab_r32 x) (hy : ab_r32 y) : Int32.ofInt x ≤ Int32.ofInt y ↔ x ≤ y := by
  rw [Int32.le_iff_toInt_le, ab_i32 hx, ab_i32 hy]
theorem ab_eq32 {x y : Int} (hx : ab_r32 x) (hy : ab_r32 y) : Int32.ofInt x = Int32.ofInt y ↔ x = y := by
  rw [← Int32.toInt_inj, ab_i32 hx, ab_i32 hy]
theorem ab_lt64 {x y : Int} (hx : ab_r64 x) (hy : ab_r64 y) : Int64.ofInt x < Int64.ofInt y ↔ x < y := by
  rw [Int64.lt_iff_toInt_lt, ab_i64 hx, ab_i64 hy]
theorem ab_le64 {x y : Int} (hx : ab_r64 x) (hy : ab_r64 y) : Int64.ofInt x ≤ Int64.ofInt y ↔ x ≤ y := by
  rw [Int64.le_iff_toInt_le, ab_i64 hx, ab_i64 hy]
theorem ab_eq64 {x y : Int} (hx : ab_r64 x) (hy : ab_r64 y) : Int64.ofInt x = Int64.ofInt y ↔ x = y := by
  rw [← Int64.toInt_inj, ab_i64 hx, ab_i64 hy]
theorem ab_zero32 : Int32.ofInt 0 = 0 := by decide +kernel
theorem ab_r0 : ab_r32 0 := by unfold ab_r32; omega
theorem ab_add32 (x y : Int) : Int32.ofInt x + Int32.ofInt y = Int32.ofInt (x + y) := by simp
theorem ab_sub32 (x y : Int) : Int32.ofInt x - Int32.ofInt y = Int32.ofInt (x - y) := by simp
theorem ab_mul32 (x y : Int) : Int32.ofInt x * Int32.ofInt y = Int32.ofInt (x * y) := by simp
theorem ab_neg32 (x : Int) : -Int32.ofInt x = Int32.ofInt (-x) := by simp
theorem ab_add64 (x y : Int) : Int64.ofInt x + Int64.ofInt y = Int64.ofInt (x + y) := by simp
theorem ab_sub64 (x y : Int) : Int64.ofInt x - Int64.ofInt y = Int64.ofInt (x - y) := by simp
theorem ab_mul64 (x y : Int) : Int64.ofInt x * Int64.ofInt y = Int64.ofInt (x * y) := by simp
theorem ab_neg64 (x : Int) : -Int64.ofInt x = Int64.ofInt (-x) := by simp
theorem ab_div32 {x y : Int} (h0 : 0 ≤ x) (hx : ab_r32 x) (h1 : 0 < y) (hy : ab_r32 y) : Int32.ofInt x / Int32.ofInt y = Int32.ofInt (x / y) := by
  apply ab_inj32
  have h2 : 0 ≤ x / y := Int.ediv_nonneg h0 (by omega)
  have h3 : x / y ≤ x := Int.ediv_le_self y h0
  have h4 : ab_r32 (x / y) := by unfold ab_r32 at *; omega
  rw [ab_i32 h4, Int32.toInt_div, ab_i32 hx, ab_i32 hy, Int.tdiv_eq_ediv_of_nonneg h0]
  simp [Int.bmod_def]
  unfold ab_r32 at *
  omega
theorem ab_rem32 {x y : Int} (h0 : 0 ≤ x) (hx : ab_r32 x) (h1 : 0 < y) (hy : ab_r32 y) : Int32.ofInt x - Int32.ofInt x / Int32.ofInt y * Int32.ofInt y = Int32.ofInt (x % y) := by
  rw [ab_div32 h0 hx h1 hy, ab_mul32, ab_sub32, Int.emod_def, Int.mul_comm]
theorem ab_div64 {x y : Int} (hx : ab_r64 x) (hm : x ≠ -9223372036854775808) (hy : ab_r64 y) : Int64.ofInt x / Int64.ofInt y = Int64.ofInt (x.tdiv y) := by
  apply ab_inj64
  have h3 : (x.tdiv y).natAbs ≤ x.natAbs := by
    rw [Int.natAbs_tdiv]
    exact Nat.div_le_self _ _
  have h4 : ab_r64 (x.tdiv y) := by unfold ab_r64 at *; omega
  rw [ab_i64 h4, Int64.toInt_div, ab_i64 hx, ab_i64 hy]
  simp [Int.bmod_def]
  unfold ab_r64 at *
  omega
theorem ab_rem64 {x y : Int} (hx : ab_r64 x) (hm : x ≠ -9223372036854775808) (hy : ab_r64 y) : Int64.ofInt x - Int64.ofInt x / Int64.ofInt y * Int64.ofInt y = Int64.ofInt (x.tmod y) := by
  rw [ab_div64 hx hm hy, ab_mul64, ab_sub64, Int.tmod_def, Int.mul_comm]
theorem ab_i2l {x : Int} (h : ab_r32 x) : (Int32.ofInt x).toInt64 = Int64.ofInt x := by
  apply ab_inj64
  rw [Int32.toInt_toInt64, ab_i32 h, ab_i64 (by unfold ab_r32 at h; unfold ab_r64; omega)]
theorem ab_l2i (x : Int) : (Int64.ofInt x).toInt32 = Int32.ofInt x := by simp
