-- MATH: what each seller gets, as a sum over the buyers
/-- of twelve parts of a buyer with the bits m, seller j's -/
def zwt (j m : Int) : Int := zbj m j * (12 / zpop m)
theorem zS_lin (f g : Nat → Int) (a : Int) : ∀ n : Nat, zS (fun i => f i + a * g i) n = zS f n + a * zS g n
  | 0 => by simp [zS]
  | n + 1 => by
    rw [zS, zS, zS, zS_lin f g a n, Int.mul_add]
    omega
theorem zS_mul (g : Nat → Int) (a : Int) : ∀ n : Nat, zS (fun i => a * g i) n = a * zS g n
  | 0 => by simp [zS]
  | n + 1 => by rw [zS, zS, zS_mul g a n, Int.mul_add]
theorem zS_sum (f g : Nat → Int) : ∀ n : Nat, zS (fun i => f i + g i) n = zS f n + zS g n
  | 0 => by simp [zS]
  | n + 1 => by
    rw [zS, zS, zS, zS_sum f g n]
    omega
/-- one place of a row -/
theorem zS_one (w : Int → Int) (b : Int) : ∀ n : Nat, zS (fun i => w (i + 1) * (if b = (i : Int) + 1 then 1 else 0)) n = if 1 ≤ b ∧ b ≤ n then w b else 0
  | 0 => by
    rw [if_neg (by omega)]
    rfl
  | n + 1 => by
    rw [zS, zS_one w b n]
    by_cases h : b = (n : Int) + 1
    · rw [if_neg (by omega), if_pos h, if_pos (by omega), ← h]
      omega
    · rw [if_neg h]
      by_cases h2 : 1 ≤ b ∧ b ≤ n
      · rw [if_pos h2, if_pos (by omega)]
        omega
      · rw [if_neg h2, if_neg (by omega)]
        omega
theorem zdiv12 {e p : Int} (h : 1 ≤ p ∧ p ≤ 4) : 12 * e / p = 12 / p * e := by
  rcases (show p = 1 ∨ p = 2 ∨ p = 3 ∨ p = 4 by omega) with rfl | rfl | rfl | rfl <;> omega
theorem zsl_12 {T E : Int → Int} (h : ∀ x, 1 ≤ x → x < 16 → T x = 12 * E x) (j : Int) : zsl T j 15 = zS (fun i => zwt j (i + 1) * E (i + 1)) 15 := by
  unfold zsl
  refine zS_congr (fun i hi => ?_)
  have hp := zpop_in (m := (i : Int) + 1) (by omega)
  rw [h _ (by omega) (by omega), zdiv12 hp]
  unfold zwt
  rw [Int.mul_assoc]
/-- the sum over the kinds is the sum over the buyers -/
theorem zS_kinds (w : Int → Int) (e : Nat → Int) (b : Nat → Int) (hb : ∀ i, 0 ≤ b i ∧ b i < 16) : ∀ n : Nat, zS (fun i => w (i + 1) * zS (fun k => if b k = (i : Int) + 1 then e k else 0) n) 15 = zS (fun k => e k * (if b k = 0 then 0 else w (b k))) n
  | 0 => by
    rw [zS_zero (fun i hi => by simp [zS])]
    rfl
  | n + 1 => by
    have ih := zS_kinds w e b hb n
    have e1 : zS (fun i => w (i + 1) * zS (fun k => if b k = (i : Int) + 1 then e k else 0) (n + 1)) 15 = zS (fun i => w (i + 1) * zS (fun k => if b k = (i : Int) + 1 then e k else 0) n + e n * (w (i + 1) * (if b n = (i : Int) + 1 then 1 else 0))) 15 := by
      refine zS_congr (fun i hi => ?_)
      rw [zS, Int.mul_add]
      congr 1
      by_cases h : b n = (i : Int) + 1
      · rw [if_pos h, if_pos h, Int.mul_one, Int.mul_comm]
      · rw [if_neg h, if_neg h]
        simp
    rw [e1, zS_lin, ih, zS_one, zS]
    congr 2
    have := hb n
    by_cases h : b n = 0
    · rw [if_neg (by omega), if_pos h]
    · rw [if_pos (by omega), if_neg h]
