-- MATH: who buys where
def zS (f : Nat → Int) : Nat → Int
  | 0 => 0
  | n + 1 => zS f n + f n
theorem zS_congr {f g : Nat → Int} : ∀ {n : Nat}, (∀ i, i < n → f i = g i) → zS f n = zS g n
  | 0, _ => rfl
  | n + 1, h => by rw [zS, zS, zS_congr (fun i hi => h i (by omega)), h n (by omega)]
theorem zS_add (f : Nat → Int) (m : Nat) : ∀ n, zS f (m + n) = zS f m + zS (fun i => f (m + i)) n
  | 0 => by simp [zS]
  | n + 1 => by
    rw [← Nat.add_assoc, zS, zS_add f m n, zS]
    omega
theorem zS_const (c : Int) : ∀ n : Nat, zS (fun _ => c) n = n * c
  | 0 => by simp [zS]
  | n + 1 => by
    rw [zS, zS_const c n]
    have : ((n + 1 : Nat) : Int) * c = n * c + c := by rw [Int.natCast_succ, Int.add_mul, Int.one_mul]
    rw [this]
theorem zS_zero {f : Nat → Int} {n : Nat} (h : ∀ i, i < n → f i = 0) : zS f n = 0 := by
  rw [zS_congr (g := fun _ => 0) h, zS_const]
  simp
/-- a row of three pieces -/
theorem zS_three {f : Nat → Int} {a b c : Int} (l r n : Nat) (hl : l + r ≤ n) (h1 : ∀ i, i < l → f i = a) (h2 : ∀ i, l ≤ i → i < n - r → f i = c) (h3 : ∀ i, n - r ≤ i → i < n → f i = b) : zS f n = l * a + r * b + (n - l - r) * c := by
  have e : n = l + ((n - r - l) + r) := by omega
  have e1 : zS f n = zS f l + (zS (fun i => f (l + i)) (n - r - l) + zS (fun i => f (l + ((n - r - l) + i))) r) := by
    conv => lhs; rw [e]
    rw [zS_add, zS_add]
  rw [e1, zS_congr (g := fun _ => a) (fun i hi => h1 i hi), zS_const, zS_congr (f := fun i => f (l + i)) (g := fun _ => c) (fun i hi => h2 _ (by omega) (by omega)), zS_const, zS_congr (f := fun i => f (l + ((n - r - l) + i))) (g := fun _ => b) (fun i hi => h3 _ (by omega) (by omega)), zS_const]
  have e2 : ((n - r - l : Nat) : Int) = (n : Int) - l - r := by omega
  rw [e2]
  omega
/-- four bits as a number -/
def zb4 (p : Int → Bool) : Int := (if p 0 then 1 else 0) + (if p 1 then 2 else 0) + (if p 2 then 4 else 0) + (if p 3 then 8 else 0)
theorem zb4_congr {p q : Int → Bool} (h : ∀ j, 0 ≤ j → j < 4 → p j = q j) : zb4 p = zb4 q := by
  unfold zb4
  rw [h 0 (by omega) (by omega), h 1 (by omega) (by omega), h 2 (by omega) (by omega), h 3 (by omega) (by omega)]
theorem zb4_in (p : Int → Bool) : 0 ≤ zb4 p ∧ zb4 p < 16 := by
  unfold zb4
  cases p 0 <;> cases p 1 <;> cases p 2 <;> cases p 3 <;> simp
/-- the sellers of cost m -/
def zmsk (n : Int) (f : Int → Int) (m : Int) : Int := zb4 (fun j => decide (j < n) && decide (f j = m))
/-- m is the least of f below n (d: of none) -/
def zLe (n : Int) (f : Int → Int) (d m : Int) : Prop := (∀ j, 0 ≤ j → j < n → m ≤ f j) ∧ ((n ≤ 0 ∧ m = d) ∨ ∃ j, 0 ≤ j ∧ j < n ∧ f j = m)
/-- who buys: the sellers of least cost, if that is at most h -/
def zB (n : Int) (f : Int → Int) (h : Int) (j : Int) : Bool := decide (j < n) && (decide (f j ≤ h) && (decide (0 < n → f j ≤ f 0) && (decide (1 < n → f j ≤ f 1) && (decide (2 < n → f j ≤ f 2) && decide (3 < n → f j ≤ f 3)))))
theorem zB_iff {n h : Int} {f : Int → Int} {j : Int} (hn : n ≤ 4) : zB n f h j = true ↔ j < n ∧ f j ≤ h ∧ ∀ i, 0 ≤ i → i < n → f j ≤ f i := by
  unfold zB
  simp only [Bool.and_eq_true, decide_eq_true_eq]
  constructor
  · rintro ⟨h1, h2, h3, h4, h5, h6⟩
    refine ⟨h1, h2, fun i p1 p2 => ?_⟩
    rcases (show i = 0 ∨ i = 1 ∨ i = 2 ∨ i = 3 by omega) with rfl | rfl | rfl | rfl
    · exact h3 p2
    · exact h4 p2
    · exact h5 p2
    · exact h6 p2
  · rintro ⟨h1, h2, h3⟩
    exact ⟨h1, h2, fun p => h3 0 (by omega) p, fun p => h3 1 (by omega) p, fun p => h3 2 (by omega) p, fun p => h3 3 (by omega) p⟩
def zbits (n : Int) (f : Int → Int) (h : Int) : Int := zb4 (zB n f h)
/-- by the least cost m -/
theorem zbits_le {n h d m : Int} {f : Int → Int} (hn : n ≤ 4) (hm : zLe n f d m) (hd : h < d) : zbits n f h = if m ≤ h then zmsk n f m else 0 := by
  unfold zbits
  by_cases hc : m ≤ h
  · rw [if_pos hc]
    refine zb4_congr (fun j p1 p2 => ?_)
    rw [Bool.eq_iff_iff, zB_iff hn]
    simp only [Bool.and_eq_true, decide_eq_true_eq]
    constructor
    · rintro ⟨q1, q2, q3⟩
      refine ⟨q1, ?_⟩
      rcases hm.2 with ⟨z1, z2⟩ | ⟨i, z1, z2, z3⟩
      · omega
      · have := q3 i z1 z2
        have := hm.1 j p1 q1
        omega
    · rintro ⟨q1, q2⟩
      exact ⟨q1, by omega, fun i z1 z2 => by have := hm.1 i z1 z2; omega⟩
  · rw [if_neg hc]
    have : ∀ j, 0 ≤ j → j < 4 → zB n f h j = (fun _ => false) j := by
      intro j p1 p2
      rw [Bool.eq_false_iff, Ne, zB_iff hn]
      rintro ⟨q1, q2, q3⟩
      have := hm.1 j p1 q1
      omega
    rw [zb4_congr this]
    rfl
/-- THE STRETCH: between two points with nobody standing between, i parts from the left one (all costs four times) -/
theorem zstretch {n hm m0 m1 len : Int} {C f0 f1 : Int → Int} {i : Int} (hn : n ≤ 4) (h0 : zLe n f0 (4 * 1000000) (4 * m0)) (h1 : zLe n f1 (4 * 1000000) (4 * m1)) (hi : 0 ≤ i ∧ i < 2 * len) (hh : hm ≤ 9999) (hlen : len < 1000)
    (hC : ∀ j, 0 ≤ j → j < n → C j = min (f0 j + (2 * i + 1)) (f1 j + (4 * len - (2 * i + 1)))) :
    zbits n C (4 * hm) = if i < m1 - m0 + len then (if i < 2 * (hm - m0) then zmsk n f0 (4 * m0) else 0) else (if 2 * len - 1 - i < 2 * (hm - m1) then zmsk n f1 (4 * m1) else 0) := by
  by_cases hz : n ≤ 0
  · have e0 : ∀ g m, zmsk n g m = 0 := by
      intro g m
      unfold zmsk
      have : ∀ j : Int, 0 ≤ j → j < 4 → (decide (j < n) && decide (g j = m)) = (fun _ => false) j := by
        intro j p1 p2
        simp
        omega
      rw [zb4_congr this]
      rfl
    have e1 : zbits n C (4 * hm) = 0 := by
      unfold zbits
      have : ∀ j : Int, 0 ≤ j → j < 4 → zB n C (4 * hm) j = (fun _ => false) j := by
        intro j p1 p2
        rw [Bool.eq_false_iff, Ne, zB_iff hn]
        omega
      rw [zb4_congr this]
      rfl
    rw [e1, e0, e0]
    split <;> split <;> rfl
  obtain ⟨a1, a2⟩ := h0
  obtain ⟨b1, b2⟩ := h1
  obtain ⟨j0, j1, j2, j3⟩ : ∃ j, 0 ≤ j ∧ j < n ∧ f0 j = 4 * m0 := by
    rcases a2 with ⟨z, -⟩ | z
    · omega
    · exact z
  obtain ⟨k0, k1, k2, k3⟩ : ∃ j, 0 ≤ j ∧ j < n ∧ f1 j = 4 * m1 := by
    rcases b2 with ⟨z, -⟩ | z
    · omega
    · exact z
  by_cases hc : i < m1 - m0 + len
  · rw [if_pos hc]
    have hL : zLe n C (4 * 1000000) (4 * m0 + (2 * i + 1)) := by
      refine ⟨fun j p1 p2 => ?_, Or.inr ⟨j0, j1, j2, ?_⟩⟩
      · rw [hC j p1 p2]
        have := a1 j p1 p2
        have := b1 j p1 p2
        omega
      · rw [hC j0 j1 j2]
        have := b1 j0 j1 j2
        omega
    rw [zbits_le hn hL (by omega)]
    have e : zmsk n C (4 * m0 + (2 * i + 1)) = zmsk n f0 (4 * m0) := by
      unfold zmsk
      refine zb4_congr (fun j p1 p2 => ?_)
      rw [Bool.eq_iff_iff]
      simp only [Bool.and_eq_true, decide_eq_true_eq]
      constructor
      · rintro ⟨q1, q2⟩
        rw [hC j p1 q1] at q2
        have := a1 j p1 q1
        have := b1 j p1 q1
        omega
      · rintro ⟨q1, q2⟩
        refine ⟨q1, ?_⟩
        rw [hC j p1 q1]
        have := b1 j p1 q1
        omega
    rw [e]
    by_cases h2 : i < 2 * (hm - m0)
    · rw [if_pos h2, if_pos (by omega)]
    · rw [if_neg h2, if_neg (by omega)]
  · rw [if_neg hc]
    have hL : zLe n C (4 * 1000000) (4 * m1 + (4 * len - (2 * i + 1))) := by
      refine ⟨fun j p1 p2 => ?_, Or.inr ⟨k0, k1, k2, ?_⟩⟩
      · rw [hC j p1 p2]
        have := a1 j p1 p2
        have := b1 j p1 p2
        omega
      · rw [hC k0 k1 k2]
        have := a1 k0 k1 k2
        omega
    rw [zbits_le hn hL (by omega)]
    have e : zmsk n C (4 * m1 + (4 * len - (2 * i + 1))) = zmsk n f1 (4 * m1) := by
      unfold zmsk
      refine zb4_congr (fun j p1 p2 => ?_)
      rw [Bool.eq_iff_iff]
      simp only [Bool.and_eq_true, decide_eq_true_eq]
      constructor
      · rintro ⟨q1, q2⟩
        rw [hC j p1 q1] at q2
        have := a1 j p1 q1
        have := b1 j p1 q1
        omega
      · rintro ⟨q1, q2⟩
        refine ⟨q1, ?_⟩
        rw [hC j p1 q1]
        have := a1 j p1 q1
        omega
    rw [e]
    by_cases h2 : 2 * len - 1 - i < 2 * (hm - m1)
    · rw [if_pos h2, if_pos (by omega)]
    · rw [if_neg h2, if_neg (by omega)]
/-- what a stretch sells in all: any weight w of who buys -/
theorem zstretch_sum {n hm m0 m1 : Int} {len : Nat} {C : Nat → Int → Int} {f0 f1 : Int → Int} {w : Int → Int} (hn : n ≤ 4) (h0 : zLe n f0 (4 * 1000000) (4 * m0)) (h1 : zLe n f1 (4 * 1000000) (4 * m1)) (hh : hm ≤ 9999) (hlen : len < 1000) (hb1 : m1 ≤ m0 + len) (hb2 : m0 ≤ m1 + len)
    (hC : ∀ i : Nat, i < 2 * len → ∀ j, 0 ≤ j → j < n → C i j = min (f0 j + (2 * i + 1)) (f1 j + (4 * len - (2 * i + 1)))) {fl fr : Int} (hfl : fl = max 0 (min (m1 - m0 + len) (2 * (hm - m0)))) (hfr : fr = max 0 (min (2 * len - (m1 - m0 + len)) (2 * (hm - m1)))) :
    zS (fun i => w (zbits n (C i) (4 * hm))) (2 * len) = fl * w (zmsk n f0 (4 * m0)) + fr * w (zmsk n f1 (4 * m1)) + (2 * len - fl - fr) * w 0 := by
  have h3 := zS_three (f := fun i => w (zbits n (C i) (4 * hm))) (a := w (zmsk n f0 (4 * m0))) (b := w (zmsk n f1 (4 * m1))) (c := w 0) fl.toNat fr.toNat (2 * len) (by omega) (fun i hi => ?_) (fun i hi hi2 => ?_) (fun i hi hi2 => ?_)
  · rw [h3]
    have e1 : ((fl.toNat : Nat) : Int) = fl := by omega
    have e2 : ((fr.toNat : Nat) : Int) = fr := by omega
    have e3 : ((2 * len : Nat) : Int) = 2 * (len : Int) := by omega
    rw [e1, e2, e3]
  · rw [zstretch (i := i) (len := len) hn h0 h1 (by omega) hh (by omega) (hC i (by omega)), if_pos (by omega), if_pos (by omega)]
  · rw [zstretch (i := i) (len := len) hn h0 h1 (by omega) hh (by omega) (hC i (by omega))]
    split
    · rw [if_neg (by omega)]
    · rw [if_neg (by omega)]
  · rw [zstretch (i := i) (len := len) hn h0 h1 (by omega) hh (by omega) (hC i (by omega)), if_neg (by omega), if_pos (by omega)]
