-- MATH: fewest steps: triangle, symmetry; class's and model's
theorem zpp_at {n v a b : Int} {d : Int → Int} (ha : 0 ≤ a ∧ a < n) (hb : 0 ≤ b ∧ b < n) (hn : n ≤ 12) : zpp n v n 0 d (12 * a + b) = min (d (12 * a + b)) (d (12 * a + v) + d (12 * v + b)) := by
  unfold zpp
  have e1 : (12 * a + b) / 12 = a := by omega
  have e2 : (12 * a + b) % 12 = b := by omega
  rw [if_pos (by omega), e1, e2]
theorem zfw_at {n a b : Int} {d : Int → Int} {v : Nat} (ha : 0 ≤ a ∧ a < n) (hb : 0 ≤ b ∧ b < n) (hn : n ≤ 12) : zfw n d (v + 1) (12 * a + b) = min (zfw n d v (12 * a + b)) (zfw n d v (12 * a + v) + zfw n d v (12 * v + b)) := zpp_at ha hb hn
theorem zfw_le {n a b : Int} {d : Int → Int} (ha : 0 ≤ a ∧ a < n) (hb : 0 ≤ b ∧ b < n) (hn : n ≤ 12) : ∀ v : Nat, zfw n d v (12 * a + b) ≤ d (12 * a + b)
  | 0 => Int.le_refl _
  | v + 1 => by
    have := zfw_le (d := d) ha hb hn v
    rw [zfw_at ha hb hn]
    omega
theorem zfw_sym {n : Int} {d : Int → Int} (hn : n ≤ 12) (h : ∀ a b, 0 ≤ a → a < n → 0 ≤ b → b < n → d (12 * a + b) = d (12 * b + a)) : ∀ v : Nat, (v : Int) ≤ n → ∀ a b, 0 ≤ a → a < n → 0 ≤ b → b < n → zfw n d v (12 * a + b) = zfw n d v (12 * b + a)
  | 0, _ => h
  | v + 1, hv => by
    have ih := zfw_sym hn h v (by omega)
    intro a b a1 a2 b1 b2
    rw [zfw_at ⟨a1, a2⟩ ⟨b1, b2⟩ hn, zfw_at ⟨b1, b2⟩ ⟨a1, a2⟩ hn, ih a b a1 a2 b1 b2, ih a v a1 a2 (by omega) (by omega), ih v b (by omega) (by omega) b1 b2]
    omega
theorem zfw_tri {F n : Int} {d : Int → Int} (hn : n ≤ 12) (hin : zin F d) (hdg : ∀ i, 0 ≤ i → i < n → d (13 * i) = 0) : ∀ v : Nat, (v : Int) ≤ n → ∀ a b c, 0 ≤ a → a < n → 0 ≤ b → b < n → 0 ≤ c → c < (v : Int) → zfw n d v (12 * a + b) ≤ zfw n d v (12 * a + c) + zfw n d v (12 * c + b)
  | 0, _ => fun a b c _ _ _ _ c1 c2 => by omega
  | v + 1, hv => by
    have ih := zfw_tri hn hin hdg v (by omega)
    intro a b c a1 a2 b1 b2 c1 c2
    have pos : ∀ x y, 0 ≤ x → x < n → 0 ≤ y → y < n → 0 ≤ zfw n d v (12 * x + y) := fun x y x1 x2 y1 y2 => (zfw_in hin v (by omega) (12 * x + y) (by omega) (by omega)).1
    have dv : zfw n d v (12 * v + v) = 0 := by
      have := zfw_dg (n := n) hin (i := (v : Int)) (by omega) (hdg v (by omega) (by omega)) v (by omega)
      rw [show 13 * (v : Int) = 12 * v + v by omega] at this
      exact this
    rw [zfw_at ⟨a1, a2⟩ ⟨b1, b2⟩ hn, zfw_at ⟨a1, a2⟩ ⟨c1, by omega⟩ hn, zfw_at ⟨c1, by omega⟩ ⟨b1, b2⟩ hn]
    by_cases e : c = v
    · subst e
      rw [dv]
      omega
    · have t1 := ih a b c a1 a2 b1 b2 c1 (by omega)
      have t2 := ih v b c (by omega) (by omega) b1 b2 c1 (by omega)
      have t3 := ih a v c a1 a2 (by omega) (by omega) c1 (by omega)
      have p1 := pos v c (by omega) (by omega) c1 (by omega)
      have p2 := pos c v c1 (by omega) (by omega) (by omega)
      omega
/-- steps of the class and of the model: finite ones are the same -/
def zFb (B c s : Int) : Prop := (0 ≤ c ∧ c ≤ B ∧ s = c) ∨ (c = 100000 ∧ s = 1000000)
theorem zFb_min {B c1 s1 c2 s2 c3 s3 : Int} (hB : B ≤ 24576) (h1 : zFb B c1 s1) (h2 : zFb B c2 s2) (h3 : zFb B c3 s3) : zFb (2 * B) (min c1 (c2 + c3)) (min s1 (s2 + s3)) := by
  unfold zFb at *
  omega
theorem zfw_fb {n : Int} {d e : Int → Int} (hn : n ≤ 12) (h : ∀ a b, 0 ≤ a → a < n → 0 ≤ b → b < n → zFb 12 (d (12 * a + b)) (e (12 * a + b))) : ∀ v : Nat, (v : Int) ≤ n → ∀ a b, 0 ≤ a → a < n → 0 ≤ b → b < n → zFb (12 * 2 ^ v) (zfw n d v (12 * a + b)) (zfw n e v (12 * a + b))
  | 0, _ => by
    intro a b a1 a2 b1 b2
    have := h a b a1 a2 b1 b2
    show zFb (12 * 2 ^ 0) (d (12 * a + b)) (e (12 * a + b))
    rw [show (12 : Int) * 2 ^ 0 = 12 by decide]
    exact this
  | v + 1, hv => by
    have ih := zfw_fb hn h v (by omega)
    intro a b a1 a2 b1 b2
    rw [zfw_at ⟨a1, a2⟩ ⟨b1, b2⟩ hn, zfw_at ⟨a1, a2⟩ ⟨b1, b2⟩ hn]
    have q : (12 : Int) * 2 ^ v ≤ 24576 := by
      have : ∀ w : Nat, w ≤ 11 → (12 : Int) * 2 ^ w ≤ 24576 := by decide
      exact this v (by omega)
    have := zFb_min q (ih a b a1 a2 b1 b2) (ih a v a1 a2 (by omega) (by omega)) (ih v b (by omega) (by omega) b1 b2)
    rw [show (12 : Int) * 2 ^ (v + 1) = 2 * (12 * 2 ^ v) by rw [Int.pow_succ]; omega]
    exact this
/-- the model's way between neighbours -/
def yjn (w : Int → Int) (a b s : Int) : Int → Int := zu (zu w (12 * a + b) (min (w (12 * a + b)) s)) (12 * b + a) (min (w (12 * a + b)) s)
/-- class's and model's steps between neighbours -/
def zNb (n : Int) (w u : Int → Int) : Prop := (∀ a b, 0 ≤ a → a < n → 0 ≤ b → b < n → zFb 12 (w (12 * a + b)) (u (12 * a + b)) ∧ w (12 * a + b) = w (12 * b + a)) ∧ (∀ a, 0 ≤ a → a < n → w (13 * a) = 0) ∧ zin 100000 w ∧ zin 1000000 u
theorem zNb_sym {n : Int} {w u : Int → Int} (h : zNb n w u) {a b : Int} (a1 : 0 ≤ a) (a2 : a < n) (b1 : 0 ≤ b) (b2 : b < n) : u (12 * a + b) = u (12 * b + a) := by
  have h1 := h.1 a b a1 a2 b1 b2
  have h2 := h.1 b a b1 b2 a1 a2
  unfold zFb at h1 h2
  omega
theorem zNb_jn {n a b s : Int} {w u : Int → Int} (hn : n ≤ 12) (h : zNb n w u) (ha : 0 ≤ a ∧ a < n) (hb : 0 ≤ b ∧ b < n) (hs : 1 ≤ s ∧ s ≤ 12) : zNb n (zjn w a b s) (yjn u a b s) := by
  obtain ⟨h1, h2, h3, h4⟩ := id h
  have q := h1 a b ha.1 ha.2 hb.1 hb.2
  have ec : ∀ k, zjn w a b s k = if k = 12 * b + a ∨ k = 12 * a + b then min (w (12 * a + b)) s else w k := by
    intro k
    unfold zjn
    by_cases c : s < w (12 * a + b)
    · rw [if_pos c]
      unfold zu
      by_cases e1 : k = 12 * b + a
      · rw [if_pos e1, if_pos (Or.inl e1)]
        omega
      · rw [if_neg e1]
        by_cases e2 : k = 12 * a + b
        · rw [if_pos e2, if_pos (Or.inr e2)]
          omega
        · rw [if_neg e2, if_neg (by omega)]
    · rw [if_neg c]
      by_cases e : k = 12 * b + a ∨ k = 12 * a + b
      · rw [if_pos e]
        rcases e with e | e
        · rw [e, ← q.2]
          omega
        · rw [e]
          omega
      · rw [if_neg e]
  have eu : ∀ k, yjn u a b s k = if k = 12 * b + a ∨ k = 12 * a + b then min (u (12 * a + b)) s else u k := by
    intro k
    unfold yjn zu
    by_cases e1 : k = 12 * b + a
    · rw [if_pos e1, if_pos (Or.inl e1)]
    · rw [if_neg e1]
      by_cases e2 : k = 12 * a + b
      · rw [if_pos e2, if_pos (Or.inr e2)]
      · rw [if_neg e2, if_neg (by omega)]
  have q0 := h3 (12 * a + b) (by omega) (by omega)
  have u0 := h4 (12 * a + b) (by omega) (by omega)
  refine ⟨fun x y x1 x2 y1 y2 => ?_, fun x x1 x2 => ?_, fun k k1 k2 => ?_, fun k k1 k2 => ?_⟩
  · have hq := h1 x y x1 x2 y1 y2
    rw [ec, eu, ec]
    by_cases e : 12 * x + y = 12 * b + a ∨ 12 * x + y = 12 * a + b
    · rw [if_pos e, if_pos e, if_pos (by omega)]
      refine ⟨?_, rfl⟩
      have := q.1
      unfold zFb at this ⊢
      omega
    · rw [if_neg e, if_neg e, if_neg (by omega)]
      exact hq
  · rw [ec]
    split
    · rename_i e
      have e1 : a = x ∧ b = x := by omega
      have := h2 x x1 x2
      rw [e1.1, e1.2, show 12 * x + x = 13 * x by omega, this]
      omega
    · exact h2 x x1 x2
  · rw [ec]
    split
    · omega
    · exact h3 k k1 k2
  · rw [eu]
    split
    · omega
    · exact h4 k k1 k2
def yst (sh wa wb ws : Int → Int) (u : Int → Int) : Nat → Int → Int
  | 0 => u
  | i + 1 => if sh i = 0 then yjn (yst sh wa wb ws u i) (wa i) (wb i) (ws i) else yst sh wa wb ws u i
theorem zNb_st {n : Int} {w u sh a b s sh' wa wb ws : Int → Int} (hn : n ≤ 12) (h : zNb n w u) : ∀ m : Nat, (∀ i : Nat, i < m → sh' i = sh i ∧ wa i = a i ∧ wb i = b i ∧ ws i = s i ∧ (0 ≤ a i ∧ a i < n) ∧ (0 ≤ b i ∧ b i < n) ∧ (1 ≤ s i ∧ s i ≤ 12)) → zNb n (zst sh a b s w m) (yst sh' wa wb ws u m)
  | 0, _ => h
  | m + 1, hm => by
    have ih := zNb_st (w := w) (u := u) (sh := sh) (a := a) (b := b) (s := s) (sh' := sh') (wa := wa) (wb := wb) (ws := ws) hn h m (fun i hi => hm i (by omega))
    obtain ⟨q1, q2, q3, q4, q5, q6, q7⟩ := hm m (by omega)
    rw [zst, yst, q1, q2, q3, q4]
    by_cases e : sh m = 0
    · rw [if_pos e, if_pos e]
      exact zNb_jn hn ih q5 q6 q7
    · rw [if_neg e, if_neg e]
      exact ih
theorem zNb_ln {n : Int} {w u l1 l2 ls sh' wa wb ws : Int → Int} (hn : n ≤ 12) {k : Nat} (h : zNb n w (yst sh' wa wb ws u k)) : ∀ m : Nat, (∀ i : Nat, i < m → wa ((k : Int) + i) = l1 i ∧ wb ((k : Int) + i) = l2 i ∧ (0 ≤ l1 i ∧ l1 i < n) ∧ (0 ≤ l2 i ∧ l2 i < n) ∧ ((sh' ((k : Int) + i) = 0 ∧ ws ((k : Int) + i) = ls i ∧ 1 ≤ ls i ∧ ls i ≤ 12) ∨ (sh' ((k : Int) + i) = 1 ∧ ls i = 100000))) → zNb n (zst zz0 l1 l2 ls w m) (yst sh' wa wb ws u (k + m))
  | 0, _ => h
  | m + 1, hm => by
    have ih := zNb_ln (w := w) (u := u) (l1 := l1) (l2 := l2) (ls := ls) (sh' := sh') (wa := wa) (wb := wb) (ws := ws) hn h m (fun i hi => hm i (by omega))
    obtain ⟨q2, q3, q5, q6, q7⟩ := hm m (by omega)
    rw [zst, if_pos (show zz0 (m : Int) = 0 from rfl), ← Nat.add_assoc, yst, show (((k + m : Nat)) : Int) = (k : Int) + m by omega, q2, q3]
    rcases q7 with ⟨e1, e2, e3⟩ | ⟨e1, e2⟩
    · rw [if_pos e1, e2]
      exact zNb_jn hn ih q5 q6 e3
    · rw [if_neg (by omega), e2]
      have : zjn (zst zz0 l1 l2 ls w m) (l1 m) (l2 m) 100000 = zst zz0 l1 l2 ls w m := by
        unfold zjn
        have := ih.2.2.1 (12 * l1 m + l2 m) (by omega) (by omega)
        rw [if_neg (by omega)]
      rw [this]
      exact ih
/-- a way that is open isn't longer than its steps -/
theorem zjn_le {w : Int → Int} {a b s : Int} (k : Int) (hsym : w (12 * b + a) = w (12 * a + b)) : zjn w a b s k ≤ w k := by
  unfold zjn zu
  split
  · dsimp only
    split
    · rename_i e
      rw [e, hsym]
      omega
    · split
      · rename_i e
        rw [e]
        omega
      · exact Int.le_refl _
  · exact Int.le_refl _
theorem zjn_at {w : Int → Int} {a b s : Int} : zjn w a b s (12 * a + b) ≤ s := by
  unfold zjn zu
  split
  · dsimp only
    split
    · exact Int.le_refl _
    · rw [if_pos rfl]
      exact Int.le_refl _
  · omega
