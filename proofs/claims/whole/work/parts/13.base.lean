abbrev vI (x : Int) : ab_V := Sum.inl x
abbrev vJ (x : Int) : ab_V := Sum.inr (Sum.inl x)
abbrev vR (o : Nat) : ab_V := Sum.inr (Sum.inr (Sum.inl o))
theorem ab_cat_i (x : Int) : ab_cat (.inl x) = 1 := rfl
theorem ab_cat_l (x : Int) : ab_cat (.inr (.inl x)) = 2 := rfl
theorem ab_cat_r (x : Nat ⊕ Nat) : ab_cat (.inr (.inr x)) = 1 := rfl
theorem wp_z (Γ : List ab_O) (M : ab_M) (cuts : List Nat) (K : ab_K) (Rt : ab_V → ab_S → Prop) (pc : Nat) (L : ab_L) (st : List ab_V) (σ : ab_S) : ab_wp Γ M cuts K Rt 0 pc L st σ = K pc L st σ := rfl
theorem wp_s (Γ : List ab_O) (M : ab_M) (cuts : List Nat) (K : ab_K) (Rt : ab_V → ab_S → Prop) (n pc : Nat) (L : ab_L) (st : List ab_V) (σ : ab_S) : ab_wp Γ M cuts K Rt (n + 1) pc L st σ = (bif ab_in pc cuts then K pc L st σ else ab_stp Γ M (ab_wp Γ M cuts K Rt n) Rt pc L st σ) := rfl
/-- a store with one whole object put anew -/
def ab_set (σ : ab_S) (o : Nat) (f : Int → Int) : ab_S := fun o' => if o' = o then f else σ o'
theorem ab_set_self (σ : ab_S) (o : Nat) : ab_set σ o (σ o) = σ := by
  funext q
  unfold ab_set
  by_cases h : q = o
  · rw [if_pos h, h]
  · rw [if_neg h]
theorem ab_set_at (σ : ab_S) (o : Nat) (f : Int → Int) : ab_set σ o f o = f := by simp [ab_set]
theorem ab_set_ne (σ : ab_S) {o q : Nat} (f : Int → Int) (h : q ≠ o) : ab_set σ o f q = σ q := by simp [ab_set, h]
theorem ab_set_set (σ : ab_S) (o : Nat) (f g : Int → Int) : ab_set (ab_set σ o f) o g = ab_set σ o g := by
  funext q
  unfold ab_set
  by_cases h : q = o <;> simp [h]
/-- a function with one place put anew -/
def zu (f : Int → Int) (i v : Int) : Int → Int := fun k => if k = i then v else f k
theorem zu_at (f : Int → Int) (i v : Int) : zu f i v i = v := by simp [zu]
theorem zu_ne (f : Int → Int) {i k : Int} (v : Int) (h : k ≠ i) : zu f i v k = f k := by simp [zu, h]
theorem ab_up_eq (σ : ab_S) (o : Nat) (i v : Int) : ab_up σ o i v = ab_set σ o (zu (σ o) i v) := by
  funext q k
  unfold ab_up ab_set zu
  by_cases h : q = o <;> simp [h]
theorem ab_up_set (σ : ab_S) (o : Nat) (f : Int → Int) (i v : Int) : ab_up (ab_set σ o f) o i v = ab_set σ o (zu f i v) := by
  rw [ab_up_eq, ab_set_at, ab_set_set]
def zfill (f : Int → Int) (n v : Int) : Int → Int := fun k => if 0 ≤ k ∧ k < n then v else f k
theorem zfill_0 (f : Int → Int) (v : Int) : zfill f 0 v = f := by
  funext k
  unfold zfill
  rw [if_neg (by omega)]
theorem zfill_s (f : Int → Int) {n : Int} (h : 0 ≤ n) (v : Int) : zu (zfill f n v) n v = zfill f (n + 1) v := by
  funext k
  unfold zu zfill
  by_cases h1 : k = n
  · rw [if_pos h1, if_pos (by omega)]
  · rw [if_neg h1]
    by_cases h2 : 0 ≤ k ∧ k < n
    · rw [if_pos h2, if_pos (by omega)]
    · rw [if_neg h2, if_neg (by omega)]
