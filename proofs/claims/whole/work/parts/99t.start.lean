-- THE START: the model's store, class and model beside each other (printed by wip/gen/mkstart.py)
def zm0 : ab_S := fun o k => if o = 0 then (if k = 4 then 1 else if k = 5 then 9999 else if k = 6 then 10 else if k = 7 then 10 else if k = 30 then -1 else if k = 39 then -1 else 0) else 0
def zma (h0 : Nat) (u : Nat → Nat) : Nat → Nat
  | 0 => h0
  | i + 1 => u i
set_option maxRecDepth 100000 in
theorem zm_w (cs : Nat → ClassId) (h0 : Nat) (u : Nat → Nat) : ([(h0, .inr (11, [.int 0, .int 0, .int 0, .int 0, .int (1), .int (9999), .int (10), .int (10), .ref (u 0), .ref (u 1), .ref (u 2), .ref (u 3), .ref (u 4), .ref (u 5), .ref (u 6), .ref (u 7), .ref (u 8), .ref (u 9), .ref (u 10), .ref (u 11), .ref (u 12), .ref (u 13), .int 0, .int 0, .int 0, .int 0, .int 0, .int 0, .ref (u 14), .int 0, .int (-1), .int 0, .int 0, .int 0, .int 0, .int 0, .long 0, .int 0, .int 0, .int (-1), .ref (u 15), .ref (u 16), .ref (u 17), .ref (u 18), .ref (u 19), .int 0, .int 0, .int 0, .ref (u 20), .ref (u 21), .ref (u 22), .ref (u 23), .ref (u 24), .int 0, .ref (u 25), .ref (u 26), .ref (u 27), .ref (u 28), .ref (u 29), .ref (u 30), .long 0, .int 0, .ref (u 31), .long 0, .int 0, .int 0, .ref (u 32), .ref (u 33), .ref (u 34), .ref (u 35), .ref (u 36), .ref (u 37), .int 0, .int 0, .int 0, .int 0, .int 0, .ref (u 38), .ref (u 39), .int 0, .int 0, .ref (u 40), .ref (u 41), .ref (u 42), .ref (u 43), .ref (u 44), .int 0, .int 0, .int 0, .int 0, .int 0, .ref (u 45), .ref (u 46), .ref (u 47), .ref (u 48), .ref (u 49), .ref (u 50), .ref (u 51)])), ((u 0), .inl (cs 1, (12, .inr (.inl (fun _ => 0))))), ((u 1), .inl (cs 1, (12, .inr (.inl (fun _ => 0))))), ((u 2), .inl (cs 0, (12, .inl (fun _ => 0)))), ((u 3), .inl (cs 0, (12, .inl (fun _ => 0)))), ((u 4), .inl (cs 0, (36, .inl (fun _ => 0)))), ((u 5), .inl (cs 0, (36, .inl (fun _ => 0)))), ((u 6), .inl (cs 0, (16, .inl (fun _ => 0)))), ((u 7), .inl (cs 0, (16, .inl (fun _ => 0)))), ((u 8), .inl (cs 0, (16, .inl (fun _ => 0)))), ((u 9), .inl (cs 0, (16, .inl (fun _ => 0)))), ((u 10), .inl (cs 0, (16, .inl (fun _ => 0)))), ((u 11), .inl (cs 0, (16, .inl (fun _ => 0)))), ((u 12), .inl (cs 0, (16, .inl (fun _ => 0)))), ((u 13), .inl (cs 0, (16, .inl (fun _ => 0)))), ((u 14), .inl (cs 3, (900, .inl (fun _ => 0)))), ((u 15), .inl (cs 0, (9, .inl (fun _ => 0)))), ((u 16), .inl (cs 0, (120, .inl (fun _ => 0)))), ((u 17), .inl (cs 0, (120, .inl (fun _ => 0)))), ((u 18), .inl (cs 0, (120, .inl (fun _ => 0)))), ((u 19), .inl (cs 0, (120, .inl (fun _ => 0)))), ((u 20), .inl (cs 0, (24, .inl (fun _ => 0)))), ((u 21), .inl (cs 0, (24, .inl (fun _ => 0)))), ((u 22), .inl (cs 0, (24, .inl (fun _ => 0)))), ((u 23), .inl (cs 0, (144, .inl (fun _ => 0)))), ((u 24), .inl (cs 2, (24, .inl (fun _ => 0)))), ((u 25), .inl (cs 0, (4, .inl (fun _ => 0)))), ((u 26), .inl (cs 0, (4, .inl (fun _ => 0)))), ((u 27), .inl (cs 0, (4, .inl (fun _ => 0)))), ((u 28), .inl (cs 0, (4, .inl (fun _ => 0)))), ((u 29), .inl (cs 0, (4, .inl (fun _ => 0)))), ((u 30), .inl (cs 1, (4, .inr (.inl (fun _ => 0))))), ((u 31), .inl (cs 0, (48, .inl (fun _ => 0)))), ((u 32), .inl (cs 0, (256, .inl (fun _ => 0)))), ((u 33), .inl (cs 0, (256, .inl (fun _ => 0)))), ((u 34), .inl (cs 2, (1728, .inl (fun _ => 0)))), ((u 35), .inl (cs 1, (1728, .inr (.inl (fun _ => 0))))), ((u 36), .inl (cs 1, (1728, .inr (.inl (fun _ => 0))))), ((u 37), .inl (cs 1, (1728, .inr (.inl (fun _ => 0))))), ((u 38), .inl (cs 1, (441, .inr (.inl (fun _ => 0))))), ((u 39), .inl (cs 1, (441, .inr (.inl (fun _ => 0))))), ((u 40), .inl (cs 1, (4, .inr (.inl (fun _ => 0))))), ((u 41), .inl (cs 1, (4, .inr (.inl (fun _ => 0))))), ((u 42), .inl (cs 0, (4, .inl (fun _ => 0)))), ((u 43), .inl (cs 0, (12, .inl (fun _ => 0)))), ((u 44), .inl (cs 0, (4, .inl (fun _ => 0)))), ((u 45), .inl (cs 0, (4, .inl (fun _ => 0)))), ((u 46), .inl (cs 0, (4, .inl (fun _ => 0)))), ((u 47), .inl (cs 0, (16, .inl (fun _ => 0)))), ((u 48), .inl (cs 0, (16, .inl (fun _ => 0)))), ((u 49), .inl (cs 0, (16, .inl (fun _ => 0)))), ((u 50), .inl (cs 0, (16, .inl (fun _ => 0)))), ((u 51), .inl (cs 0, (16, .inl (fun _ => 0))))] : va_W) = ab_w ab_G2 cs (zma h0 u) zm0 := rfl
theorem zs_u {u : ab_S} (h : zLy zw0 (-1) u) : (∀ o, ¬ (28 ≤ o ∧ o ≤ 33) → u o = zw0 o) ∧ u 28 7 = 0 ∧ u 28 8 = -1 := by
  refine ⟨zLy_o h, ?_⟩
  obtain ⟨σ1, σ2, hh, -, rfl⟩ := h
  rcases hh with ⟨-, hB, rfl⟩ | ⟨hc, -⟩
  · obtain ⟨-, -, -, ha, hp⟩ := hB
    rw [ab_set_ne _ _ (by decide)]
    exact ⟨ha, hp⟩
  · exact absurd hc (by decide)
theorem zs_Q {u : ab_S} (h : zLy zw0 (-1) u) : zQ u := by
  have e := (zs_u h).1
  have s0_15 : u 0 15 = 0 := by rw [e 0 (by omega)]; rfl
  have s82_12 : u 82 12 = -1 := by rw [e 82 (by omega)]; rfl
  have s82_13 : u 82 13 = 0 := by rw [e 82 (by omega)]; rfl
  have s88_13 : u 88 13 = -1 := by rw [e 88 (by omega)]; rfl
  have s88_11 : u 88 11 = 0 := by rw [e 88 (by omega)]; rfl
  have s96_12 : u 96 12 = -1 := by rw [e 96 (by omega)]; rfl
  have s96_13 : u 96 13 = -1 := by rw [e 96 (by omega)]; rfl
  have s96_14 : u 96 14 = -1 := by rw [e 96 (by omega)]; rfl
  have s88_14 : u 88 14 = -1 := by rw [e 88 (by omega)]; rfl
  have s88_15 : u 88 15 = -1 := by rw [e 88 (by omega)]; rfl
  have s88_16 : u 88 16 = -1 := by rw [e 88 (by omega)]; rfl
  have s76_8 : u 76 8 = 1 := by rw [e 76 (by omega)]; rfl
  have f91 : ∀ k, u 91 k = 0 := fun k => by rw [e 91 (by omega)]; rfl
  have f78 : ∀ k, u 78 k = 0 := fun k => by rw [e 78 (by omega)]; rfl
  refine ⟨⟨by omega, by omega, fun z => absurd z (by omega)⟩, ⟨by omega, ⟨by omega, fun p _ _ => ?_⟩, fun z => absurd z (by omega)⟩, ⟨by omega, by omega, fun z => absurd z (by omega)⟩, ⟨by omega, by omega, fun z => absurd z (by omega)⟩, ⟨s76_8, fun j _ _ => f78 j⟩⟩
  rw [f91 p]
  omega
theorem zs_B {u : ab_S} (h : zLy zw0 (-1) u) : yB u zm0 := by
  obtain ⟨e, ha, hp⟩ := zs_u h
  have s0_12 : u 0 12 = 0 := by rw [e 0 (by omega)]; rfl
  have s0_13 : u 0 13 = -1 := by rw [e 0 (by omega)]; rfl
  have s0_14 : u 0 14 = 0 := by rw [e 0 (by omega)]; rfl
  have s0_15 : u 0 15 = 0 := by rw [e 0 (by omega)]; rfl
  have s1_1 : u 1 1 = 0 := by rw [e 1 (by omega)]; rfl
  have s3_8 : u 3 8 = 0 := by rw [e 3 (by omega)]; rfl
  have s3_9 : u 3 9 = 0 := by rw [e 3 (by omega)]; rfl
  have s3_10 : u 3 10 = 1 := by rw [e 3 (by omega)]; rfl
  have s3_11 : u 3 11 = 9999 := by rw [e 3 (by omega)]; rfl
  have s3_12 : u 3 12 = 10 := by rw [e 3 (by omega)]; rfl
  have s3_13 : u 3 13 = 10 := by rw [e 3 (by omega)]; rfl
  have s3_14 : u 3 14 = 0 := by rw [e 3 (by omega)]; rfl
  have s21_6 : u 21 6 = 0 := by rw [e 21 (by omega)]; rfl
  have s34_5 : u 34 5 = 0 := by rw [e 34 (by omega)]; rfl
  have s34_6 : u 34 6 = -1 := by rw [e 34 (by omega)]; rfl
  have f2 : ∀ k, u 2 k = 0 := fun k => by rw [e 2 (by omega)]; rfl
  have f6 : ∀ k, u 6 k = 0 := fun k => by rw [e 6 (by omega)]; rfl
  have f7 : ∀ k, u 7 k = 0 := fun k => by rw [e 7 (by omega)]; rfl
  have f11 : ∀ k, u 11 k = 0 := fun k => by rw [e 11 (by omega)]; rfl
  refine ⟨⟨⟨by omega, fun i _ _ => by rw [f2 i]; omega⟩, fun i _ _ => ⟨?_, ?_⟩, ?_⟩, ⟨⟨by omega, fun k k1 k2 => absurd k2 (by omega)⟩, ⟨by omega, by omega, fun k k1 k2 => absurd k2 (by omega)⟩, fun k _ _ => by rw [f6 k]; omega, fun k _ _ => by rw [f7 k]; omega, fun k _ _ => by rw [f11 k]; omega, by omega, by omega, by omega, by omega⟩, ?_, ⟨by omega, fun k k1 k2 => absurd k2 (by omega)⟩, ⟨?_, fun k k1 k2 => absurd k2 (by omega)⟩, ⟨by omega, by omega, fun k k1 k2 => absurd k2 (by omega)⟩, ⟨?_, ?_, fun k k1 k2 => absurd k2 (by omega)⟩, ⟨by omega, ?_, fun i hi => absurd hi (by omega)⟩, ?_, ⟨?_, fun z => absurd z (by omega), fun k k1 k2 => absurd k2 (by omega), fun a b a1 a2 => absurd a2 (by omega)⟩, ?_, ?_, by omega, by omega⟩
  · exact ⟨(by decide : (-128 : Int) ≤ 0), (by decide : (0 : Int) ≤ 127)⟩
  · rw [f2 i]
    rfl
  · rw [s1_1]
    rfl
  · refine ⟨fun k k1 k2 => absurd k2 (by omega), ?_, ?_, ?_, ?_, ?_, ?_, ?_, fun k k1 k2 => absurd k2 (by omega), fun k k1 k2 => absurd k2 (by omega)⟩
    · rw [s3_8]; rfl
    · rw [s3_9]; rfl
    · rw [s3_10]; rfl
    · rw [s3_11]; rfl
    · rw [s3_12]; rfl
    · rw [s3_13]; rfl
    · rw [s3_14]; rfl
  · rw [s21_6]; rfl
  · rw [s34_5]; rfl
  · rw [s34_6]; rfl
  · rw [s0_12]; rfl
  · refine ⟨zw0, u, fun o o1 o2 => (e o (by omega)).symm, fun z => absurd z (by omega), by rw [s34_6]; exact h, rfl, rfl, rfl, rfl⟩
  · rw [ha]; rfl
  · rw [s0_14]; rfl
  · rw [s0_13]; rfl
