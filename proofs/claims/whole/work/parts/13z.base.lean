-- steps of the ghost machine, the cut first
theorem wp_c {Γ : List ab_O} {M : ab_M} {cuts : List Nat} {K : ab_K} {Rt : ab_V → ab_S → Prop} {n pc : Nat} {L : ab_L} {st : List ab_V} {σ : ab_S} (h : ab_in pc cuts = true) : ab_wp Γ M cuts K Rt (n + 1) pc L st σ = K pc L st σ := by
  rw [wp_s, h]
  rfl
theorem wp_g {Γ : List ab_O} {M : ab_M} {cuts : List Nat} {K : ab_K} {Rt : ab_V → ab_S → Prop} {n pc : Nat} {L : ab_L} {st : List ab_V} {σ : ab_S} (h : ab_in pc cuts = false) : ab_wp Γ M cuts K Rt (n + 1) pc L st σ = ab_stp Γ M (ab_wp Γ M cuts K Rt n) Rt pc L st σ := by
  rw [wp_s, h]
  rfl
/-- a branch -/
def ab_br (p A B : Prop) : Prop := (p → A) ∧ (¬ p → B)
theorem bq_t {p A B : Prop} (h : p) : ab_br p A B = A := propext ⟨fun q => q.1 h, fun a => ⟨fun _ => a, fun n => absurd h n⟩⟩
theorem bq_f {p A B : Prop} (h : ¬ p) : ab_br p A B = B := propext ⟨fun q => q.2 h, fun b => ⟨fun p => absurd p h, fun _ => b⟩⟩
theorem e2_ifCond (Γ : List ab_O) (M : ab_M) (K : ab_K) (Rt : ab_V → ab_S → Prop) (pc n : Nat) (L : ab_L) (st : List ab_V) (σ : ab_S) (c : ClassFile.Cond) (off : Int) : ab_ex Γ M K Rt pc n L st σ (.ifCond c off) = (n = 3 ∧ ab_b1 st (fun x r => ab_r32 x ∧ 0 ≤ (pc : Int) + off ∧ ab_br (ab_cd c x 0) (K (ab_tg pc off) L r σ) (K (pc + 3) L r σ))) := rfl
theorem e2_if_icmp (Γ : List ab_O) (M : ab_M) (K : ab_K) (Rt : ab_V → ab_S → Prop) (pc n : Nat) (L : ab_L) (st : List ab_V) (σ : ab_S) (c : ClassFile.Cond) (off : Int) : ab_ex Γ M K Rt pc n L st σ (.if_icmp c off) = (n = 3 ∧ ab_b2 st (fun x y r => (ab_r32 x ∧ ab_r32 y) ∧ 0 ≤ (pc : Int) + off ∧ ab_br (ab_cd c x y) (K (ab_tg pc off) L r σ) (K (pc + 3) L r σ))) := rfl
