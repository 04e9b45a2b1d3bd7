-- WORLDS of numbered objects
/-- null, or a place -/
def ab_kn (n : Nat) : Value := match n with
  | 0 => .null
  | a + 1 => .ref a
/-- a ghost value on the machine; the text 28 is the formatter, which may be null -/
def ab_d (ad kd : Nat → Nat) : ab_V → Value
  | .inl x => .int (Int32.ofInt x)
  | .inr (.inl x) => .long (Int64.ofInt x)
  | .inr (.inr (.inl o)) => .ref (ad o)
  | .inr (.inr (.inr k)) => if k = 28 then ab_kn (kd 28) else .ref (kd k)
theorem ab_d_t {ad kd : Nat → Nat} {k : Nat} (h : k ≠ 28) : ab_d ad kd (.inr (.inr (.inr k))) = .ref (kd k) := if_neg h
theorem ab_d_f (ad kd : Nat → Nat) : ab_d ad kd (.inr (.inr (.inr 28))) = ab_kn (kd 28) := by
  show (if (28 : Nat) = 28 then ab_kn (kd 28) else Value.ref (kd 28)) = _
  exact if_pos rfl
theorem ab_cat_d (ad kd : Nat → Nat) (v : ab_V) : (ab_d ad kd v).category = ab_cat v := by
  rcases v with x | x | x | x
  · rfl
  · rfl
  · rfl
  · show (if x = 28 then ab_kn (kd 28) else Value.ref (kd x)).category = 1
    by_cases h : x = 28
    · rw [if_pos h]
      cases kd 28 <;> rfl
    · rw [if_neg h]
      rfl
def ab_fv (ad : Nat → Nat) (σ : ab_S) (o : Nat) (t : FieldType) (r : Option Nat) (k : Nat) : Value := match r with
  | some q => .ref (ad q)
  | none => if t = .long then .long (Int64.ofInt (σ o k)) else .int (Int32.ofInt (σ o k))
def ab_cel (cs : Nat → ClassId) (ad : Nat → Nat) (σ : ab_S) (o : Nat) (d : ab_O) : va_E :=
  if d.1 = 20 then .inl (cs 0, d.2.1, .inl (fun j => Int32.ofInt (σ o j)))
  else if d.1 = 21 then .inl (cs 1, d.2.1, .inr (.inl (fun j => Int64.ofInt (σ o j))))
  else if d.1 = 22 then .inl (cs 2, d.2.1, .inl (fun j => Int32.ofInt (σ o j)))
  else if d.1 = 23 then .inl (cs 3, d.2.1, .inl (fun j => Int32.ofInt (σ o j)))
  else if d.1 = 24 then .inl (cs 4, d.2.1, .inr (.inr (.inr (.inr (fun j => (d.2.2.getD j none).map ad)))))
  else .inr (d.1, (List.range d.2.1).map (fun k => ab_fv ad σ o (ab_ty d.1 k) (d.2.2.getD k none) k))
def ab_w (Γ : List ab_O) (cs : Nat → ClassId) (ad : Nat → Nat) (σ : ab_S) : va_W := (List.range Γ.length).map (fun o => (ad o, ab_cel cs ad σ o (Γ.getD o (0, 0, []))))
def ab_tys (cs : Nat → ClassId) : List (ClassId × FieldType) := [(cs 0, .int), (cs 1, .long), (cs 2, .boolean), (cs 3, .byte), (cs 4, .object "TwoBakers$Bakers")]
theorem ab_w_get {Γ : List ab_O} {cs : Nat → ClassId} {ad : Nat → Nat} {σ : ab_S} {o : Nat} {d : ab_O} (h : Γ[o]? = some d) : (ab_w Γ cs ad σ)[o]? = some (ad o, ab_cel cs ad σ o d) := by
  have hl : o < Γ.length := (List.getElem?_eq_some_iff.mp h).1
  have he : Γ[o] = d := (List.getElem?_eq_some_iff.mp h).2
  simp [ab_w, hl, List.getD, he]
theorem ab_cel_congr {cs : Nat → ClassId} {ad : Nat → Nat} {σ τ : ab_S} {o : Nat} (d : ab_O) (h : σ o = τ o) : ab_cel cs ad σ o d = ab_cel cs ad τ o d := by
  unfold ab_cel ab_fv
  simp only [h]
theorem ab_w_set {Γ : List ab_O} {cs : Nat → ClassId} {ad : Nat → Nat} {σ τ : ab_S} {o : Nat} {d : ab_O} (h : Γ[o]? = some d) (hτ : ∀ q, q ≠ o → τ q = σ q) : ab_w Γ cs ad τ = (ab_w Γ cs ad σ).set o (ad o, ab_cel cs ad τ o d) := by
  have hl : o < Γ.length := (List.getElem?_eq_some_iff.mp h).1
  apply List.ext_getElem?
  intro i
  rw [List.getElem?_set]
  by_cases hi : o = i
  · subst hi
    rw [if_pos rfl, if_pos (by simp [ab_w, hl]), ab_w_get h]
  · rw [if_neg hi]
    by_cases hj : i < Γ.length
    · have hg : Γ[i]? = some Γ[i] := List.getElem?_eq_getElem hj
      rw [ab_w_get hg, ab_w_get hg, ab_cel_congr _ (hτ i (fun q => hi q.symm))]
    · simp [ab_w, hj]
theorem ab_up_o {σ : ab_S} {o : Nat} {k v : Int} : ∀ q, q ≠ o → ab_up σ o k v q = σ q := fun q hq => by
  funext j
  simp [ab_up, hq]
/-- the words that don't travel by themselves -/
def ab_NW : List Cond := ab_TB.filter (fun w => match w with
  | .declares _ => true
  | .methodLinkNest .. => true
  | _ => false)
theorem ab_NW_on {w : Cond} (h : w ∈ ab_NW) : w.onTables = true := by
  have h2 := (List.mem_filter.mp h).2
  cases w <;> first | rfl | (simp at h2)
theorem ab_NW_warm {w : Cond} {s U : State} (h : w ∈ ab_NW) (hW : s.WarmedH U.vm) (hz : va_Nw w s) : va_Nw w U := by
  have h2 := (List.mem_filter.mp h).2
  cases w <;> first | exact va_Nw.warmD hW hz | exact va_Nw.warmM hW hz | (simp at h2)
def ab_sx : List Nat := [93, 95, 97, 99, 101, 103, 105, 107, 109, 111, 113, 115, 58, 117]
def ab_tx : List String := ["corner", "people", "like", "street", "step", "home", "ask", "white", "brown", "rye", "apart", "shut", "open", "price"]
def ab_sl : List Nat := [6, 6, 4, 6, 4, 4, 3, 5, 5, 3, 5, 4, 4, 5]
def ab_sb : List (List Int32) := [[99, 111, 114, 110, 101, 114], [112, 101, 111, 112, 108, 101], [108, 105, 107, 101], [115, 116, 114, 101, 101, 116], [115, 116, 101, 112], [104, 111, 109, 101], [97, 115, 107], [119, 104, 105, 116, 101], [98, 114, 111, 119, 110], [114, 121, 101], [97, 112, 97, 114, 116], [115, 104, 117, 116], [111, 112, 101, 110], [112, 114, 105, 99, 101]]
/-- the constant texts: their places in the pool of class 6, lengths, bytes -/
def ab_St (kd : Nat → Nat) (A : Nat → Prop) (U : State) (H : Heap) : Prop := (∀ i : Nat, i < 14 → vk_R RX6 (ab_sx.getD i 0) (ab_tx.getD i "") (kd (2 * i)) U) ∧ vk_S 14 ab_sl ab_sb (fun i => kd (2 * i)) (fun i => kd (2 * i + 1)) A U H ∧ va_Z "java/lang/String" "COMPACT_STRINGS" "Z" (.int 1) A U H ∧ va_Z "jdk/internal/util/Preconditions" "SIOOBE_FORMATTER" "Ljava/util/function/BiFunction;" (ab_kn (kd 28)) A U H
def ab_E (kd : Nat → Nat) (A : Nat → Prop) (U : State) (H : Heap) : Prop := (∀ w ∈ ab_NW, va_Nw w U) ∧ ab_St kd A U H
theorem ab_E.warm {kd : Nat → Nat} {A : Nat → Prop} {s U : State} {H : Heap} (hW : s.WarmedH U.vm) (h : ab_E kd A s H) : ab_E kd A U H :=
  ⟨fun w hw => ab_NW_warm hw hW (h.1 w hw), fun i hi => vk_R.warm hW (h.2.1 i hi), h.2.2.1.moved hW.alike, h.2.2.2.1.moved hW.alike, h.2.2.2.2.moved hW.alike⟩
theorem ab_E.same {kd : Nat → Nat} {A : Nat → Prop} {s U : State} {H : Heap} (hv : s.vm = U.vm) (h : ab_E kd A s H) : ab_E kd A U H :=
  ⟨fun w hw => va_Nw.same (ab_NW_on hw) hv (h.1 w hw), fun i hi => vk_R.same hv.symm (h.2.1 i hi), h.2.2.1.moved (by rw [hv]; exact Vm.Alike.refl _), h.2.2.2.1.moved (by rw [hv]; exact Vm.Alike.refl _), h.2.2.2.2.moved (by rw [hv]; exact Vm.Alike.refl _)⟩
theorem ab_E.kept {kd : Nat → Nat} {A : Nat → Prop} {s : State} {H H1 : Heap} (h : ab_E kd A s H) (hq : ∀ a : Nat, a < H.size → ¬ A a → H1[a]? = H[a]?) : ab_E kd A s H1 :=
  ⟨h.1, h.2.1, h.2.2.1.kept hq, h.2.2.2.1.kept hq, h.2.2.2.2.kept hq⟩
theorem ab_E.narrow {kd : Nat → Nat} {A B : Nat → Prop} {s : State} {H : Heap} (h : ab_E kd A s H) (hAB : ∀ q, B q → A q) : ab_E kd B s H :=
  ⟨h.1, h.2.1, h.2.2.1.narrow hAB, h.2.2.2.1.narrow hAB, h.2.2.2.2.narrow hAB⟩
-- LOCALS
def ab_as (ad kd : Nat → Nat) (L : ab_L) : List (Nat × Value) := (List.range L.length).filterMap (fun i => (L.getD i none).map (fun v => (i, ab_d ad kd v)))
theorem ab_as_mem {ad kd : Nat → Nat} {L : ab_L} {q : Nat × Value} : q ∈ ab_as ad kd L ↔ ∃ v, L[q.1]? = some (some v) ∧ q.2 = ab_d ad kd v := by
  obtain ⟨i, w⟩ := q
  simp only [ab_as, List.mem_filterMap, List.mem_range]
  constructor
  · rintro ⟨j, hj, h⟩
    rw [List.getD_eq_getElem?_getD, List.getElem?_eq_getElem hj, Option.getD_some] at h
    obtain ⟨v, hv, e⟩ := Option.map_eq_some_iff.mp h
    cases e
    exact ⟨v, by rw [List.getElem?_eq_getElem hj, hv], rfl⟩
  · rintro ⟨v, hv, e⟩
    have hl := (List.getElem?_eq_some_iff.mp hv).1
    refine ⟨i, hl, ?_⟩
    rw [List.getD_eq_getElem?_getD, hv]
    simp only [Option.getD_some, Option.map_some]
    rw [show w = ab_d ad kd v from e]
def ab_lv (ad kd : Nat → Nat) (ls : Array Slot) (nL : Nat) (L : ab_L) : Prop := lv_has ls nL (ab_as ad kd L)
theorem ab_lv_at {ad kd : Nat → Nat} {ls : Array Slot} {nL : Nat} {L : ab_L} (h : ab_lv ad kd ls nL L) {i : Nat} {v : ab_V} (hi : L[i]? = some (some v)) : ls[i]? = some (.val (ab_d ad kd v)) := h.2.2 (i, ab_d ad kd v) (ab_as_mem.mpr ⟨v, hi, rfl⟩)
theorem ab_lv_le {ad kd : Nat → Nat} {ls : Array Slot} {nL : Nat} {L : ab_L} {l : List (Nat × Value)} (h : lv_has ls nL l) (hs : ∀ q ∈ ab_as ad kd L, q ∈ l) : ab_lv ad kd ls nL L := ⟨h.1, h.2.1, fun q hq => h.2.2 q (hs q hq)⟩
/-- what stands in front of place i and reaches into it is lost -/
def ab_clr (L : ab_L) (i : Nat) : ab_L := match i with
  | 0 => L
  | j + 1 => match L[j]? with
    | some (some (.inr (.inl _))) => L.set j none
    | _ => L
def ab_st1 (L : ab_L) (i : Nat) (v : ab_V) : ab_L := (ab_clr L i).set i (some v)
def ab_st2 (L : ab_L) (i : Nat) (v : ab_V) : ab_L := ((ab_clr L i).set (i + 1) none).set i (some v)
theorem ab_clr_get {L : ab_L} {i j : Nat} {v : ab_V} (h : (ab_clr L i)[j]? = some (some v)) : L[j]? = some (some v) ∧ ¬ (j + 1 = i ∧ ab_cat v = 2) := by
  cases i with
  | zero => exact ⟨h, by omega⟩
  | succ i =>
    simp only [ab_clr] at h
    split at h
    · rename_i x hx
      by_cases hj : i = j
      · subst hj
        rw [List.getElem?_set] at h
        simp at h
      · rw [List.getElem?_set_ne hj] at h
        exact ⟨h, by omega⟩
    · rename_i hn
      refine ⟨h, ?_⟩
      rintro ⟨e, hc⟩
      have e2 : j = i := by omega
      subst e2
      rcases v with x | x | x | x
      · simp [ab_cat] at hc
      · exact hn _ h
      · simp [ab_cat] at hc
      · simp [ab_cat] at hc
theorem ab_st1_lv {ad kd : Nat → Nat} {ls : Array Slot} {nL : Nat} {L : ab_L} {i : Nat} {v : ab_V} (h : lv_has ls nL ((i, ab_d ad kd v) :: (ab_as ad kd L).filter (fun q => !(q.1 == i) && !(q.1 + 1 == i && q.2.category == 2)))) : ab_lv ad kd ls nL (ab_st1 L i v) := by
  refine ab_lv_le h (fun q hq => ?_)
  obtain ⟨w, hw, e⟩ := ab_as_mem.mp hq
  obtain ⟨j, x⟩ := q
  dsimp only at hw e
  subst e
  unfold ab_st1 at hw
  rw [List.getElem?_set] at hw
  by_cases hj : i = j
  · rw [if_pos hj] at hw
    split at hw
    · cases hw
      rw [hj]
      exact List.mem_cons_self
    · cases hw
  · rw [if_neg hj] at hw
    obtain ⟨h1, h2⟩ := ab_clr_get hw
    refine List.mem_cons_of_mem _ (List.mem_filter.mpr ⟨ab_as_mem.mpr ⟨w, h1, rfl⟩, ?_⟩)
    simp only [ab_cat_d, Bool.and_eq_true, Bool.not_eq_true', beq_eq_false_iff_ne, ne_eq, Bool.and_eq_false_iff]
    refine ⟨fun q => hj q.symm, ?_⟩
    by_cases h3 : j + 1 = i
    · exact Or.inr (fun h4 => h2 ⟨h3, h4⟩)
    · exact Or.inl h3
theorem ab_st2_lv {ad kd : Nat → Nat} {ls : Array Slot} {nL : Nat} {L : ab_L} {i : Nat} {v : ab_V} (h : lv_has ls nL ((i, ab_d ad kd v) :: (ab_as ad kd L).filter (fun q => !(q.1 == i) && (!(q.1 == i + 1) && !(q.1 + 1 == i && q.2.category == 2))))) : ab_lv ad kd ls nL (ab_st2 L i v) := by
  refine ab_lv_le h (fun q hq => ?_)
  obtain ⟨w, hw, e⟩ := ab_as_mem.mp hq
  obtain ⟨j, x⟩ := q
  dsimp only at hw e
  subst e
  unfold ab_st2 at hw
  rw [List.getElem?_set] at hw
  by_cases hj : i = j
  · rw [if_pos hj] at hw
    split at hw
    · cases hw
      rw [hj]
      exact List.mem_cons_self
    · cases hw
  · rw [if_neg hj, List.getElem?_set] at hw
    by_cases hk : i + 1 = j
    · rw [if_pos hk] at hw
      split at hw <;> cases hw
    · rw [if_neg hk] at hw
      obtain ⟨h1, h2⟩ := ab_clr_get hw
      refine List.mem_cons_of_mem _ (List.mem_filter.mpr ⟨ab_as_mem.mpr ⟨w, h1, rfl⟩, ?_⟩)
      simp only [ab_cat_d, Bool.and_eq_true, Bool.not_eq_true', beq_eq_false_iff_ne, ne_eq, Bool.and_eq_false_iff]
      refine ⟨fun q => hj q.symm, fun q => hk q.symm, ?_⟩
      by_cases h3 : j + 1 = i
      · exact Or.inr (fun h4 => h2 ⟨h3, h4⟩)
      · exact Or.inl h3
/-- the locals at a method's entry -/
def ab_en : List ab_V → ab_L
  | [] => []
  | v :: t => if ab_cat v = 2 then some v :: none :: ab_en t else some v :: ab_en t
def ab_ent (n : Nat) (vs : List ab_V) : ab_L := ab_en vs ++ List.replicate (n - (ab_en vs).length) none
theorem ab_en_args {ad kd : Nat → Nat} : ∀ (vs : List ab_V) (i j : Nat) (v : ab_V), (ab_en vs)[j]? = some (some v) → (i + j, ab_d ad kd v) ∈ lv_args i (vs.map (ab_d ad kd))
  | [], i, j, v, h => by simp [ab_en] at h
  | w :: t, i, j, v, h => by
    by_cases hc : ab_cat w = 2
    · rw [ab_en, if_pos hc] at h
      simp only [List.map_cons, lv_args, ab_cat_d, hc, if_true]
      match j, h with
      | 0, h => simp at h; subst h; exact List.mem_cons_self
      | 1, h => simp at h
      | j + 2, h =>
        refine List.mem_cons_of_mem _ ?_
        have := ab_en_args (ad := ad) (kd := kd) t (i + 2) j v (by simpa using h)
        rwa [show i + 2 + j = i + (j + 2) by omega] at this
    · rw [ab_en, if_neg hc] at h
      simp only [List.map_cons, lv_args, ab_cat_d, hc, if_false]
      match j, h with
      | 0, h => simp at h; subst h; exact List.mem_cons_self
      | j + 1, h =>
        refine List.mem_cons_of_mem _ ?_
        have := ab_en_args (ad := ad) (kd := kd) t (i + 1) j v (by simpa using h)
        rwa [show i + 1 + j = i + (j + 1) by omega] at this
theorem ab_ent_lv {ad kd : Nat → Nat} {ls : Array Slot} {n : Nat} {vs : List ab_V} (h : lv_has ls n (lv_args 0 (vs.map (ab_d ad kd)))) : ab_lv ad kd ls n (ab_ent n vs) := by
  refine ab_lv_le h (fun q hq => ?_)
  obtain ⟨w, hw, e⟩ := ab_as_mem.mp hq
  obtain ⟨j, x⟩ := q
  dsimp only at hw e
  subst e
  unfold ab_ent at hw
  by_cases hj : j < (ab_en vs).length
  · rw [List.getElem?_append_left hj] at hw
    have := ab_en_args (ad := ad) (kd := kd) vs 0 j w hw
    simpa using this
  · rw [List.getElem?_append_right (by omega)] at hw
    simp [List.getElem?_replicate] at hw
