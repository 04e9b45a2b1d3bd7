-- ALL CALLS: one post
theorem zarrV {cI : ClassId} {N : Nat} {f g : Nat → Value} (h : ∀ j, j < N → f j = g j) : arrV cI N f = arrV cI N g := by
  unfold arrV
  congr 1
  congr 1
  funext j
  exact h j.val j.isLt
theorem ab_B_nrm {u u' : ab_S} (h : zNrm u u') {D : va_G} {cs : Nat → ClassId} {ad : Nat → Nat} {t : State} (hB : ab_B ab_G1 D cs ad u t) : ab_B ab_G1 D cs ad u' t := by
  refine ⟨fun k q hq => ?_, hB.2⟩
  obtain ⟨n1, n2, n3, n4⟩ := h
  have hk : k < ab_G1.length := by
    have := (List.getElem?_eq_some_iff.mp hq).1
    simpa [ab_w] using this
  have hg : ab_G1[k]? = some ab_G1[k] := List.getElem?_eq_getElem hk
  have e := ab_w_get (cs := cs) (ad := ad) (σ := u') hg
  rw [hq] at e
  have eq : q = (ad k, ab_cel cs ad u' k ab_G1[k]) := Option.some.inj e
  have o := hB.1 k _ (ab_w_get (cs := cs) (ad := ad) (σ := u) hg)
  by_cases c8 : k = 28
  · subst c8
    have ec : ab_cel cs ad u' 28 ab_G1[28] = ab_cel cs ad u 28 ab_G1[28] := by
      have e6 : u' 28 6 = u 28 6 := n2 6 (by decide) (by decide)
      have e7 : u' 28 7 = u 28 7 := n2 7 (by decide) (by decide)
      have e8 : u' 28 8 = u 28 8 := n2 8 (by decide) (by decide)
      show ab_cel cs ad u' 28 (7, 9, [some 3, some 29, some 30, some 31, some 32, some 33, none, none, none]) = ab_cel cs ad u 28 (7, 9, [some 3, some 29, some 30, some 31, some 32, some 33, none, none, none])
      simp [ab_cel, ab_fv, List.range, List.range.loop, e6, e7, e8]
    rw [eq, ec]
    exact o
  · by_cases c9 : k = 29
    · subst c9
      rw [eq]
      have o' : t.heap[ad 29]? = some (arrV (cs 0) 144 (fun j => .int (Int32.ofInt (u 29 j)))) := o
      show t.heap[ad 29]? = some (arrV (cs 0) 144 (fun j => .int (Int32.ofInt (u' 29 j))))
      rw [o', zarrV (g := fun j => .int (Int32.ofInt (u' 29 j))) (fun j hj => by rw [n3 j (by omega) (by omega)])]
    · by_cases c0 : k = 30
      · subst c0
        rw [eq]
        have o' : t.heap[ad 30]? = some (arrV (cs 2) 16 (fun j => .int (Int32.ofInt (u 30 j)))) := o
        show t.heap[ad 30]? = some (arrV (cs 2) 16 (fun j => .int (Int32.ofInt (u' 30 j))))
        rw [o', zarrV (g := fun j => .int (Int32.ofInt (u' 30 j))) (fun j hj => by rw [n4 j (by omega) (by omega)])]
      · rw [eq, ab_cel_congr _ (n1 k (by omega))]
        exact o
theorem ab_Runs_to {Γ : List ab_O} {M : ab_M} {vs : List ab_V} {σ : ab_S} {K K' : ab_V → ab_S → Prop} (h : ab_Runs Γ M vs σ K) (hk : ∀ v u, K v u → ∃ u', (∀ D cs ad t, ab_B Γ D cs ad u t → ab_B Γ D cs ad u' t) ∧ K' v u') : ab_Runs Γ M vs σ K' := by
  refine ⟨h.1, fun l D cs ad kd sz => ?_⟩
  refine MetFree.mono (h.2 l D cs ad kd sz) (fun _ _ p => p) (fun _ _ _ _ _ p => p) (fun a s o t _ q => ⟨?_, q.2⟩)
  have q1 := q.1
  have fv : va_Qv (fun u => K (.inl 0) u) (ab_B Γ D cs ad) (va_A (ab_w Γ cs ad σ) sz) a s o t → va_Qv (fun u => K' (.inl 0) u) (ab_B Γ D cs ad) (va_A (ab_w Γ cs ad σ) sz) a s o t := by
    rintro ⟨⟨u, a1, a2, a3⟩, a4⟩
    obtain ⟨u', b1, b2⟩ := hk _ _ a2
    exact ⟨⟨u', a1, b2, b1 _ _ _ _ a3⟩, a4⟩
  have fl : va_Ql (fun r u => ∃ x, r = Int64.ofInt x ∧ K (.inr (.inl x)) u) (ab_B Γ D cs ad) (va_A (ab_w Γ cs ad σ) sz) a s o t → va_Ql (fun r u => ∃ x, r = Int64.ofInt x ∧ K' (.inr (.inl x)) u) (ab_B Γ D cs ad) (va_A (ab_w Γ cs ad σ) sz) a s o t := by
    rintro ⟨⟨r, u, a1, ⟨x, x1, x2⟩, a3⟩, a4⟩
    obtain ⟨u', b1, b2⟩ := hk _ _ x2
    exact ⟨⟨r, u', a1, ⟨x, x1, b2⟩, b1 _ _ _ _ a3⟩, a4⟩
  have fi : va_Qi (fun r u => ∃ x, r = Int32.ofInt x ∧ K (.inl x) u) (ab_B Γ D cs ad) (va_A (ab_w Γ cs ad σ) sz) a s o t → va_Qi (fun r u => ∃ x, r = Int32.ofInt x ∧ K' (.inl x) u) (ab_B Γ D cs ad) (va_A (ab_w Γ cs ad σ) sz) a s o t := by
    rintro ⟨⟨r, u, a1, ⟨x, x1, x2⟩, a3⟩, a4⟩
    obtain ⟨u', b1, b2⟩ := hk _ _ x2
    exact ⟨⟨r, u', a1, ⟨x, x1, b2⟩, b1 _ _ _ _ a3⟩, a4⟩
  unfold ab_Q at q1 ⊢
  revert q1
  generalize ab_rt M = rt
  intro q1
  cases rt with
  | none => exact fv q1
  | some ty => cases ty <;> first | exact fl q1 | exact fi q1
theorem zQw_w {ω ω' : ab_S} (h76 : ω' 76 8 = ω 76 8) (h78 : ω' 78 = ω 78) (hq : zQw ω) : zQw ω' := by
  unfold zQw
  rw [h76, h78]
  exact hq
/-- behind a call of the class, and the same of the model -/
def zJq (ω τ : ab_S) (N : ab_M) (args : List ab_V) (v : ab_V) (ω' : ab_S) : Prop := (zQ ω' ∧ ω' 0 15 ≤ ω 0 15 + 1) ∧ ab_Runs ab_G2 N args τ (yJn ω' v)
theorem zJq_to {ω τ : ab_S} {M N : ab_M} {as args : List ab_V} {K : ab_V → ab_S → Prop} (h : ab_Runs ab_G1 M as ω K) (hk : ∀ v u, K v u → zJq ω τ N args v u) : ab_Runs ab_G1 M as ω (zJq ω τ N args) := ab_Runs_to h (fun v u k => ⟨u, fun _ _ _ _ b => b, hk v u k⟩)
theorem zJq_w {ω τ : ab_S} {N : ab_M} {args : List ab_V} {v : ab_V} {u : ab_S} (hQ : zQ ω) (h : zJw ω τ N args v u) : zJq ω τ N args v u := by
  obtain ⟨q1, q2, q3, q4, q5⟩ := hQ
  obtain ⟨hs, hr⟩ := h
  refine ⟨⟨⟨zQc_w hs q1, zQg_w hs q2, zQp_w hs q3, zQb_w hs q4, zQw_w (by rw [hs.1 76 (by decide) (by decide) (by decide)]) (hs.1 78 (by decide) (by decide) (by decide)) q5⟩, ?_⟩, hr⟩
  rcases hs.2.2.1 with ⟨e, -⟩ | e <;> omega
theorem zJq_n {ω τ : ab_S} {N : ab_M} {args : List ab_V} {v : ab_V} {u : ab_S} (hQ : zQ ω) (h : zJn ω τ N args v u) : zJq ω τ N args v u := zJq_w hQ (zJw_n h)
theorem zJq_h {ω τ : ab_S} {N : ab_M} {args : List ab_V} {v : ab_V} {u : ab_S} (hQ : zQ ω) (h : zJh ω τ N args v u) : zJq ω τ N args v u := by
  obtain ⟨q1, q2, q3, q4, q5⟩ := hQ
  obtain ⟨⟨hf, hq⟩, hr⟩ := h
  refine ⟨⟨⟨hq, zQg_c hf q2, zQp_k (fun o ho => hf o (by omega)) q3, zQb_k (fun o ho => hf o (by omega)) (fun k _ => by rw [hf 88 (by omega)]) (hf 95 (by omega)) q4, zQw_w (by rw [hf 76 (by omega)]) (hf 78 (by omega)) q5⟩, ?_⟩, hr⟩
  rw [hf 0 (by omega)]
  omega
theorem zJq_g {ω τ : ab_S} {N : ab_M} {args : List ab_V} {v : ab_V} {u : ab_S} (hQ : zQ ω) (h : zJg ω τ N args v u) : zJq ω τ N args v u := by
  obtain ⟨q1, q2, q3, q4, q5⟩ := hQ
  obtain ⟨⟨hf, hq⟩, hr⟩ := h
  refine ⟨⟨⟨zQc_h hf q1, hq, zQp_k (fun o ho => hf.1 o (by omega)) q3, zQb_k (fun o ho => hf.1 o (by omega)) hf.2 (hf.1 95 (by omega)) q4, zQw_w (by rw [hf.1 76 (by omega)]) (hf.1 78 (by omega)) q5⟩, ?_⟩, hr⟩
  rw [hf.1 0 (by omega)]
  omega
theorem zJq_d {ω τ : ab_S} {N : ab_M} {args : List ab_V} {v : ab_V} {u : ab_S} (hQ : zQ ω) (h : zJd ω τ N args v u) : zJq ω τ N args v u := by
  obtain ⟨q1, q2, q3, q4, q5⟩ := hQ
  obtain ⟨hf, hr⟩ := h
  refine ⟨⟨⟨zQc_k (fun o ho => hf o (by omega)) q1, zQg_k (fun o ho => hf o (by omega)) q2, zQp_k (fun o ho => hf o (by omega)) q3, zQb_k (fun o ho => hf o (by omega)) (fun k _ => by rw [hf 88 (by omega)]) (hf 95 (by omega)) q4, zQw_w (by rw [hf 76 (by omega)]) (hf 78 (by omega)) q5⟩, ?_⟩, hr⟩
  rw [hf 0 (by omega)]
  omega
theorem zJq_p {ω τ : ab_S} {N : ab_M} {args : List ab_V} {v : ab_V} {u : ab_S} (hQ : zQ ω) (h : zJp ω τ N args v u) : zJq ω τ N args v u := by
  obtain ⟨q1, q2, q3, q4, q5⟩ := hQ
  obtain ⟨⟨hf, hq⟩, hr⟩ := h
  refine ⟨⟨⟨zQc_k (fun o ho => hf o (by omega)) q1, zQg_k (fun o ho => hf o (by omega)) q2, hq, zQb_k (fun o ho => hf o (by omega)) (fun k _ => by rw [hf 88 (by omega)]) (hf 95 (by omega)) q4, zQw_w (by rw [hf 76 (by omega)]) (hf 78 (by omega)) q5⟩, ?_⟩, hr⟩
  rw [hf 0 (by omega)]
  omega
theorem zJq_y {ω τ : ab_S} {N : ab_M} {args : List ab_V} {v : ab_V} {u : ab_S} (hQ : zQ ω) (h : zJy ω τ N args v u) : zJq ω τ N args v u := by
  obtain ⟨q1, q2, q3, q4, q5⟩ := hQ
  obtain ⟨⟨hf, hq⟩, hr⟩ := h
  refine ⟨⟨⟨zQc_k (fun o ho => hf o (by omega)) q1, zQg_k (fun o ho => hf o (by omega)) q2, hq, zQb_k (fun o ho => hf o (by omega)) (fun k _ => by rw [hf 88 (by omega)]) (hf 95 (by omega)) q4, zQw_w (by rw [hf 76 (by omega)]) (hf 78 (by omega)) q5⟩, ?_⟩, hr⟩
  rw [hf 0 (by omega)]
  omega
theorem zJq_o {ω τ : ab_S} {N : ab_M} {args : List ab_V} {v : ab_V} {u : ab_S} (hQ : zQ ω) (h : zJo ω τ N args v u) : zJq ω τ N args v u := by
  obtain ⟨q1, q2, q3, q4, q5⟩ := hQ
  obtain ⟨hf, hr⟩ := h
  refine ⟨⟨⟨zQc_k (fun o ho => hf.1 o (by omega)) q1, zQg_k (fun o ho => hf.1 o (by omega)) q2, zQp_k (fun o ho => hf.1 o (by omega)) q3, zQb_k (fun o ho => hf.1 o (by omega)) (fun k _ => by rw [hf.1 88 (by omega)]) (hf.1 95 (by omega)) q4, zQw_w hf.2 (hf.1 78 (by omega)) q5⟩, ?_⟩, hr⟩
  rw [hf.1 0 (by omega)]
  omega
/-- what holds between two calls -/
def zRl (ω τ : ab_S) : Prop := yB ω τ ∧ zQ ω ∧ ω 0 15 ≤ 1000000
abbrev zi32 (x : Int) : Prop := -2147483648 ≤ x ∧ x ≤ 2147483647
theorem q_feed {ω τ : ab_S} {a b c d e : Int} (h : zRl ω τ) (ha : zi32 a) (hb : zi32 b) (hc : zi32 c) (hd : zi32 d) (he : zi32 e) : ab_Runs ab_G1 mdX11_feed [vR 0, vI a, vI b, vI c, vI d, vI e] ω (zJq ω τ mdX12_feed [vR 0, vI a, vI b, vI c, vI d, vI e]) := zJq_to (j_feed h.1 ha hb hc hd he) (fun _ _ k => zJq_n h.2.1 k)
theorem q_town {ω τ : ab_S} {n : Int} (h : zRl ω τ) (hn : zi32 n) : ab_Runs ab_G1 mdX11_town [vR 0, vI n] ω (zJq ω τ mdX12_town [vR 0, vI n]) := zJq_to (j_town h.1 hn) (fun _ _ k => zJq_n h.2.1 k)
theorem q_law {ω τ : ab_S} {n : Int} (h : zRl ω τ) (hn : zi32 n) : ab_Runs ab_G1 mdX11_law [vR 0, vI n] ω (zJq ω τ mdX12_law [vR 0, vI n]) := zJq_to (j_law h.1 hn) (fun _ _ k => zJq_n h.2.1 k)
theorem q_fault {ω τ : ab_S} (h : zRl ω τ) : ab_Runs ab_G1 mdX11_fault [vR 0] ω (zJq ω τ mdX12_fault [vR 0]) := zJq_to (j_fault h.1) (fun _ _ k => zJq_n h.2.1 k)
theorem q_told {ω τ : ab_S} {w : Int} (h : zRl ω τ) (hw : zi32 w) : ab_Runs ab_G1 mdX11_told [vR 0, vI w] ω (zJq ω τ mdX12_told [vR 0, vI w]) := zJq_to (j_told h.1 hw) (fun _ _ k => zJq_n h.2.1 k)
theorem q_name {ω τ : ab_S} {k i : Int} (h : zRl ω τ) (hk : zi32 k) (hi : zi32 i) : ab_Runs ab_G1 mdX11_name [vR 0, vI k, vI i] ω (zJq ω τ mdX12_name [vR 0, vI k, vI i]) := zJq_to (j_name h.1 hk hi) (fun _ _ k => zJq_n h.2.1 k)
theorem q_far {ω τ : ab_S} {p q : Int} (h : zRl ω τ) (hp : zi32 p) (hq : zi32 q) : ab_Runs ab_G1 mdX11_far [vR 0, vI p, vI q] ω (zJq ω τ mdX12_far [vR 0, vI p, vI q]) := zJq_to (j_far h.1 hp hq) (fun _ _ k => zJq_n h.2.1 k)
theorem q_force {ω τ : ab_S} {c : Int} (h : zRl ω τ) (hc : zi32 c) : ab_Runs ab_G1 mdX11_force [vR 0, vI c] ω (zJq ω τ mdX12_force [vR 0, vI c]) := zJq_to (j_force h.1 hc) (fun _ _ k => zJq_n h.2.1 k)
theorem q_seller {ω τ : ab_S} {p q b c k : Int} (h : zRl ω τ) (hp : zi32 p) (hq : zi32 q) (hb : zi32 b) (hc : zi32 c) (hk : zi32 k) : ab_Runs ab_G1 mdX11_seller [vR 0, vI p, vI q, vI b, vI c, vI k] ω (zJq ω τ mdX12_seller [vR 0, vI p, vI q, vI b, vI c, vI k]) := zJq_to (j_seller h.1 hp hq hb hc hk) (fun _ _ k => zJq_n h.2.1 k)
theorem q_put {ω τ : ab_S} {s p q : Int} (h : zRl ω τ) (hs : zi32 s) (hp : zi32 p) (hq : zi32 q) : ab_Runs ab_G1 mdX11_put [vR 0, vI s, vI p, vI q] ω (zJq ω τ mdX12_put [vR 0, vI s, vI p, vI q]) := zJq_to (j_put h.1 hs hp hq) (fun _ _ k => zJq_n h.2.1 k)
theorem q_of {ω τ : ab_S} {s w : Int} (h : zRl ω τ) (hs : zi32 s) (hw : zi32 w) : ab_Runs ab_G1 mdX11_of [vR 0, vI s, vI w] ω (zJq ω τ mdX12_of [vR 0, vI s, vI w]) := zJq_to (j_of h.1 hs hw) (fun _ _ k => zJq_n h.2.1 k)
theorem q_sold {ω τ : ab_S} {s : Int} (h : zRl ω τ) (hs : zi32 s) : ab_Runs ab_G1 mdX11_sold [vR 0, vI s] ω (zJq ω τ mdX12_sold [vR 0, vI s]) := zJq_to (j_sold h.1 hs) (fun _ _ k => zJq_w h.2.1 k)
theorem q_earns {ω τ : ab_S} {c : Int} (h : zRl ω τ) (hc : zi32 c) : ab_Runs ab_G1 mdX11_earns [vR 0, vI c] ω (zJq ω τ mdX12_earns [vR 0, vI c]) := zJq_to (j_earns h.1 hc) (fun _ _ k => zJq_w h.2.1 k)
theorem q_home {ω τ : ab_S} (h : zRl ω τ) : ab_Runs ab_G1 mdX11_home [vR 0] ω (zJq ω τ mdX12_home [vR 0]) := zJq_to (j_home h.1) (fun _ _ k => zJq_w h.2.1 k)
theorem q_buys {ω τ : ab_S} {k : Int} (h : zRl ω τ) (hk : zi32 k) : ab_Runs ab_G1 mdX11_buys [vR 0, vI k] ω (zJq ω τ mdX12_buys [vR 0, vI k]) := zJq_to (j_buys h.1 hk) (fun _ _ k => zJq_w h.2.1 k)
theorem q_best {ω τ : ab_S} {s w : Int} (h : zRl ω τ) (hs : zi32 s) (hw : zi32 w) : ab_Runs ab_G1 mdX11_best [vR 0, vI s, vI w] ω (zJq ω τ mdX12_best [vR 0, vI s, vI w]) := zJq_to (j_best h.1 hs hw) (fun _ _ k => zJq_w h.2.1 k)
theorem q_rest {ω τ : ab_S} (h : zRl ω τ) : ab_Runs ab_G1 mdX11_rest [vR 0] ω (zJq ω τ mdX12_rest [vR 0]) := zJq_to (j_rest h.1) (fun _ _ k => zJq_w h.2.1 k)
theorem q_turn {ω τ : ab_S} {s : Int} (h : zRl ω τ) (hs : zi32 s) : ab_Runs ab_G1 mdX11_turn [vR 0, vI s] ω (zJq ω τ mdX12_turn [vR 0, vI s]) := zJq_to (j_turn h.1 hs) (fun _ _ k => zJq_w h.2.1 k)
theorem q_chase {ω τ : ab_S} {n w : Int} (h : zRl ω τ) (hn : zi32 n) (hw : zi32 w) : ab_Runs ab_G1 mdX11_chase [vR 0, vI n, vI w] ω (zJq ω τ mdX12_chase [vR 0, vI n, vI w]) := zJq_to (j_chase h.1 h.2.1.1 h.2.2 hn hw) (fun _ _ k => zJq_h h.2.1 k)
theorem q_rests {ω τ : ab_S} {x y z k : Int} (h : zRl ω τ) (hx : zi32 x) (hy : zi32 y) (hz : zi32 z) (hk : zi32 k) : ab_Runs ab_G1 mdX11_rests [vR 0, vI x, vI y, vI z, vI k] ω (zJq ω τ mdX12_rests [vR 0, vI x, vI y, vI z, vI k]) := zJq_to (j_rests h.1 h.2.1.2.1 h.2.2 hx hy hz hk) (fun _ _ k => zJq_g h.2.1 k)
theorem q_lots {ω τ : ab_S} {x y a b w : Int} (h : zRl ω τ) (hx : zi32 x) (hy : zi32 y) (ha : zi32 a) (hb : zi32 b) (hw : zi32 w) : ab_Runs ab_G1 mdX11_lots [vR 0, vI x, vI y, vI a, vI b, vI w] ω (zJq ω τ mdX12_lots [vR 0, vI x, vI y, vI a, vI b, vI w]) := zJq_to (j_lots h.1 hx hy ha hb hw) (fun _ _ k => zJq_d h.2.1 k)
theorem q_lead {ω τ : ab_S} {x y w : Int} (h : zRl ω τ) (hx : zi32 x) (hy : zi32 y) (hw : zi32 w) : ab_Runs ab_G1 mdX11_lead [vR 0, vI x, vI y, vI w] ω (zJq ω τ mdX12_lead [vR 0, vI x, vI y, vI w]) := zJq_to (j_lead h.1 h.2.1.2.1 h.2.2 hx hy hw) (fun _ _ k => zJq_g h.2.1 k)
theorem q_prices {ω τ : ab_S} {x y k : Int} (h : zRl ω τ) (hx : zi32 x) (hy : zi32 y) (hk : zi32 k) : ab_Runs ab_G1 mdX11_prices [vR 0, vI x, vI y, vI k] ω (zJq ω τ mdX12_prices [vR 0, vI x, vI y, vI k]) := zJq_to (j_prices h.1 h.2.1.2.2.1 h.2.2 hx hy hk) (fun _ _ k => zJq_p h.2.1 k)
theorem q_stage {ω τ : ab_S} {x y a b w : Int} (h : zRl ω τ) (hx : zi32 x) (hy : zi32 y) (ha : zi32 a) (hb : zi32 b) (hw : zi32 w) : ab_Runs ab_G1 mdX11_stage [vR 0, vI x, vI y, vI a, vI b, vI w] ω (zJq ω τ mdX12_stage [vR 0, vI x, vI y, vI a, vI b, vI w]) := zJq_to (j_stage h.1 h.2.1.2.2.1 hx hy ha hb hw) (fun _ _ k => zJq_y h.2.1 k)
theorem q_walk {ω τ : ab_S} {a b : Int} (h : zRl ω τ) (ha : zi32 a) (hb : zi32 b) : ab_Runs ab_G1 mdX11_walk [vR 0, vI a, vI b] ω (zJq ω τ mdX12_walk [vR 0, vI a, vI b]) := zJq_to (j_walk h.1 h.2.1.2.2.2.2 ha hb) (fun _ _ k => zJq_o h.2.1 k)
theorem q_own {ω τ : ab_S} {n w : Int} (h : zRl ω τ) (hn : zi32 n) (hw : zi32 w) : ab_Runs ab_G1 mdX11_own [vR 0, vI n, vI w] ω (zJq ω τ mdX12_own [vR 0, vI n, vI w]) := zJq_to (j_own h.1 h.2.1.2.2.2.2 hn hw) (fun _ _ k => zJq_o h.2.1 k)
theorem q_loss {ω τ : ab_S} (h : zRl ω τ) : ab_Runs ab_G1 mdX11_loss [vR 0] ω (zJq ω τ mdX12_loss [vR 0]) := zJq_to (j_loss h.1 h.2.1.2.2.2.2) (fun _ _ k => zJq_o h.2.1 k)
theorem q_bestLaw {ω τ : ab_S} {x y w : Int} (h : zRl ω τ) (hx : zi32 x) (hy : zi32 y) (hw : zi32 w) : ab_Runs ab_G1 mdX11_bestLaw [vR 0, vI x, vI y, vI w] ω (zJq ω τ mdX12_bestLaw [vR 0, vI x, vI y, vI w]) := ab_Runs_to (j_bestLaw h.1 h.2.1 h.2.2 hx hy hw) (fun v u k => by
  obtain ⟨u2, a1, ⟨a2, a3, a4⟩, a5⟩ := k
  exact ⟨u2, fun D cs ad t b => ab_B_nrm a1 b, ⟨a2, by omega⟩, a5⟩)
theorem q_shift {ω τ : ab_S} {a b : Int} (h : zRl ω τ) (ha : zi32 a) (hb : zi32 b) : ab_Runs ab_G1 mdX11_shift [vR 0, vI a, vI b] ω (zJq ω τ mdX12_shift [vR 0, vI a, vI b]) := zJq_to (j_shift h.1 ha hb) (fun _ _ k => zJq_w h.2.1 k)
theorem q_image {ω τ : ab_S} (h : zRl ω τ) : ab_Runs ab_G1 mdX11_image [vR 0] ω (zJq ω τ mdX12_image [vR 0]) := zJq_to (j_image h.1) (fun _ _ k => zJq_n h.2.1 k)
theorem q_back {ω τ : ab_S} {x : Int} (h : zRl ω τ) (hx : zi32 x) : ab_Runs ab_G1 mdX11_back [vR 0, vI x] ω (zJq ω τ mdX12_back [vR 0, vI x]) := zJq_to (j_back h.1 hx) (fun _ _ k => zJq_n h.2.1 k)
theorem q_count {ω τ : ab_S} {w : Int} (h : zRl ω τ) (hw : zi32 w) : ab_Runs ab_G1 mdX11_count [vR 0, vI w] ω (zJq ω τ mdX12_count [vR 0, vI w]) := zJq_to (j_count h.1 hw) (fun _ _ k => zJq_n h.2.1 k)
