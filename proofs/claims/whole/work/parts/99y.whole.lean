-- THE LAW, from its entry (printed by wip/gen/mkwhole.py; its head is the skeleton's)
def R_law : String := "TwoBakersLaw"
def lw_P (b : Addr) (xs : List Int32) (args : Array Value) (s : State) : Prop := args = #[.ref b] ∧ s.IntsAt b xs ∧ xs.length ≤ 3072 ∧ (Jvm.Cond.and given_1 narrow_1).before args s = true
def lw_Q (_ : Array Value) (s : State) (o : Outcome) (t : State) : Prop := o = .returned (some (.int 1)) ∧ Framed s o t [] 600000 7302250
def lw_Z (below : List Frame) (a : Array Value) (s : State) : State → Prop := fun t => ∃ o, t.status = .running ∧ Ended t below o ∧ lw_Q a s o t
/-- the law's own end, with 1 on the stack, nothing written that was there before, its room as the claim has it -/
theorem lw_ret {p : Program} {l : Launch} {e : Env} {s : State} {m : MethodId} {below : List Frame} {meth : Method} {c : Code} {b : Nat} (hx : p.tables.exec = Jvm.exec) (hb : c.code = code) (hr : meth.sig.returnType = ret) (hlocks : meth.locks = false) {pc : Nat} {H : Heap} {ls : Array Slot} (hdg : decode code pc = .ok (.ireturn, 1)) : W p l e room_1 s m #[Value.ref b] below meth c H [] 600000 7302250 (lw_Z below #[Value.ref b] s) (F0 m pc ls [.int 1]) := by
  intro T hT X
  obtain ⟨fs, hret, hrun, hended, hW, hframe⟩ := X.leave (v := some (.int 1)) (hlocks := hlocks) (fun h => by rw [hr] at h; cases h)
  have hmeth' : T.vm.method? m = some meth := X.method'
  refine ⟨T.setFrames fs, ?_, .returned (some (.int 1)), hrun, hended, rfl, ⟨_, rfl⟩, hW, hframe⟩
  jvm_step X.here [X.here.top, hx, hb, hdg, hmeth', hr, ret, narrow_b1]
  (try refine ⟨rfl, ?_⟩); (try refine ⟨rfl, ?_⟩)
  first | (intro acts; rw [hret _ acts rfl rfl rfl]) | rw [hret _ _ rfl rfl rfl]
  exact Steps.refl _
/-- what holds at the law's entry: the machine, the code, the tables' words (any of lw_tbl by 'hts w (by decide +kernel)'), the script of L ints xs at the cell b, what the Statement gives of the start (any of its parts by flat_of_before) -/
def lw_At (p : Program) (s : State) (m : MethodId) (meth : Method) (c : Code) (b L : Nat) (xs : Nat → Int32) : Prop :=
  p.tables.exec = Jvm.exec ∧ c.code = code ∧ meth.sig.returnType = ret ∧ c.maxLocals = 4 ∧ s.vm.findClass R_law = some m.cls ∧ (∀ w ∈ lw_tbl, w.before #[Value.ref b] s = true) ∧ va_X b L xs s s.heap ∧ b < s.heap.size ∧ meth.locks = false ∧ (Jvm.Cond.and given_1 narrow_1).before #[Value.ref b] s = true
/-- what holds between two calls, behind n calls -/
def zl_R (ω τ : ab_S) (n : Nat) : Prop := yB ω τ ∧ zQ ω ∧ ω 0 15 ≤ (n : Int)
theorem zl_Rl {ω τ : ab_S} {n : Nat} (hn : n ≤ 3072) (h : zl_R ω τ n) : zRl ω τ := ⟨h.1, h.2.1, by
  have := h.2.2
  omega⟩
theorem zl_from {M N : ab_M} {as : List ab_V} {ω τ : ab_S} {n : Nat} (hR : zl_R ω τ n) (h : ab_Runs ab_G1 M as ω (zJq ω τ N as)) : ab_Runs ab_G1 M as ω (fun v ω' => ab_Runs ab_G2 N as τ (fun v' τ' => v' = v ∧ zl_R ω' τ' (n + 1))) := by
  refine ab_Runs_to h (fun v u k => ⟨u, fun _ _ _ _ b => b, ?_⟩)
  obtain ⟨⟨k1, k2⟩, k3⟩ := k
  refine ab_Runs_to k3 (fun v' u' k' => ⟨u', fun _ _ _ _ b => b, k'.1, k'.2, k1, ?_⟩)
  have := hR.2.2
  omega
theorem zl_cons {as : List Int} {n : Nat} (h : as.length = n + 1) : ∃ a t, as = a :: t ∧ t.length = n := by
  cases as with
  | nil => simp at h
  | cons a t => exact ⟨a, t, rfl, by simpa using h⟩
theorem zl_nil {as : List Int} (h : as.length = 0) : as = [] := List.length_eq_zero_iff.mp h
theorem zl_o0 : zl_ok zl_R mdX11_feed mdX12_feed 5 := by
  intro as hl hr ω τ n hn hR
  obtain ⟨a0, as, rfl, h0⟩ := zl_cons hl
  obtain ⟨a1, as, rfl, h1⟩ := zl_cons h0
  obtain ⟨a2, as, rfl, h2⟩ := zl_cons h1
  obtain ⟨a3, as, rfl, h3⟩ := zl_cons h2
  obtain ⟨a4, as, rfl, h4⟩ := zl_cons h3
  obtain rfl := zl_nil h4
  exact zl_from hR (q_feed (zl_Rl hn hR) (hr a0 (by simp)) (hr a1 (by simp)) (hr a2 (by simp)) (hr a3 (by simp)) (hr a4 (by simp)))
theorem zl_o1 : zl_ok zl_R mdX11_town mdX12_town 1 := by
  intro as hl hr ω τ n hn hR
  obtain ⟨a0, as, rfl, h0⟩ := zl_cons hl
  obtain rfl := zl_nil h0
  exact zl_from hR (q_town (zl_Rl hn hR) (hr a0 (by simp)))
theorem zl_o2 : zl_ok zl_R mdX11_law mdX12_law 1 := by
  intro as hl hr ω τ n hn hR
  obtain ⟨a0, as, rfl, h0⟩ := zl_cons hl
  obtain rfl := zl_nil h0
  exact zl_from hR (q_law (zl_Rl hn hR) (hr a0 (by simp)))
theorem zl_o3 : zl_ok zl_R mdX11_fault mdX12_fault 0 := by
  intro as hl hr ω τ n hn hR
  obtain rfl := zl_nil hl
  exact zl_from hR (q_fault (zl_Rl hn hR))
theorem zl_o4 : zl_ok zl_R mdX11_told mdX12_told 1 := by
  intro as hl hr ω τ n hn hR
  obtain ⟨a0, as, rfl, h0⟩ := zl_cons hl
  obtain rfl := zl_nil h0
  exact zl_from hR (q_told (zl_Rl hn hR) (hr a0 (by simp)))
theorem zl_o5 : zl_ok zl_R mdX11_name mdX12_name 2 := by
  intro as hl hr ω τ n hn hR
  obtain ⟨a0, as, rfl, h0⟩ := zl_cons hl
  obtain ⟨a1, as, rfl, h1⟩ := zl_cons h0
  obtain rfl := zl_nil h1
  exact zl_from hR (q_name (zl_Rl hn hR) (hr a0 (by simp)) (hr a1 (by simp)))
theorem zl_o6 : zl_ok zl_R mdX11_far mdX12_far 2 := by
  intro as hl hr ω τ n hn hR
  obtain ⟨a0, as, rfl, h0⟩ := zl_cons hl
  obtain ⟨a1, as, rfl, h1⟩ := zl_cons h0
  obtain rfl := zl_nil h1
  exact zl_from hR (q_far (zl_Rl hn hR) (hr a0 (by simp)) (hr a1 (by simp)))
theorem zl_o7 : zl_ok zl_R mdX11_force mdX12_force 1 := by
  intro as hl hr ω τ n hn hR
  obtain ⟨a0, as, rfl, h0⟩ := zl_cons hl
  obtain rfl := zl_nil h0
  exact zl_from hR (q_force (zl_Rl hn hR) (hr a0 (by simp)))
theorem zl_o8 : zl_ok zl_R mdX11_seller mdX12_seller 5 := by
  intro as hl hr ω τ n hn hR
  obtain ⟨a0, as, rfl, h0⟩ := zl_cons hl
  obtain ⟨a1, as, rfl, h1⟩ := zl_cons h0
  obtain ⟨a2, as, rfl, h2⟩ := zl_cons h1
  obtain ⟨a3, as, rfl, h3⟩ := zl_cons h2
  obtain ⟨a4, as, rfl, h4⟩ := zl_cons h3
  obtain rfl := zl_nil h4
  exact zl_from hR (q_seller (zl_Rl hn hR) (hr a0 (by simp)) (hr a1 (by simp)) (hr a2 (by simp)) (hr a3 (by simp)) (hr a4 (by simp)))
theorem zl_o9 : zl_ok zl_R mdX11_put mdX12_put 3 := by
  intro as hl hr ω τ n hn hR
  obtain ⟨a0, as, rfl, h0⟩ := zl_cons hl
  obtain ⟨a1, as, rfl, h1⟩ := zl_cons h0
  obtain ⟨a2, as, rfl, h2⟩ := zl_cons h1
  obtain rfl := zl_nil h2
  exact zl_from hR (q_put (zl_Rl hn hR) (hr a0 (by simp)) (hr a1 (by simp)) (hr a2 (by simp)))
theorem zl_o10 : zl_ok zl_R mdX11_of mdX12_of 2 := by
  intro as hl hr ω τ n hn hR
  obtain ⟨a0, as, rfl, h0⟩ := zl_cons hl
  obtain ⟨a1, as, rfl, h1⟩ := zl_cons h0
  obtain rfl := zl_nil h1
  exact zl_from hR (q_of (zl_Rl hn hR) (hr a0 (by simp)) (hr a1 (by simp)))
theorem zl_o11 : zl_ok zl_R mdX11_sold mdX12_sold 1 := by
  intro as hl hr ω τ n hn hR
  obtain ⟨a0, as, rfl, h0⟩ := zl_cons hl
  obtain rfl := zl_nil h0
  exact zl_from hR (q_sold (zl_Rl hn hR) (hr a0 (by simp)))
theorem zl_o12 : zl_ok zl_R mdX11_earns mdX12_earns 1 := by
  intro as hl hr ω τ n hn hR
  obtain ⟨a0, as, rfl, h0⟩ := zl_cons hl
  obtain rfl := zl_nil h0
  exact zl_from hR (q_earns (zl_Rl hn hR) (hr a0 (by simp)))
theorem zl_o13 : zl_ok zl_R mdX11_home mdX12_home 0 := by
  intro as hl hr ω τ n hn hR
  obtain rfl := zl_nil hl
  exact zl_from hR (q_home (zl_Rl hn hR))
theorem zl_o14 : zl_ok zl_R mdX11_buys mdX12_buys 1 := by
  intro as hl hr ω τ n hn hR
  obtain ⟨a0, as, rfl, h0⟩ := zl_cons hl
  obtain rfl := zl_nil h0
  exact zl_from hR (q_buys (zl_Rl hn hR) (hr a0 (by simp)))
theorem zl_o15 : zl_ok zl_R mdX11_best mdX12_best 2 := by
  intro as hl hr ω τ n hn hR
  obtain ⟨a0, as, rfl, h0⟩ := zl_cons hl
  obtain ⟨a1, as, rfl, h1⟩ := zl_cons h0
  obtain rfl := zl_nil h1
  exact zl_from hR (q_best (zl_Rl hn hR) (hr a0 (by simp)) (hr a1 (by simp)))
theorem zl_o16 : zl_ok zl_R mdX11_rest mdX12_rest 0 := by
  intro as hl hr ω τ n hn hR
  obtain rfl := zl_nil hl
  exact zl_from hR (q_rest (zl_Rl hn hR))
theorem zl_o17 : zl_ok zl_R mdX11_turn mdX12_turn 1 := by
  intro as hl hr ω τ n hn hR
  obtain ⟨a0, as, rfl, h0⟩ := zl_cons hl
  obtain rfl := zl_nil h0
  exact zl_from hR (q_turn (zl_Rl hn hR) (hr a0 (by simp)))
theorem zl_o18 : zl_ok zl_R mdX11_chase mdX12_chase 2 := by
  intro as hl hr ω τ n hn hR
  obtain ⟨a0, as, rfl, h0⟩ := zl_cons hl
  obtain ⟨a1, as, rfl, h1⟩ := zl_cons h0
  obtain rfl := zl_nil h1
  exact zl_from hR (q_chase (zl_Rl hn hR) (hr a0 (by simp)) (hr a1 (by simp)))
theorem zl_o19 : zl_ok zl_R mdX11_rests mdX12_rests 4 := by
  intro as hl hr ω τ n hn hR
  obtain ⟨a0, as, rfl, h0⟩ := zl_cons hl
  obtain ⟨a1, as, rfl, h1⟩ := zl_cons h0
  obtain ⟨a2, as, rfl, h2⟩ := zl_cons h1
  obtain ⟨a3, as, rfl, h3⟩ := zl_cons h2
  obtain rfl := zl_nil h3
  exact zl_from hR (q_rests (zl_Rl hn hR) (hr a0 (by simp)) (hr a1 (by simp)) (hr a2 (by simp)) (hr a3 (by simp)))
theorem zl_o20 : zl_ok zl_R mdX11_lots mdX12_lots 5 := by
  intro as hl hr ω τ n hn hR
  obtain ⟨a0, as, rfl, h0⟩ := zl_cons hl
  obtain ⟨a1, as, rfl, h1⟩ := zl_cons h0
  obtain ⟨a2, as, rfl, h2⟩ := zl_cons h1
  obtain ⟨a3, as, rfl, h3⟩ := zl_cons h2
  obtain ⟨a4, as, rfl, h4⟩ := zl_cons h3
  obtain rfl := zl_nil h4
  exact zl_from hR (q_lots (zl_Rl hn hR) (hr a0 (by simp)) (hr a1 (by simp)) (hr a2 (by simp)) (hr a3 (by simp)) (hr a4 (by simp)))
theorem zl_o21 : zl_ok zl_R mdX11_lead mdX12_lead 3 := by
  intro as hl hr ω τ n hn hR
  obtain ⟨a0, as, rfl, h0⟩ := zl_cons hl
  obtain ⟨a1, as, rfl, h1⟩ := zl_cons h0
  obtain ⟨a2, as, rfl, h2⟩ := zl_cons h1
  obtain rfl := zl_nil h2
  exact zl_from hR (q_lead (zl_Rl hn hR) (hr a0 (by simp)) (hr a1 (by simp)) (hr a2 (by simp)))
theorem zl_o22 : zl_ok zl_R mdX11_prices mdX12_prices 3 := by
  intro as hl hr ω τ n hn hR
  obtain ⟨a0, as, rfl, h0⟩ := zl_cons hl
  obtain ⟨a1, as, rfl, h1⟩ := zl_cons h0
  obtain ⟨a2, as, rfl, h2⟩ := zl_cons h1
  obtain rfl := zl_nil h2
  exact zl_from hR (q_prices (zl_Rl hn hR) (hr a0 (by simp)) (hr a1 (by simp)) (hr a2 (by simp)))
theorem zl_o23 : zl_ok zl_R mdX11_stage mdX12_stage 5 := by
  intro as hl hr ω τ n hn hR
  obtain ⟨a0, as, rfl, h0⟩ := zl_cons hl
  obtain ⟨a1, as, rfl, h1⟩ := zl_cons h0
  obtain ⟨a2, as, rfl, h2⟩ := zl_cons h1
  obtain ⟨a3, as, rfl, h3⟩ := zl_cons h2
  obtain ⟨a4, as, rfl, h4⟩ := zl_cons h3
  obtain rfl := zl_nil h4
  exact zl_from hR (q_stage (zl_Rl hn hR) (hr a0 (by simp)) (hr a1 (by simp)) (hr a2 (by simp)) (hr a3 (by simp)) (hr a4 (by simp)))
theorem zl_o24 : zl_ok zl_R mdX11_walk mdX12_walk 2 := by
  intro as hl hr ω τ n hn hR
  obtain ⟨a0, as, rfl, h0⟩ := zl_cons hl
  obtain ⟨a1, as, rfl, h1⟩ := zl_cons h0
  obtain rfl := zl_nil h1
  exact zl_from hR (q_walk (zl_Rl hn hR) (hr a0 (by simp)) (hr a1 (by simp)))
theorem zl_o25 : zl_ok zl_R mdX11_own mdX12_own 2 := by
  intro as hl hr ω τ n hn hR
  obtain ⟨a0, as, rfl, h0⟩ := zl_cons hl
  obtain ⟨a1, as, rfl, h1⟩ := zl_cons h0
  obtain rfl := zl_nil h1
  exact zl_from hR (q_own (zl_Rl hn hR) (hr a0 (by simp)) (hr a1 (by simp)))
theorem zl_o26 : zl_ok zl_R mdX11_loss mdX12_loss 0 := by
  intro as hl hr ω τ n hn hR
  obtain rfl := zl_nil hl
  exact zl_from hR (q_loss (zl_Rl hn hR))
theorem zl_o27 : zl_ok zl_R mdX11_bestLaw mdX12_bestLaw 3 := by
  intro as hl hr ω τ n hn hR
  obtain ⟨a0, as, rfl, h0⟩ := zl_cons hl
  obtain ⟨a1, as, rfl, h1⟩ := zl_cons h0
  obtain ⟨a2, as, rfl, h2⟩ := zl_cons h1
  obtain rfl := zl_nil h2
  exact zl_from hR (q_bestLaw (zl_Rl hn hR) (hr a0 (by simp)) (hr a1 (by simp)) (hr a2 (by simp)))
theorem zl_o28 : zl_ok zl_R mdX11_shift mdX12_shift 2 := by
  intro as hl hr ω τ n hn hR
  obtain ⟨a0, as, rfl, h0⟩ := zl_cons hl
  obtain ⟨a1, as, rfl, h1⟩ := zl_cons h0
  obtain rfl := zl_nil h1
  exact zl_from hR (q_shift (zl_Rl hn hR) (hr a0 (by simp)) (hr a1 (by simp)))
theorem zl_o29 : zl_ok zl_R mdX11_image mdX12_image 0 := by
  intro as hl hr ω τ n hn hR
  obtain rfl := zl_nil hl
  exact zl_from hR (q_image (zl_Rl hn hR))
theorem zl_o30 : zl_ok zl_R mdX11_back mdX12_back 1 := by
  intro as hl hr ω τ n hn hR
  obtain ⟨a0, as, rfl, h0⟩ := zl_cons hl
  obtain rfl := zl_nil h0
  exact zl_from hR (q_back (zl_Rl hn hR) (hr a0 (by simp)))
theorem zl_o31 : zl_ok zl_R mdX11_count mdX12_count 1 := by
  intro as hl hr ω τ n hn hR
  obtain ⟨a0, as, rfl, h0⟩ := zl_cons hl
  obtain rfl := zl_nil h0
  exact zl_from hR (q_count (zl_Rl hn hR) (hr a0 (by simp)))
theorem zl_oks : zl_all zl_R := ⟨zl_o0, zl_o1, zl_o2, zl_o3, zl_o4, zl_o5, zl_o6, zl_o7, zl_o8, zl_o9, zl_o10, zl_o11, zl_o12, zl_o13, zl_o14, zl_o15, zl_o16, zl_o17, zl_o18, zl_o19, zl_o20, zl_o21, zl_o22, zl_o23, zl_o24, zl_o25, zl_o26, zl_o27, zl_o28, zl_o29, zl_o30, zl_o31⟩
set_option maxHeartbeats 4000000 in
set_option maxRecDepth 100000 in
theorem whole_start {p : Program} {e : Env} {s : State} {m : MethodId} {below : List Frame} {meth : Method} {c : Code} (l : Launch) {b L : Nat} {xs : Nat → Int32} (hL : L ≤ 3072) (C0 : lw_At p s m meth c b L xs) : W p l e room_1 s m #[Value.ref b] below meth c s.heap [] 0 0 (lw_Z below #[Value.ref b] s) (entryFrame m ([Value.ref b] : List Value).toArray 4) := by
  obtain ⟨hx, hb, hr, hml, hown, hts, hX, hbl, hlocks, hgv⟩ := C0
  have htb := zl_tb hts
  obtain ⟨D, cs, hK⟩ := zl_K htb
  obtain ⟨kd, hE⟩ := zl_E htb hgv
  have C : zl_Cx p s m c D cs kd b L xs := ⟨hx, hb, hml, hown, fun w hw => htb w (List.mem_filter.mp hw).1, hK, hE, hX, hbl⟩
  have hAO : va_AO RX0 s := va_AO.of (htb (.arrayOver (.object "TwoBakers$Bakers")) (ab_at_ok (i := 398) (by decide +kernel)))
  have hl := lv_entry ([.ref b]) (n := 4) (Nat.le_of_ble_eq_true rfl)
  rw [lg_entry_eq]
  generalize (lg_sl ([.ref b]) ++ List.replicate (4 - (lg_sl ([.ref b])).length) Slot.unset).toArray = ls at hl ⊢
  have hl : lv_has ls 4 [(0, .ref b)] := hl
  refine zl_begin (RR := zl_R) zl_oks (fun u hu => ⟨zs_B hu, zs_Q hu, ?_⟩) C hAO hL hl (fun H1 locs1 ls1 hS1 => ?_)
  · rw [(zs_u hu).1 0 (by omega)]
    exact (by decide : (0 : Int) ≤ ((0 : Nat) : Int))
  · refine lv_iconst (v := 1) hx hb dL_law_1228 (by decide) ?_
    refine va_forget hS1.2.2 ?_
    refine W.widen (k := 600000) (n := 7302250) (Nat.le_of_ble_eq_true rfl) (Nat.le_of_ble_eq_true rfl) ?_
    exact lw_ret hx hb hr hlocks dL_law_1229
