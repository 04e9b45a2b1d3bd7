-- THE LAW'S CASES, printed by program (wip/gen/mklaw.py)
theorem zl_g1 : ab_G1[0]? = some (10, 16, [some 1, some 3, some 12, some 21, some 28, some 34, some 40, some 65, some 76, some 82, some 88, some 96, none, none, none, none]) := rfl
theorem zl_g2 : ab_G2[0]? = some (11, 98, [none, none, none, none, none, none, none, none, some 1, some 2, some 3, some 4, some 5, some 6, some 7, some 8, some 9, some 10, some 11, some 12, some 13, some 14, none, none, none, none, none, none, some 15, none, none, none, none, none, none, none, none, none, none, none, some 16, some 17, some 18, some 19, some 20, none, none, none, some 21, some 22, some 23, some 24, some 25, none, some 26, some 27, some 28, some 29, some 30, some 31, none, none, some 32, none, none, none, some 33, some 34, some 35, some 36, some 37, some 38, none, none, none, none, none, some 39, some 40, none, none, some 41, some 42, some 43, some 44, some 45, none, none, none, none, none, some 46, some 47, some 48, some 49, some 50, some 51, some 52]) := rfl
def zl_ok (RR : ab_S → ab_S → Nat → Prop) (M N : ab_M) (k : Nat) : Prop := ∀ as : List Int, as.length = k → (∀ a ∈ as, ab_r32 a) → ∀ (ω τ : ab_S) (n : Nat), n ≤ 3072 → RR ω τ n → ab_Runs ab_G1 M (.inr (.inr (.inl 0)) :: as.map Sum.inl) ω (fun v ω' => ab_Runs ab_G2 N (.inr (.inr (.inl 0)) :: as.map Sum.inl) τ (fun v' τ' => v' = v ∧ RR ω' τ' (n + 1)))
/-- what the law's stretches stand on, at the script's place i -/
def zl_Z (p : Program) (s : State) (m : MethodId) (c : Code) (D : va_G) (cs : Nat → ClassId) (kd : Nat → Nat) (b L : Nat) (xs : Nat → Int32) (ad1 ad2 : Nat → Nat) (i : Nat) (ls : Array Slot) (cells slots : Nat) : Prop :=
  zl_Cx p s m c D cs kd b L xs ∧ ((∀ σ, va_D (fun q => s.heap.size ≤ q) (ab_w ab_G1 cs ad1 σ)) ∧ (∀ σ, va_D (fun q => s.heap.size ≤ q) (ab_w ab_G2 cs ad2 σ)) ∧ ∀ i j, i < ab_G1.length → j < ab_G2.length → ad1 i ≠ ad2 j) ∧ (i + 6 ≤ L ∧ L ≤ 3072) ∧ lv_has ls 4 [(0, .ref b), (1, .ref (ad1 0)), (2, .ref (ad2 0)), (3, .int (nI i))] ∧ (cells + 0 ≤ room_1.cells ∧ slots + 0 ≤ room_1.slots)
/-- class and model beside each other in one heap -/
def zl_V (RR : ab_S → ab_S → Nat → Prop) (D : va_G) (cs : Nat → ClassId) (ad1 ad2 : Nat → Nat) (s : State) (H : Heap) (locs : List Loc) (ω τ : ab_S) (n : Nat) : Prop := va_P D vwCl (ab_w ab_G1 cs ad1 ω) H ∧ va_P D vwCl (ab_w ab_G2 cs ad2 τ) H ∧ va_S (fun q => s.heap.size ≤ q) s.heap H locs ∧ RR ω τ n
section
variable {RR : ab_S → ab_S → Nat → Prop} {l : Launch} {D : va_G} {cs : Nat → ClassId} {ad1 ad2 kd : Nat → Nat} {p : Program} {e : Env} {s : State} {m : MethodId} {below : List Frame} {meth : Method} {c : Code} {Q : State → Prop} {b L i n0 : Nat} {xs : Nat → Int32} {ω τ : ab_S} {H : Heap} {locs : List Loc} {ls : Array Slot} {cells slots : Nat}
theorem zl_v13 : ab_cv 13 13 10 mdX11_feed := ab_cvC_ok (r := (13, 13, 10, mdX11_feed, (0, 775, 108, 774, 776), yX11_feed, "", 0, 0)) (by decide +kernel)
theorem zl_v17 : ab_cv 13 17 11 mdX12_feed := ab_cvC_ok (r := (13, 17, 11, mdX12_feed, (0, 1788, 121, 1787, 1789), yX12_feed, "", 0, 0)) (by decide +kernel)
set_option maxRecDepth 100000 in
set_option maxHeartbeats 4000000 in
theorem zl_c0 (hq : zl_ok RR mdX11_feed mdX12_feed 5) (Z : zl_Z p s m c D cs kd b L xs ad1 ad2 i ls cells slots) (hn : n0 ≤ 3072) (V : zl_V RR D cs ad1 ad2 s H locs ω τ n0) (kk : ∀ (H1 : Heap) (locs1 : List Loc) (ω' τ' : ab_S), zl_V RR D cs ad1 ad2 s H1 locs1 ω' τ' (n0 + 1) → W p l e room_1 s m #[Value.ref b] below meth c H1 locs1 cells slots Q (F0 m 1222 ls [])) : W p l e room_1 s m #[Value.ref b] below meth c H locs cells slots Q (F0 m 176 ls []) := by
  obtain ⟨C, ⟨hD1, hD2, hap⟩, ⟨hi, hL⟩, hl, hcs⟩ := Z
  obtain ⟨hP1, hP2, hS, hR⟩ := V
  have hx := C.1
  have hb := C.2.1
  have hrun := hq [(xs (i + 1)).toInt, (xs (i + 2)).toInt, (xs (i + 3)).toInt, (xs (i + 4)).toInt, (xs (i + 5)).toInt] rfl (fun a ha => by
    simp only [List.mem_cons, List.not_mem_nil, or_false] at ha
    rcases ha with rfl | rfl | rfl | rfl | rfl <;> exact zl_i32 _) ω τ n0 hn hR
  refine lv_aload_n hx hb dL_law_176 rfl (lv_at hl 1 rfl) ?_
  refine zl_arg (kN := 1) C hS hl (by omega) hL (by decide) dL_law_177 dL_law_178 dL_law_179 dL_law_180 dL_law_181 ?_
  refine zl_arg (kN := 2) C hS hl (by omega) hL (by decide) dL_law_182 dL_law_183 dL_law_184 dL_law_185 dL_law_186 ?_
  refine zl_arg (kN := 3) C hS hl (by omega) hL (by decide) dL_law_187 dL_law_188 dL_law_189 dL_law_190 dL_law_191 ?_
  refine zl_arg (kN := 4) C hS hl (by omega) hL (by decide) dL_law_192 dL_law_193 dL_law_194 dL_law_195 dL_law_196 ?_
  refine zl_arg (kN := 5) C hS hl (by omega) hL (by decide) dL_law_197 dL_law_198 dL_law_199 dL_law_200 dL_law_201 ?_
  refine zl_calli C hP1 hD1 hS hl.1 (Or.inl rfl) dL_law_202 zl_g1 zl_v13 rfl rfl ⟨Nat.le_of_ble_eq_true rfl, Nat.le_of_ble_eq_true rfl⟩ (Nat.le_of_ble_eq_true rfl) hcs hrun (fun x1 ω1 H1 locs1 hw hP1a hk1 hS1 => ?_)
  have hP2a := zl_kept hP2 hap hk1
  refine lv_aload_n hx hb dL_law_205 rfl (lv_at hl 2 rfl) ?_
  refine zl_arg (kN := 1) C hS1 hl (by omega) hL (by decide) dL_law_206 dL_law_207 dL_law_208 dL_law_209 dL_law_210 ?_
  refine zl_arg (kN := 2) C hS1 hl (by omega) hL (by decide) dL_law_211 dL_law_212 dL_law_213 dL_law_214 dL_law_215 ?_
  refine zl_arg (kN := 3) C hS1 hl (by omega) hL (by decide) dL_law_216 dL_law_217 dL_law_218 dL_law_219 dL_law_220 ?_
  refine zl_arg (kN := 4) C hS1 hl (by omega) hL (by decide) dL_law_221 dL_law_222 dL_law_223 dL_law_224 dL_law_225 ?_
  refine zl_arg (kN := 5) C hS1 hl (by omega) hL (by decide) dL_law_226 dL_law_227 dL_law_228 dL_law_229 dL_law_230 ?_
  refine zl_calli C hP2a hD2 hS1 hl.1 (Or.inl rfl) dL_law_231 zl_g2 zl_v17 rfl rfl ⟨Nat.le_of_ble_eq_true rfl, Nat.le_of_ble_eq_true rfl⟩ (Nat.le_of_ble_eq_true rfl) hcs hw (fun x2 τ1 H2 locs2 hw2 hP2b hk2 hS2 => ?_)
  have hP1b := zl_kept hP1a (fun i j hi hj => (hap j i hj hi).symm) hk2
  obtain ⟨ee, hR1⟩ := hw2
  cases ee
  refine lv_icmp_eq (tgt := 1222) hx hb dL_law_234 (by decide) (fun _ => ?_) (fun hne => absurd rfl hne)
  exact kk H2 locs2 ω1 τ1 ⟨hP1b, hP2b, hS2, hR1⟩
theorem zl_v18 : ab_cv 13 18 10 mdX11_town := ab_cvC_ok (r := (13, 18, 10, mdX11_town, (0, 783, 108, 782, 784), yX11_town, "", 0, 0)) (by decide +kernel)
theorem zl_v22 : ab_cv 13 22 11 mdX12_town := ab_cvC_ok (r := (13, 22, 11, mdX12_town, (0, 1792, 121, 1791, 1793), yX12_town, "", 0, 0)) (by decide +kernel)
set_option maxRecDepth 100000 in
set_option maxHeartbeats 4000000 in
theorem zl_c1 (hq : zl_ok RR mdX11_town mdX12_town 1) (Z : zl_Z p s m c D cs kd b L xs ad1 ad2 i ls cells slots) (hn : n0 ≤ 3072) (V : zl_V RR D cs ad1 ad2 s H locs ω τ n0) (kk : ∀ (H1 : Heap) (locs1 : List Loc) (ω' τ' : ab_S), zl_V RR D cs ad1 ad2 s H1 locs1 ω' τ' (n0 + 1) → W p l e room_1 s m #[Value.ref b] below meth c H1 locs1 cells slots Q (F0 m 1222 ls [])) : W p l e room_1 s m #[Value.ref b] below meth c H locs cells slots Q (F0 m 239 ls []) := by
  obtain ⟨C, ⟨hD1, hD2, hap⟩, ⟨hi, hL⟩, hl, hcs⟩ := Z
  obtain ⟨hP1, hP2, hS, hR⟩ := V
  have hx := C.1
  have hb := C.2.1
  have hrun := hq [(xs (i + 1)).toInt] rfl (fun a ha => by
    simp only [List.mem_cons, List.not_mem_nil, or_false] at ha
    rw [ha]
    exact zl_i32 _) ω τ n0 hn hR
  refine lv_aload_n hx hb dL_law_239 rfl (lv_at hl 1 rfl) ?_
  refine zl_arg (kN := 1) C hS hl (by omega) hL (by decide) dL_law_240 dL_law_241 dL_law_242 dL_law_243 dL_law_244 ?_
  refine zl_calli C hP1 hD1 hS hl.1 (Or.inl rfl) dL_law_245 zl_g1 zl_v18 rfl rfl ⟨Nat.le_of_ble_eq_true rfl, Nat.le_of_ble_eq_true rfl⟩ (Nat.le_of_ble_eq_true rfl) hcs hrun (fun x1 ω1 H1 locs1 hw hP1a hk1 hS1 => ?_)
  have hP2a := zl_kept hP2 hap hk1
  refine lv_aload_n hx hb dL_law_248 rfl (lv_at hl 2 rfl) ?_
  refine zl_arg (kN := 1) C hS1 hl (by omega) hL (by decide) dL_law_249 dL_law_250 dL_law_251 dL_law_252 dL_law_253 ?_
  refine zl_calli C hP2a hD2 hS1 hl.1 (Or.inl rfl) dL_law_254 zl_g2 zl_v22 rfl rfl ⟨Nat.le_of_ble_eq_true rfl, Nat.le_of_ble_eq_true rfl⟩ (Nat.le_of_ble_eq_true rfl) hcs hw (fun x2 τ1 H2 locs2 hw2 hP2b hk2 hS2 => ?_)
  have hP1b := zl_kept hP1a (fun i j hi hj => (hap j i hj hi).symm) hk2
  obtain ⟨ee, hR1⟩ := hw2
  cases ee
  refine lv_icmp_eq (tgt := 1222) hx hb dL_law_257 (by decide) (fun _ => ?_) (fun hne => absurd rfl hne)
  exact kk H2 locs2 ω1 τ1 ⟨hP1b, hP2b, hS2, hR1⟩
theorem zl_v23 : ab_cv 13 23 10 mdX11_law := ab_cvC_ok (r := (13, 23, 10, mdX11_law, (0, 949, 108, 948, 950), yX11_law, "", 0, 0)) (by decide +kernel)
theorem zl_v26 : ab_cv 13 26 11 mdX12_law := ab_cvC_ok (r := (13, 26, 11, mdX12_law, (0, 1891, 121, 1890, 1892), yX12_law, "", 0, 0)) (by decide +kernel)
set_option maxRecDepth 100000 in
set_option maxHeartbeats 4000000 in
theorem zl_c2 (hq : zl_ok RR mdX11_law mdX12_law 1) (Z : zl_Z p s m c D cs kd b L xs ad1 ad2 i ls cells slots) (hn : n0 ≤ 3072) (V : zl_V RR D cs ad1 ad2 s H locs ω τ n0) (kk : ∀ (H1 : Heap) (locs1 : List Loc) (ω' τ' : ab_S), zl_V RR D cs ad1 ad2 s H1 locs1 ω' τ' (n0 + 1) → W p l e room_1 s m #[Value.ref b] below meth c H1 locs1 cells slots Q (F0 m 1222 ls [])) : W p l e room_1 s m #[Value.ref b] below meth c H locs cells slots Q (F0 m 262 ls []) := by
  obtain ⟨C, ⟨hD1, hD2, hap⟩, ⟨hi, hL⟩, hl, hcs⟩ := Z
  obtain ⟨hP1, hP2, hS, hR⟩ := V
  have hx := C.1
  have hb := C.2.1
  have hrun := hq [(xs (i + 1)).toInt] rfl (fun a ha => by
    simp only [List.mem_cons, List.not_mem_nil, or_false] at ha
    rw [ha]
    exact zl_i32 _) ω τ n0 hn hR
  refine lv_aload_n hx hb dL_law_262 rfl (lv_at hl 1 rfl) ?_
  refine zl_arg (kN := 1) C hS hl (by omega) hL (by decide) dL_law_263 dL_law_264 dL_law_265 dL_law_266 dL_law_267 ?_
  refine zl_calli C hP1 hD1 hS hl.1 (Or.inl rfl) dL_law_268 zl_g1 zl_v23 rfl rfl ⟨Nat.le_of_ble_eq_true rfl, Nat.le_of_ble_eq_true rfl⟩ (Nat.le_of_ble_eq_true rfl) hcs hrun (fun x1 ω1 H1 locs1 hw hP1a hk1 hS1 => ?_)
  have hP2a := zl_kept hP2 hap hk1
  refine lv_aload_n hx hb dL_law_271 rfl (lv_at hl 2 rfl) ?_
  refine zl_arg (kN := 1) C hS1 hl (by omega) hL (by decide) dL_law_272 dL_law_273 dL_law_274 dL_law_275 dL_law_276 ?_
  refine zl_calli C hP2a hD2 hS1 hl.1 (Or.inl rfl) dL_law_277 zl_g2 zl_v26 rfl rfl ⟨Nat.le_of_ble_eq_true rfl, Nat.le_of_ble_eq_true rfl⟩ (Nat.le_of_ble_eq_true rfl) hcs hw (fun x2 τ1 H2 locs2 hw2 hP2b hk2 hS2 => ?_)
  have hP1b := zl_kept hP1a (fun i j hi hj => (hap j i hj hi).symm) hk2
  obtain ⟨ee, hR1⟩ := hw2
  cases ee
  refine lv_icmp_eq (tgt := 1222) hx hb dL_law_280 (by decide) (fun _ => ?_) (fun hne => absurd rfl hne)
  exact kk H2 locs2 ω1 τ1 ⟨hP1b, hP2b, hS2, hR1⟩
theorem zl_v27 : ab_cv 13 27 10 mdX11_fault := ab_cvC_ok (r := (13, 27, 10, mdX11_fault, (0, 973, 108, 972, 974), yX11_fault, "", 0, 0)) (by decide +kernel)
theorem zl_v31 : ab_cv 13 31 11 mdX12_fault := ab_cvC_ok (r := (13, 31, 11, mdX12_fault, (0, 1879, 121, 1878, 1880), yX12_fault, "", 0, 0)) (by decide +kernel)
set_option maxRecDepth 100000 in
set_option maxHeartbeats 4000000 in
theorem zl_c3 (hq : zl_ok RR mdX11_fault mdX12_fault 0) (Z : zl_Z p s m c D cs kd b L xs ad1 ad2 i ls cells slots) (hn : n0 ≤ 3072) (V : zl_V RR D cs ad1 ad2 s H locs ω τ n0) (kk : ∀ (H1 : Heap) (locs1 : List Loc) (ω' τ' : ab_S), zl_V RR D cs ad1 ad2 s H1 locs1 ω' τ' (n0 + 1) → W p l e room_1 s m #[Value.ref b] below meth c H1 locs1 cells slots Q (F0 m 1222 ls [])) : W p l e room_1 s m #[Value.ref b] below meth c H locs cells slots Q (F0 m 285 ls []) := by
  obtain ⟨C, ⟨hD1, hD2, hap⟩, ⟨hi, hL⟩, hl, hcs⟩ := Z
  obtain ⟨hP1, hP2, hS, hR⟩ := V
  have hx := C.1
  have hb := C.2.1
  have hrun := hq [] rfl (fun a ha => by cases ha) ω τ n0 hn hR
  refine lv_aload_n hx hb dL_law_285 rfl (lv_at hl 1 rfl) ?_
  refine zl_calli C hP1 hD1 hS hl.1 (Or.inl rfl) dL_law_286 zl_g1 zl_v27 rfl rfl ⟨Nat.le_of_ble_eq_true rfl, Nat.le_of_ble_eq_true rfl⟩ (Nat.le_of_ble_eq_true rfl) hcs hrun (fun x1 ω1 H1 locs1 hw hP1a hk1 hS1 => ?_)
  have hP2a := zl_kept hP2 hap hk1
  refine lv_aload_n hx hb dL_law_289 rfl (lv_at hl 2 rfl) ?_
  refine zl_calli C hP2a hD2 hS1 hl.1 (Or.inl rfl) dL_law_290 zl_g2 zl_v31 rfl rfl ⟨Nat.le_of_ble_eq_true rfl, Nat.le_of_ble_eq_true rfl⟩ (Nat.le_of_ble_eq_true rfl) hcs hw (fun x2 τ1 H2 locs2 hw2 hP2b hk2 hS2 => ?_)
  have hP1b := zl_kept hP1a (fun i j hi hj => (hap j i hj hi).symm) hk2
  obtain ⟨ee, hR1⟩ := hw2
  cases ee
  refine lv_icmp_eq (tgt := 1222) hx hb dL_law_293 (by decide) (fun _ => ?_) (fun hne => absurd rfl hne)
  exact kk H2 locs2 ω1 τ1 ⟨hP1b, hP2b, hS2, hR1⟩
theorem zl_v32 : ab_cv 13 32 10 mdX11_told := ab_cvC_ok (r := (13, 32, 10, mdX11_told, (0, 977, 108, 976, 978), yX11_told, "", 0, 0)) (by decide +kernel)
theorem zl_v35 : ab_cv 13 35 11 mdX12_told := ab_cvC_ok (r := (13, 35, 11, mdX12_told, (0, 1883, 121, 1882, 1884), yX12_told, "", 0, 0)) (by decide +kernel)
set_option maxRecDepth 100000 in
set_option maxHeartbeats 4000000 in
theorem zl_c4 (hq : zl_ok RR mdX11_told mdX12_told 1) (Z : zl_Z p s m c D cs kd b L xs ad1 ad2 i ls cells slots) (hn : n0 ≤ 3072) (V : zl_V RR D cs ad1 ad2 s H locs ω τ n0) (kk : ∀ (H1 : Heap) (locs1 : List Loc) (ω' τ' : ab_S), zl_V RR D cs ad1 ad2 s H1 locs1 ω' τ' (n0 + 1) → W p l e room_1 s m #[Value.ref b] below meth c H1 locs1 cells slots Q (F0 m 1222 ls [])) : W p l e room_1 s m #[Value.ref b] below meth c H locs cells slots Q (F0 m 298 ls []) := by
  obtain ⟨C, ⟨hD1, hD2, hap⟩, ⟨hi, hL⟩, hl, hcs⟩ := Z
  obtain ⟨hP1, hP2, hS, hR⟩ := V
  have hx := C.1
  have hb := C.2.1
  have hrun := hq [(xs (i + 1)).toInt] rfl (fun a ha => by
    simp only [List.mem_cons, List.not_mem_nil, or_false] at ha
    rw [ha]
    exact zl_i32 _) ω τ n0 hn hR
  refine lv_aload_n hx hb dL_law_298 rfl (lv_at hl 1 rfl) ?_
  refine zl_arg (kN := 1) C hS hl (by omega) hL (by decide) dL_law_299 dL_law_300 dL_law_301 dL_law_302 dL_law_303 ?_
  refine zl_calli C hP1 hD1 hS hl.1 (Or.inl rfl) dL_law_304 zl_g1 zl_v32 rfl rfl ⟨Nat.le_of_ble_eq_true rfl, Nat.le_of_ble_eq_true rfl⟩ (Nat.le_of_ble_eq_true rfl) hcs hrun (fun x1 ω1 H1 locs1 hw hP1a hk1 hS1 => ?_)
  have hP2a := zl_kept hP2 hap hk1
  refine lv_aload_n hx hb dL_law_307 rfl (lv_at hl 2 rfl) ?_
  refine zl_arg (kN := 1) C hS1 hl (by omega) hL (by decide) dL_law_308 dL_law_309 dL_law_310 dL_law_311 dL_law_312 ?_
  refine zl_calli C hP2a hD2 hS1 hl.1 (Or.inl rfl) dL_law_313 zl_g2 zl_v35 rfl rfl ⟨Nat.le_of_ble_eq_true rfl, Nat.le_of_ble_eq_true rfl⟩ (Nat.le_of_ble_eq_true rfl) hcs hw (fun x2 τ1 H2 locs2 hw2 hP2b hk2 hS2 => ?_)
  have hP1b := zl_kept hP1a (fun i j hi hj => (hap j i hj hi).symm) hk2
  obtain ⟨ee, hR1⟩ := hw2
  cases ee
  refine lv_icmp_eq (tgt := 1222) hx hb dL_law_316 (by decide) (fun _ => ?_) (fun hne => absurd rfl hne)
  exact kk H2 locs2 ω1 τ1 ⟨hP1b, hP2b, hS2, hR1⟩
theorem zl_v36 : ab_cv 13 36 10 mdX11_name := ab_cvC_ok (r := (13, 36, 10, mdX11_name, (0, 989, 108, 988, 990), yX11_name, "", 0, 0)) (by decide +kernel)
theorem zl_v40 : ab_cv 13 40 11 mdX12_name := ab_cvC_ok (r := (13, 40, 11, mdX12_name, (0, 1887, 121, 1886, 1888), yX12_name, "", 0, 0)) (by decide +kernel)
set_option maxRecDepth 100000 in
set_option maxHeartbeats 4000000 in
theorem zl_c5 (hq : zl_ok RR mdX11_name mdX12_name 2) (Z : zl_Z p s m c D cs kd b L xs ad1 ad2 i ls cells slots) (hn : n0 ≤ 3072) (V : zl_V RR D cs ad1 ad2 s H locs ω τ n0) (kk : ∀ (H1 : Heap) (locs1 : List Loc) (ω' τ' : ab_S), zl_V RR D cs ad1 ad2 s H1 locs1 ω' τ' (n0 + 1) → W p l e room_1 s m #[Value.ref b] below meth c H1 locs1 cells slots Q (F0 m 1222 ls [])) : W p l e room_1 s m #[Value.ref b] below meth c H locs cells slots Q (F0 m 321 ls []) := by
  obtain ⟨C, ⟨hD1, hD2, hap⟩, ⟨hi, hL⟩, hl, hcs⟩ := Z
  obtain ⟨hP1, hP2, hS, hR⟩ := V
  have hx := C.1
  have hb := C.2.1
  have hrun := hq [(xs (i + 1)).toInt, (xs (i + 2)).toInt] rfl (fun a ha => by
    simp only [List.mem_cons, List.not_mem_nil, or_false] at ha
    rcases ha with rfl | rfl <;> exact zl_i32 _) ω τ n0 hn hR
  refine lv_aload_n hx hb dL_law_321 rfl (lv_at hl 1 rfl) ?_
  refine zl_arg (kN := 1) C hS hl (by omega) hL (by decide) dL_law_322 dL_law_323 dL_law_324 dL_law_325 dL_law_326 ?_
  refine zl_arg (kN := 2) C hS hl (by omega) hL (by decide) dL_law_327 dL_law_328 dL_law_329 dL_law_330 dL_law_331 ?_
  refine zl_calli C hP1 hD1 hS hl.1 (Or.inl rfl) dL_law_332 zl_g1 zl_v36 rfl rfl ⟨Nat.le_of_ble_eq_true rfl, Nat.le_of_ble_eq_true rfl⟩ (Nat.le_of_ble_eq_true rfl) hcs hrun (fun x1 ω1 H1 locs1 hw hP1a hk1 hS1 => ?_)
  have hP2a := zl_kept hP2 hap hk1
  refine lv_aload_n hx hb dL_law_335 rfl (lv_at hl 2 rfl) ?_
  refine zl_arg (kN := 1) C hS1 hl (by omega) hL (by decide) dL_law_336 dL_law_337 dL_law_338 dL_law_339 dL_law_340 ?_
  refine zl_arg (kN := 2) C hS1 hl (by omega) hL (by decide) dL_law_341 dL_law_342 dL_law_343 dL_law_344 dL_law_345 ?_
  refine zl_calli C hP2a hD2 hS1 hl.1 (Or.inl rfl) dL_law_346 zl_g2 zl_v40 rfl rfl ⟨Nat.le_of_ble_eq_true rfl, Nat.le_of_ble_eq_true rfl⟩ (Nat.le_of_ble_eq_true rfl) hcs hw (fun x2 τ1 H2 locs2 hw2 hP2b hk2 hS2 => ?_)
  have hP1b := zl_kept hP1a (fun i j hi hj => (hap j i hj hi).symm) hk2
  obtain ⟨ee, hR1⟩ := hw2
  cases ee
  refine lv_icmp_eq (tgt := 1222) hx hb dL_law_349 (by decide) (fun _ => ?_) (fun hne => absurd rfl hne)
  exact kk H2 locs2 ω1 τ1 ⟨hP1b, hP2b, hS2, hR1⟩
theorem zl_v41 : ab_cv 13 41 10 mdX11_far := ab_cvC_ok (r := (13, 41, 10, mdX11_far, (0, 997, 108, 996, 998), yX11_far, "", 0, 0)) (by decide +kernel)
theorem zl_v44 : ab_cv 13 44 11 mdX12_far := ab_cvC_ok (r := (13, 44, 11, mdX12_far, (0, 1903, 121, 1902, 1904), yX12_far, "", 0, 0)) (by decide +kernel)
set_option maxRecDepth 100000 in
set_option maxHeartbeats 4000000 in
theorem zl_c6 (hq : zl_ok RR mdX11_far mdX12_far 2) (Z : zl_Z p s m c D cs kd b L xs ad1 ad2 i ls cells slots) (hn : n0 ≤ 3072) (V : zl_V RR D cs ad1 ad2 s H locs ω τ n0) (kk : ∀ (H1 : Heap) (locs1 : List Loc) (ω' τ' : ab_S), zl_V RR D cs ad1 ad2 s H1 locs1 ω' τ' (n0 + 1) → W p l e room_1 s m #[Value.ref b] below meth c H1 locs1 cells slots Q (F0 m 1222 ls [])) : W p l e room_1 s m #[Value.ref b] below meth c H locs cells slots Q (F0 m 354 ls []) := by
  obtain ⟨C, ⟨hD1, hD2, hap⟩, ⟨hi, hL⟩, hl, hcs⟩ := Z
  obtain ⟨hP1, hP2, hS, hR⟩ := V
  have hx := C.1
  have hb := C.2.1
  have hrun := hq [(xs (i + 1)).toInt, (xs (i + 2)).toInt] rfl (fun a ha => by
    simp only [List.mem_cons, List.not_mem_nil, or_false] at ha
    rcases ha with rfl | rfl <;> exact zl_i32 _) ω τ n0 hn hR
  refine lv_aload_n hx hb dL_law_354 rfl (lv_at hl 1 rfl) ?_
  refine zl_arg (kN := 1) C hS hl (by omega) hL (by decide) dL_law_355 dL_law_356 dL_law_357 dL_law_358 dL_law_359 ?_
  refine zl_arg (kN := 2) C hS hl (by omega) hL (by decide) dL_law_360 dL_law_361 dL_law_362 dL_law_363 dL_law_364 ?_
  refine zl_calli C hP1 hD1 hS hl.1 (Or.inl rfl) dL_law_365 zl_g1 zl_v41 rfl rfl ⟨Nat.le_of_ble_eq_true rfl, Nat.le_of_ble_eq_true rfl⟩ (Nat.le_of_ble_eq_true rfl) hcs hrun (fun x1 ω1 H1 locs1 hw hP1a hk1 hS1 => ?_)
  have hP2a := zl_kept hP2 hap hk1
  refine lv_aload_n hx hb dL_law_368 rfl (lv_at hl 2 rfl) ?_
  refine zl_arg (kN := 1) C hS1 hl (by omega) hL (by decide) dL_law_369 dL_law_370 dL_law_371 dL_law_372 dL_law_373 ?_
  refine zl_arg (kN := 2) C hS1 hl (by omega) hL (by decide) dL_law_374 dL_law_375 dL_law_376 dL_law_377 dL_law_378 ?_
  refine zl_calli C hP2a hD2 hS1 hl.1 (Or.inl rfl) dL_law_379 zl_g2 zl_v44 rfl rfl ⟨Nat.le_of_ble_eq_true rfl, Nat.le_of_ble_eq_true rfl⟩ (Nat.le_of_ble_eq_true rfl) hcs hw (fun x2 τ1 H2 locs2 hw2 hP2b hk2 hS2 => ?_)
  have hP1b := zl_kept hP1a (fun i j hi hj => (hap j i hj hi).symm) hk2
  obtain ⟨ee, hR1⟩ := hw2
  cases ee
  refine lv_icmp_eq (tgt := 1222) hx hb dL_law_382 (by decide) (fun _ => ?_) (fun hne => absurd rfl hne)
  exact kk H2 locs2 ω1 τ1 ⟨hP1b, hP2b, hS2, hR1⟩
theorem zl_v45 : ab_cv 13 45 10 mdX11_force := ab_cvC_ok (r := (13, 45, 10, mdX11_force, (0, 1031, 108, 1030, 1032), yX11_force, "", 0, 0)) (by decide +kernel)
theorem zl_v49 : ab_cv 13 49 11 mdX12_force := ab_cvC_ok (r := (13, 49, 11, mdX12_force, (0, 1899, 121, 1898, 1900), yX12_force, "", 0, 0)) (by decide +kernel)
set_option maxRecDepth 100000 in
set_option maxHeartbeats 4000000 in
theorem zl_c7 (hq : zl_ok RR mdX11_force mdX12_force 1) (Z : zl_Z p s m c D cs kd b L xs ad1 ad2 i ls cells slots) (hn : n0 ≤ 3072) (V : zl_V RR D cs ad1 ad2 s H locs ω τ n0) (kk : ∀ (H1 : Heap) (locs1 : List Loc) (ω' τ' : ab_S), zl_V RR D cs ad1 ad2 s H1 locs1 ω' τ' (n0 + 1) → W p l e room_1 s m #[Value.ref b] below meth c H1 locs1 cells slots Q (F0 m 1222 ls [])) : W p l e room_1 s m #[Value.ref b] below meth c H locs cells slots Q (F0 m 387 ls []) := by
  obtain ⟨C, ⟨hD1, hD2, hap⟩, ⟨hi, hL⟩, hl, hcs⟩ := Z
  obtain ⟨hP1, hP2, hS, hR⟩ := V
  have hx := C.1
  have hb := C.2.1
  have hrun := hq [(xs (i + 1)).toInt] rfl (fun a ha => by
    simp only [List.mem_cons, List.not_mem_nil, or_false] at ha
    rw [ha]
    exact zl_i32 _) ω τ n0 hn hR
  refine lv_aload_n hx hb dL_law_387 rfl (lv_at hl 1 rfl) ?_
  refine zl_arg (kN := 1) C hS hl (by omega) hL (by decide) dL_law_388 dL_law_389 dL_law_390 dL_law_391 dL_law_392 ?_
  refine zl_calli C hP1 hD1 hS hl.1 (Or.inr rfl) dL_law_393 zl_g1 zl_v45 rfl rfl ⟨Nat.le_of_ble_eq_true rfl, Nat.le_of_ble_eq_true rfl⟩ (Nat.le_of_ble_eq_true rfl) hcs hrun (fun x1 ω1 H1 locs1 hw hP1a hk1 hS1 => ?_)
  have hP2a := zl_kept hP2 hap hk1
  refine lv_aload_n hx hb dL_law_396 rfl (lv_at hl 2 rfl) ?_
  refine zl_arg (kN := 1) C hS1 hl (by omega) hL (by decide) dL_law_397 dL_law_398 dL_law_399 dL_law_400 dL_law_401 ?_
  refine zl_calli C hP2a hD2 hS1 hl.1 (Or.inr rfl) dL_law_402 zl_g2 zl_v49 rfl rfl ⟨Nat.le_of_ble_eq_true rfl, Nat.le_of_ble_eq_true rfl⟩ (Nat.le_of_ble_eq_true rfl) hcs hw (fun x2 τ1 H2 locs2 hw2 hP2b hk2 hS2 => ?_)
  have hP1b := zl_kept hP1a (fun i j hi hj => (hap j i hj hi).symm) hk2
  obtain ⟨ee, hR1⟩ := hw2
  cases ee
  refine lv_icmp_eq (tgt := 1222) hx hb dL_law_405 (by decide) (fun _ => ?_) (fun hne => absurd rfl hne)
  exact kk H2 locs2 ω1 τ1 ⟨hP1b, hP2b, hS2, hR1⟩
theorem zl_v50 : ab_cv 13 50 10 mdX11_seller := ab_cvC_ok (r := (13, 50, 10, mdX11_seller, (0, 1035, 108, 1034, 1036), yX11_seller, "", 0, 0)) (by decide +kernel)
theorem zl_v53 : ab_cv 13 53 11 mdX12_seller := ab_cvC_ok (r := (13, 53, 11, mdX12_seller, (0, 1928, 121, 1927, 1929), yX12_seller, "", 0, 0)) (by decide +kernel)
set_option maxRecDepth 100000 in
set_option maxHeartbeats 4000000 in
theorem zl_c8 (hq : zl_ok RR mdX11_seller mdX12_seller 5) (Z : zl_Z p s m c D cs kd b L xs ad1 ad2 i ls cells slots) (hn : n0 ≤ 3072) (V : zl_V RR D cs ad1 ad2 s H locs ω τ n0) (kk : ∀ (H1 : Heap) (locs1 : List Loc) (ω' τ' : ab_S), zl_V RR D cs ad1 ad2 s H1 locs1 ω' τ' (n0 + 1) → W p l e room_1 s m #[Value.ref b] below meth c H1 locs1 cells slots Q (F0 m 1222 ls [])) : W p l e room_1 s m #[Value.ref b] below meth c H locs cells slots Q (F0 m 410 ls []) := by
  obtain ⟨C, ⟨hD1, hD2, hap⟩, ⟨hi, hL⟩, hl, hcs⟩ := Z
  obtain ⟨hP1, hP2, hS, hR⟩ := V
  have hx := C.1
  have hb := C.2.1
  have hrun := hq [(xs (i + 1)).toInt, (xs (i + 2)).toInt, (xs (i + 3)).toInt, (xs (i + 4)).toInt, (xs (i + 5)).toInt] rfl (fun a ha => by
    simp only [List.mem_cons, List.not_mem_nil, or_false] at ha
    rcases ha with rfl | rfl | rfl | rfl | rfl <;> exact zl_i32 _) ω τ n0 hn hR
  refine lv_aload_n hx hb dL_law_410 rfl (lv_at hl 1 rfl) ?_
  refine zl_arg (kN := 1) C hS hl (by omega) hL (by decide) dL_law_411 dL_law_412 dL_law_413 dL_law_414 dL_law_415 ?_
  refine zl_arg (kN := 2) C hS hl (by omega) hL (by decide) dL_law_416 dL_law_417 dL_law_418 dL_law_419 dL_law_420 ?_
  refine zl_arg (kN := 3) C hS hl (by omega) hL (by decide) dL_law_421 dL_law_422 dL_law_423 dL_law_424 dL_law_425 ?_
  refine zl_arg (kN := 4) C hS hl (by omega) hL (by decide) dL_law_426 dL_law_427 dL_law_428 dL_law_429 dL_law_430 ?_
  refine zl_arg (kN := 5) C hS hl (by omega) hL (by decide) dL_law_431 dL_law_432 dL_law_433 dL_law_434 dL_law_435 ?_
  refine zl_calli C hP1 hD1 hS hl.1 (Or.inl rfl) dL_law_436 zl_g1 zl_v50 rfl rfl ⟨Nat.le_of_ble_eq_true rfl, Nat.le_of_ble_eq_true rfl⟩ (Nat.le_of_ble_eq_true rfl) hcs hrun (fun x1 ω1 H1 locs1 hw hP1a hk1 hS1 => ?_)
  have hP2a := zl_kept hP2 hap hk1
  refine lv_aload_n hx hb dL_law_439 rfl (lv_at hl 2 rfl) ?_
  refine zl_arg (kN := 1) C hS1 hl (by omega) hL (by decide) dL_law_440 dL_law_441 dL_law_442 dL_law_443 dL_law_444 ?_
  refine zl_arg (kN := 2) C hS1 hl (by omega) hL (by decide) dL_law_445 dL_law_446 dL_law_447 dL_law_448 dL_law_449 ?_
  refine zl_arg (kN := 3) C hS1 hl (by omega) hL (by decide) dL_law_450 dL_law_451 dL_law_452 dL_law_453 dL_law_454 ?_
  refine zl_arg (kN := 4) C hS1 hl (by omega) hL (by decide) dL_law_455 dL_law_456 dL_law_457 dL_law_458 dL_law_459 ?_
  refine zl_arg (kN := 5) C hS1 hl (by omega) hL (by decide) dL_law_460 dL_law_461 dL_law_462 dL_law_463 dL_law_464 ?_
  refine zl_calli C hP2a hD2 hS1 hl.1 (Or.inl rfl) dL_law_465 zl_g2 zl_v53 rfl rfl ⟨Nat.le_of_ble_eq_true rfl, Nat.le_of_ble_eq_true rfl⟩ (Nat.le_of_ble_eq_true rfl) hcs hw (fun x2 τ1 H2 locs2 hw2 hP2b hk2 hS2 => ?_)
  have hP1b := zl_kept hP1a (fun i j hi hj => (hap j i hj hi).symm) hk2
  obtain ⟨ee, hR1⟩ := hw2
  cases ee
  refine lv_icmp_eq (tgt := 1222) hx hb dL_law_468 (by decide) (fun _ => ?_) (fun hne => absurd rfl hne)
  exact kk H2 locs2 ω1 τ1 ⟨hP1b, hP2b, hS2, hR1⟩
theorem zl_v54 : ab_cv 13 54 10 mdX11_put := ab_cvC_ok (r := (13, 54, 10, mdX11_put, (0, 1043, 108, 1042, 1044), yX11_put, "", 0, 0)) (by decide +kernel)
theorem zl_v58 : ab_cv 13 58 11 mdX12_put := ab_cvC_ok (r := (13, 58, 11, mdX12_put, (0, 1932, 121, 1931, 1933), yX12_put, "", 0, 0)) (by decide +kernel)
set_option maxRecDepth 100000 in
set_option maxHeartbeats 4000000 in
theorem zl_c9 (hq : zl_ok RR mdX11_put mdX12_put 3) (Z : zl_Z p s m c D cs kd b L xs ad1 ad2 i ls cells slots) (hn : n0 ≤ 3072) (V : zl_V RR D cs ad1 ad2 s H locs ω τ n0) (kk : ∀ (H1 : Heap) (locs1 : List Loc) (ω' τ' : ab_S), zl_V RR D cs ad1 ad2 s H1 locs1 ω' τ' (n0 + 1) → W p l e room_1 s m #[Value.ref b] below meth c H1 locs1 cells slots Q (F0 m 1222 ls [])) : W p l e room_1 s m #[Value.ref b] below meth c H locs cells slots Q (F0 m 473 ls []) := by
  obtain ⟨C, ⟨hD1, hD2, hap⟩, ⟨hi, hL⟩, hl, hcs⟩ := Z
  obtain ⟨hP1, hP2, hS, hR⟩ := V
  have hx := C.1
  have hb := C.2.1
  have hrun := hq [(xs (i + 1)).toInt, (xs (i + 2)).toInt, (xs (i + 3)).toInt] rfl (fun a ha => by
    simp only [List.mem_cons, List.not_mem_nil, or_false] at ha
    rcases ha with rfl | rfl | rfl <;> exact zl_i32 _) ω τ n0 hn hR
  refine lv_aload_n hx hb dL_law_473 rfl (lv_at hl 1 rfl) ?_
  refine zl_arg (kN := 1) C hS hl (by omega) hL (by decide) dL_law_474 dL_law_475 dL_law_476 dL_law_477 dL_law_478 ?_
  refine zl_arg (kN := 2) C hS hl (by omega) hL (by decide) dL_law_479 dL_law_480 dL_law_481 dL_law_482 dL_law_483 ?_
  refine zl_arg (kN := 3) C hS hl (by omega) hL (by decide) dL_law_484 dL_law_485 dL_law_486 dL_law_487 dL_law_488 ?_
  refine zl_calli C hP1 hD1 hS hl.1 (Or.inr rfl) dL_law_489 zl_g1 zl_v54 rfl rfl ⟨Nat.le_of_ble_eq_true rfl, Nat.le_of_ble_eq_true rfl⟩ (Nat.le_of_ble_eq_true rfl) hcs hrun (fun x1 ω1 H1 locs1 hw hP1a hk1 hS1 => ?_)
  have hP2a := zl_kept hP2 hap hk1
  refine lv_aload_n hx hb dL_law_492 rfl (lv_at hl 2 rfl) ?_
  refine zl_arg (kN := 1) C hS1 hl (by omega) hL (by decide) dL_law_493 dL_law_494 dL_law_495 dL_law_496 dL_law_497 ?_
  refine zl_arg (kN := 2) C hS1 hl (by omega) hL (by decide) dL_law_498 dL_law_499 dL_law_500 dL_law_501 dL_law_502 ?_
  refine zl_arg (kN := 3) C hS1 hl (by omega) hL (by decide) dL_law_503 dL_law_504 dL_law_505 dL_law_506 dL_law_507 ?_
  refine zl_calli C hP2a hD2 hS1 hl.1 (Or.inr rfl) dL_law_508 zl_g2 zl_v58 rfl rfl ⟨Nat.le_of_ble_eq_true rfl, Nat.le_of_ble_eq_true rfl⟩ (Nat.le_of_ble_eq_true rfl) hcs hw (fun x2 τ1 H2 locs2 hw2 hP2b hk2 hS2 => ?_)
  have hP1b := zl_kept hP1a (fun i j hi hj => (hap j i hj hi).symm) hk2
  obtain ⟨ee, hR1⟩ := hw2
  cases ee
  refine lv_icmp_eq (tgt := 1222) hx hb dL_law_511 (by decide) (fun _ => ?_) (fun hne => absurd rfl hne)
  exact kk H2 locs2 ω1 τ1 ⟨hP1b, hP2b, hS2, hR1⟩
theorem zl_v59 : ab_cv 13 59 10 mdX11_of := ab_cvC_ok (r := (13, 59, 10, mdX11_of, (0, 1051, 108, 1050, 1052), yX11_of, "", 0, 0)) (by decide +kernel)
theorem zl_v62 : ab_cv 13 62 11 mdX12_of := ab_cvC_ok (r := (13, 62, 11, mdX12_of, (0, 1940, 121, 1939, 1941), yX12_of, "", 0, 0)) (by decide +kernel)
set_option maxRecDepth 100000 in
set_option maxHeartbeats 4000000 in
theorem zl_c10 (hq : zl_ok RR mdX11_of mdX12_of 2) (Z : zl_Z p s m c D cs kd b L xs ad1 ad2 i ls cells slots) (hn : n0 ≤ 3072) (V : zl_V RR D cs ad1 ad2 s H locs ω τ n0) (kk : ∀ (H1 : Heap) (locs1 : List Loc) (ω' τ' : ab_S), zl_V RR D cs ad1 ad2 s H1 locs1 ω' τ' (n0 + 1) → W p l e room_1 s m #[Value.ref b] below meth c H1 locs1 cells slots Q (F0 m 1222 ls [])) : W p l e room_1 s m #[Value.ref b] below meth c H locs cells slots Q (F0 m 516 ls []) := by
  obtain ⟨C, ⟨hD1, hD2, hap⟩, ⟨hi, hL⟩, hl, hcs⟩ := Z
  obtain ⟨hP1, hP2, hS, hR⟩ := V
  have hx := C.1
  have hb := C.2.1
  have hrun := hq [(xs (i + 1)).toInt, (xs (i + 2)).toInt] rfl (fun a ha => by
    simp only [List.mem_cons, List.not_mem_nil, or_false] at ha
    rcases ha with rfl | rfl <;> exact zl_i32 _) ω τ n0 hn hR
  refine lv_aload_n hx hb dL_law_516 rfl (lv_at hl 1 rfl) ?_
  refine zl_arg (kN := 1) C hS hl (by omega) hL (by decide) dL_law_517 dL_law_518 dL_law_519 dL_law_520 dL_law_521 ?_
  refine zl_arg (kN := 2) C hS hl (by omega) hL (by decide) dL_law_522 dL_law_523 dL_law_524 dL_law_525 dL_law_526 ?_
  refine zl_calli C hP1 hD1 hS hl.1 (Or.inl rfl) dL_law_527 zl_g1 zl_v59 rfl rfl ⟨Nat.le_of_ble_eq_true rfl, Nat.le_of_ble_eq_true rfl⟩ (Nat.le_of_ble_eq_true rfl) hcs hrun (fun x1 ω1 H1 locs1 hw hP1a hk1 hS1 => ?_)
  have hP2a := zl_kept hP2 hap hk1
  refine lv_aload_n hx hb dL_law_530 rfl (lv_at hl 2 rfl) ?_
  refine zl_arg (kN := 1) C hS1 hl (by omega) hL (by decide) dL_law_531 dL_law_532 dL_law_533 dL_law_534 dL_law_535 ?_
  refine zl_arg (kN := 2) C hS1 hl (by omega) hL (by decide) dL_law_536 dL_law_537 dL_law_538 dL_law_539 dL_law_540 ?_
  refine zl_calli C hP2a hD2 hS1 hl.1 (Or.inl rfl) dL_law_541 zl_g2 zl_v62 rfl rfl ⟨Nat.le_of_ble_eq_true rfl, Nat.le_of_ble_eq_true rfl⟩ (Nat.le_of_ble_eq_true rfl) hcs hw (fun x2 τ1 H2 locs2 hw2 hP2b hk2 hS2 => ?_)
  have hP1b := zl_kept hP1a (fun i j hi hj => (hap j i hj hi).symm) hk2
  obtain ⟨ee, hR1⟩ := hw2
  cases ee
  refine lv_icmp_eq (tgt := 1222) hx hb dL_law_544 (by decide) (fun _ => ?_) (fun hne => absurd rfl hne)
  exact kk H2 locs2 ω1 τ1 ⟨hP1b, hP2b, hS2, hR1⟩
theorem zl_v63 : ab_cv 13 63 10 mdX11_sold := ab_cvC_ok (r := (13, 63, 10, mdX11_sold, (0, 1055, 108, 1054, 1056), yX11_sold, "", 0, 0)) (by decide +kernel)
theorem zl_v67 : ab_cv 13 67 11 mdX12_sold := ab_cvC_ok (r := (13, 67, 11, mdX12_sold, (0, 1948, 121, 1947, 1949), yX12_sold, "", 0, 0)) (by decide +kernel)
set_option maxRecDepth 100000 in
set_option maxHeartbeats 4000000 in
theorem zl_c11 (hq : zl_ok RR mdX11_sold mdX12_sold 1) (Z : zl_Z p s m c D cs kd b L xs ad1 ad2 i ls cells slots) (hn : n0 ≤ 3072) (V : zl_V RR D cs ad1 ad2 s H locs ω τ n0) (kk : ∀ (H1 : Heap) (locs1 : List Loc) (ω' τ' : ab_S), zl_V RR D cs ad1 ad2 s H1 locs1 ω' τ' (n0 + 1) → W p l e room_1 s m #[Value.ref b] below meth c H1 locs1 cells slots Q (F0 m 1222 ls [])) : W p l e room_1 s m #[Value.ref b] below meth c H locs cells slots Q (F0 m 549 ls []) := by
  obtain ⟨C, ⟨hD1, hD2, hap⟩, ⟨hi, hL⟩, hl, hcs⟩ := Z
  obtain ⟨hP1, hP2, hS, hR⟩ := V
  have hx := C.1
  have hb := C.2.1
  have hrun := hq [(xs (i + 1)).toInt] rfl (fun a ha => by
    simp only [List.mem_cons, List.not_mem_nil, or_false] at ha
    rw [ha]
    exact zl_i32 _) ω τ n0 hn hR
  refine lv_aload_n hx hb dL_law_549 rfl (lv_at hl 1 rfl) ?_
  refine zl_arg (kN := 1) C hS hl (by omega) hL (by decide) dL_law_550 dL_law_551 dL_law_552 dL_law_553 dL_law_554 ?_
  refine zl_calll C hP1 hD1 hS hl.1 rfl dL_law_555 zl_g1 zl_v63 rfl rfl ⟨Nat.le_of_ble_eq_true rfl, Nat.le_of_ble_eq_true rfl⟩ (Nat.le_of_ble_eq_true rfl) hcs hrun (fun x1 ω1 H1 locs1 hw hP1a hk1 hS1 => ?_)
  have hP2a := zl_kept hP2 hap hk1
  refine lv_aload_n hx hb dL_law_558 rfl (lv_at hl 2 rfl) ?_
  refine zl_arg (kN := 1) C hS1 hl (by omega) hL (by decide) dL_law_559 dL_law_560 dL_law_561 dL_law_562 dL_law_563 ?_
  refine zl_calll C hP2a hD2 hS1 hl.1 rfl dL_law_564 zl_g2 zl_v67 rfl rfl ⟨Nat.le_of_ble_eq_true rfl, Nat.le_of_ble_eq_true rfl⟩ (Nat.le_of_ble_eq_true rfl) hcs hw (fun x2 τ1 H2 locs2 hw2 hP2b hk2 hS2 => ?_)
  have hP1b := zl_kept hP1a (fun i j hi hj => (hap j i hj hi).symm) hk2
  obtain ⟨ee, hR1⟩ := hw2
  cases ee
  refine W.lcmp hx hb dL_law_567 ?_
  refine lv_if_eq (tgt := 1222) hx hb dL_law_568 (by decide) (fun _ => ?_) (fun hne => absurd ((lg_cmp_eq _ _).mpr rfl) hne)
  exact kk H2 locs2 ω1 τ1 ⟨hP1b, hP2b, hS2, hR1⟩
theorem zl_v68 : ab_cv 13 68 10 mdX11_earns := ab_cvC_ok (r := (13, 68, 10, mdX11_earns, (0, 1161, 108, 1160, 1162), yX11_earns, "", 0, 0)) (by decide +kernel)
theorem zl_v71 : ab_cv 13 71 11 mdX12_earns := ab_cvC_ok (r := (13, 71, 11, mdX12_earns, (0, 1974, 121, 1973, 1975), yX12_earns, "", 0, 0)) (by decide +kernel)
set_option maxRecDepth 100000 in
set_option maxHeartbeats 4000000 in
theorem zl_c12 (hq : zl_ok RR mdX11_earns mdX12_earns 1) (Z : zl_Z p s m c D cs kd b L xs ad1 ad2 i ls cells slots) (hn : n0 ≤ 3072) (V : zl_V RR D cs ad1 ad2 s H locs ω τ n0) (kk : ∀ (H1 : Heap) (locs1 : List Loc) (ω' τ' : ab_S), zl_V RR D cs ad1 ad2 s H1 locs1 ω' τ' (n0 + 1) → W p l e room_1 s m #[Value.ref b] below meth c H1 locs1 cells slots Q (F0 m 1222 ls [])) : W p l e room_1 s m #[Value.ref b] below meth c H locs cells slots Q (F0 m 573 ls []) := by
  obtain ⟨C, ⟨hD1, hD2, hap⟩, ⟨hi, hL⟩, hl, hcs⟩ := Z
  obtain ⟨hP1, hP2, hS, hR⟩ := V
  have hx := C.1
  have hb := C.2.1
  have hrun := hq [(xs (i + 1)).toInt] rfl (fun a ha => by
    simp only [List.mem_cons, List.not_mem_nil, or_false] at ha
    rw [ha]
    exact zl_i32 _) ω τ n0 hn hR
  refine lv_aload_n hx hb dL_law_573 rfl (lv_at hl 1 rfl) ?_
  refine zl_arg (kN := 1) C hS hl (by omega) hL (by decide) dL_law_574 dL_law_575 dL_law_576 dL_law_577 dL_law_578 ?_
  refine zl_calll C hP1 hD1 hS hl.1 rfl dL_law_579 zl_g1 zl_v68 rfl rfl ⟨Nat.le_of_ble_eq_true rfl, Nat.le_of_ble_eq_true rfl⟩ (Nat.le_of_ble_eq_true rfl) hcs hrun (fun x1 ω1 H1 locs1 hw hP1a hk1 hS1 => ?_)
  have hP2a := zl_kept hP2 hap hk1
  refine lv_aload_n hx hb dL_law_582 rfl (lv_at hl 2 rfl) ?_
  refine zl_arg (kN := 1) C hS1 hl (by omega) hL (by decide) dL_law_583 dL_law_584 dL_law_585 dL_law_586 dL_law_587 ?_
  refine zl_calll C hP2a hD2 hS1 hl.1 rfl dL_law_588 zl_g2 zl_v71 rfl rfl ⟨Nat.le_of_ble_eq_true rfl, Nat.le_of_ble_eq_true rfl⟩ (Nat.le_of_ble_eq_true rfl) hcs hw (fun x2 τ1 H2 locs2 hw2 hP2b hk2 hS2 => ?_)
  have hP1b := zl_kept hP1a (fun i j hi hj => (hap j i hj hi).symm) hk2
  obtain ⟨ee, hR1⟩ := hw2
  cases ee
  refine W.lcmp hx hb dL_law_591 ?_
  refine lv_if_eq (tgt := 1222) hx hb dL_law_592 (by decide) (fun _ => ?_) (fun hne => absurd ((lg_cmp_eq _ _).mpr rfl) hne)
  exact kk H2 locs2 ω1 τ1 ⟨hP1b, hP2b, hS2, hR1⟩
theorem zl_v72 : ab_cv 13 72 10 mdX11_home := ab_cvC_ok (r := (13, 72, 10, mdX11_home, (0, 1173, 108, 1172, 1174), yX11_home, "", 0, 0)) (by decide +kernel)
theorem zl_v76 : ab_cv 13 76 11 mdX12_home := ab_cvC_ok (r := (13, 76, 11, mdX12_home, (0, 1986, 121, 1985, 1987), yX12_home, "", 0, 0)) (by decide +kernel)
set_option maxRecDepth 100000 in
set_option maxHeartbeats 4000000 in
theorem zl_c13 (hq : zl_ok RR mdX11_home mdX12_home 0) (Z : zl_Z p s m c D cs kd b L xs ad1 ad2 i ls cells slots) (hn : n0 ≤ 3072) (V : zl_V RR D cs ad1 ad2 s H locs ω τ n0) (kk : ∀ (H1 : Heap) (locs1 : List Loc) (ω' τ' : ab_S), zl_V RR D cs ad1 ad2 s H1 locs1 ω' τ' (n0 + 1) → W p l e room_1 s m #[Value.ref b] below meth c H1 locs1 cells slots Q (F0 m 1222 ls [])) : W p l e room_1 s m #[Value.ref b] below meth c H locs cells slots Q (F0 m 597 ls []) := by
  obtain ⟨C, ⟨hD1, hD2, hap⟩, ⟨hi, hL⟩, hl, hcs⟩ := Z
  obtain ⟨hP1, hP2, hS, hR⟩ := V
  have hx := C.1
  have hb := C.2.1
  have hrun := hq [] rfl (fun a ha => by cases ha) ω τ n0 hn hR
  refine lv_aload_n hx hb dL_law_597 rfl (lv_at hl 1 rfl) ?_
  refine zl_calll C hP1 hD1 hS hl.1 rfl dL_law_598 zl_g1 zl_v72 rfl rfl ⟨Nat.le_of_ble_eq_true rfl, Nat.le_of_ble_eq_true rfl⟩ (Nat.le_of_ble_eq_true rfl) hcs hrun (fun x1 ω1 H1 locs1 hw hP1a hk1 hS1 => ?_)
  have hP2a := zl_kept hP2 hap hk1
  refine lv_aload_n hx hb dL_law_601 rfl (lv_at hl 2 rfl) ?_
  refine zl_calll C hP2a hD2 hS1 hl.1 rfl dL_law_602 zl_g2 zl_v76 rfl rfl ⟨Nat.le_of_ble_eq_true rfl, Nat.le_of_ble_eq_true rfl⟩ (Nat.le_of_ble_eq_true rfl) hcs hw (fun x2 τ1 H2 locs2 hw2 hP2b hk2 hS2 => ?_)
  have hP1b := zl_kept hP1a (fun i j hi hj => (hap j i hj hi).symm) hk2
  obtain ⟨ee, hR1⟩ := hw2
  cases ee
  refine W.lcmp hx hb dL_law_605 ?_
  refine lv_if_eq (tgt := 1222) hx hb dL_law_606 (by decide) (fun _ => ?_) (fun hne => absurd ((lg_cmp_eq _ _).mpr rfl) hne)
  exact kk H2 locs2 ω1 τ1 ⟨hP1b, hP2b, hS2, hR1⟩
theorem zl_v77 : ab_cv 13 77 10 mdX11_buys := ab_cvC_ok (r := (13, 77, 10, mdX11_buys, (0, 1177, 108, 1176, 1178), yX11_buys, "", 0, 0)) (by decide +kernel)
theorem zl_v80 : ab_cv 13 80 11 mdX12_buys := ab_cvC_ok (r := (13, 80, 11, mdX12_buys, (0, 1990, 121, 1989, 1991), yX12_buys, "", 0, 0)) (by decide +kernel)
set_option maxRecDepth 100000 in
set_option maxHeartbeats 4000000 in
theorem zl_c14 (hq : zl_ok RR mdX11_buys mdX12_buys 1) (Z : zl_Z p s m c D cs kd b L xs ad1 ad2 i ls cells slots) (hn : n0 ≤ 3072) (V : zl_V RR D cs ad1 ad2 s H locs ω τ n0) (kk : ∀ (H1 : Heap) (locs1 : List Loc) (ω' τ' : ab_S), zl_V RR D cs ad1 ad2 s H1 locs1 ω' τ' (n0 + 1) → W p l e room_1 s m #[Value.ref b] below meth c H1 locs1 cells slots Q (F0 m 1222 ls [])) : W p l e room_1 s m #[Value.ref b] below meth c H locs cells slots Q (F0 m 611 ls []) := by
  obtain ⟨C, ⟨hD1, hD2, hap⟩, ⟨hi, hL⟩, hl, hcs⟩ := Z
  obtain ⟨hP1, hP2, hS, hR⟩ := V
  have hx := C.1
  have hb := C.2.1
  have hrun := hq [(xs (i + 1)).toInt] rfl (fun a ha => by
    simp only [List.mem_cons, List.not_mem_nil, or_false] at ha
    rw [ha]
    exact zl_i32 _) ω τ n0 hn hR
  refine lv_aload_n hx hb dL_law_611 rfl (lv_at hl 1 rfl) ?_
  refine zl_arg (kN := 1) C hS hl (by omega) hL (by decide) dL_law_612 dL_law_613 dL_law_614 dL_law_615 dL_law_616 ?_
  refine zl_calli C hP1 hD1 hS hl.1 (Or.inl rfl) dL_law_617 zl_g1 zl_v77 rfl rfl ⟨Nat.le_of_ble_eq_true rfl, Nat.le_of_ble_eq_true rfl⟩ (Nat.le_of_ble_eq_true rfl) hcs hrun (fun x1 ω1 H1 locs1 hw hP1a hk1 hS1 => ?_)
  have hP2a := zl_kept hP2 hap hk1
  refine lv_aload_n hx hb dL_law_620 rfl (lv_at hl 2 rfl) ?_
  refine zl_arg (kN := 1) C hS1 hl (by omega) hL (by decide) dL_law_621 dL_law_622 dL_law_623 dL_law_624 dL_law_625 ?_
  refine zl_calli C hP2a hD2 hS1 hl.1 (Or.inl rfl) dL_law_626 zl_g2 zl_v80 rfl rfl ⟨Nat.le_of_ble_eq_true rfl, Nat.le_of_ble_eq_true rfl⟩ (Nat.le_of_ble_eq_true rfl) hcs hw (fun x2 τ1 H2 locs2 hw2 hP2b hk2 hS2 => ?_)
  have hP1b := zl_kept hP1a (fun i j hi hj => (hap j i hj hi).symm) hk2
  obtain ⟨ee, hR1⟩ := hw2
  cases ee
  refine lv_icmp_eq (tgt := 1222) hx hb dL_law_629 (by decide) (fun _ => ?_) (fun hne => absurd rfl hne)
  exact kk H2 locs2 ω1 τ1 ⟨hP1b, hP2b, hS2, hR1⟩
theorem zl_v81 : ab_cv 13 81 10 mdX11_best := ab_cvC_ok (r := (13, 81, 10, mdX11_best, (0, 1181, 108, 1180, 1182), yX11_best, "", 0, 0)) (by decide +kernel)
theorem zl_v85 : ab_cv 13 85 11 mdX12_best := ab_cvC_ok (r := (13, 85, 11, mdX12_best, (0, 1994, 121, 1993, 1995), yX12_best, "", 0, 0)) (by decide +kernel)
set_option maxRecDepth 100000 in
set_option maxHeartbeats 4000000 in
theorem zl_c15 (hq : zl_ok RR mdX11_best mdX12_best 2) (Z : zl_Z p s m c D cs kd b L xs ad1 ad2 i ls cells slots) (hn : n0 ≤ 3072) (V : zl_V RR D cs ad1 ad2 s H locs ω τ n0) (kk : ∀ (H1 : Heap) (locs1 : List Loc) (ω' τ' : ab_S), zl_V RR D cs ad1 ad2 s H1 locs1 ω' τ' (n0 + 1) → W p l e room_1 s m #[Value.ref b] below meth c H1 locs1 cells slots Q (F0 m 1222 ls [])) : W p l e room_1 s m #[Value.ref b] below meth c H locs cells slots Q (F0 m 634 ls []) := by
  obtain ⟨C, ⟨hD1, hD2, hap⟩, ⟨hi, hL⟩, hl, hcs⟩ := Z
  obtain ⟨hP1, hP2, hS, hR⟩ := V
  have hx := C.1
  have hb := C.2.1
  have hrun := hq [(xs (i + 1)).toInt, (xs (i + 2)).toInt] rfl (fun a ha => by
    simp only [List.mem_cons, List.not_mem_nil, or_false] at ha
    rcases ha with rfl | rfl <;> exact zl_i32 _) ω τ n0 hn hR
  refine lv_aload_n hx hb dL_law_634 rfl (lv_at hl 1 rfl) ?_
  refine zl_arg (kN := 1) C hS hl (by omega) hL (by decide) dL_law_635 dL_law_636 dL_law_637 dL_law_638 dL_law_639 ?_
  refine zl_arg (kN := 2) C hS hl (by omega) hL (by decide) dL_law_640 dL_law_641 dL_law_642 dL_law_643 dL_law_644 ?_
  refine zl_calll C hP1 hD1 hS hl.1 rfl dL_law_645 zl_g1 zl_v81 rfl rfl ⟨Nat.le_of_ble_eq_true rfl, Nat.le_of_ble_eq_true rfl⟩ (Nat.le_of_ble_eq_true rfl) hcs hrun (fun x1 ω1 H1 locs1 hw hP1a hk1 hS1 => ?_)
  have hP2a := zl_kept hP2 hap hk1
  refine lv_aload_n hx hb dL_law_648 rfl (lv_at hl 2 rfl) ?_
  refine zl_arg (kN := 1) C hS1 hl (by omega) hL (by decide) dL_law_649 dL_law_650 dL_law_651 dL_law_652 dL_law_653 ?_
  refine zl_arg (kN := 2) C hS1 hl (by omega) hL (by decide) dL_law_654 dL_law_655 dL_law_656 dL_law_657 dL_law_658 ?_
  refine zl_calll C hP2a hD2 hS1 hl.1 rfl dL_law_659 zl_g2 zl_v85 rfl rfl ⟨Nat.le_of_ble_eq_true rfl, Nat.le_of_ble_eq_true rfl⟩ (Nat.le_of_ble_eq_true rfl) hcs hw (fun x2 τ1 H2 locs2 hw2 hP2b hk2 hS2 => ?_)
  have hP1b := zl_kept hP1a (fun i j hi hj => (hap j i hj hi).symm) hk2
  obtain ⟨ee, hR1⟩ := hw2
  cases ee
  refine W.lcmp hx hb dL_law_662 ?_
  refine lv_if_eq (tgt := 1222) hx hb dL_law_663 (by decide) (fun _ => ?_) (fun hne => absurd ((lg_cmp_eq _ _).mpr rfl) hne)
  exact kk H2 locs2 ω1 τ1 ⟨hP1b, hP2b, hS2, hR1⟩
theorem zl_v86 : ab_cv 13 86 10 mdX11_rest := ab_cvC_ok (r := (13, 86, 10, mdX11_rest, (0, 1222, 108, 1221, 1223), yX11_rest, "", 0, 0)) (by decide +kernel)
theorem zl_v89 : ab_cv 13 89 11 mdX12_rest := ab_cvC_ok (r := (13, 89, 11, mdX12_rest, (0, 2010, 121, 2009, 2011), yX12_rest, "", 0, 0)) (by decide +kernel)
set_option maxRecDepth 100000 in
set_option maxHeartbeats 4000000 in
theorem zl_c16 (hq : zl_ok RR mdX11_rest mdX12_rest 0) (Z : zl_Z p s m c D cs kd b L xs ad1 ad2 i ls cells slots) (hn : n0 ≤ 3072) (V : zl_V RR D cs ad1 ad2 s H locs ω τ n0) (kk : ∀ (H1 : Heap) (locs1 : List Loc) (ω' τ' : ab_S), zl_V RR D cs ad1 ad2 s H1 locs1 ω' τ' (n0 + 1) → W p l e room_1 s m #[Value.ref b] below meth c H1 locs1 cells slots Q (F0 m 1222 ls [])) : W p l e room_1 s m #[Value.ref b] below meth c H locs cells slots Q (F0 m 668 ls []) := by
  obtain ⟨C, ⟨hD1, hD2, hap⟩, ⟨hi, hL⟩, hl, hcs⟩ := Z
  obtain ⟨hP1, hP2, hS, hR⟩ := V
  have hx := C.1
  have hb := C.2.1
  have hrun := hq [] rfl (fun a ha => by cases ha) ω τ n0 hn hR
  refine lv_aload_n hx hb dL_law_668 rfl (lv_at hl 1 rfl) ?_
  refine zl_calli C hP1 hD1 hS hl.1 (Or.inl rfl) dL_law_669 zl_g1 zl_v86 rfl rfl ⟨Nat.le_of_ble_eq_true rfl, Nat.le_of_ble_eq_true rfl⟩ (Nat.le_of_ble_eq_true rfl) hcs hrun (fun x1 ω1 H1 locs1 hw hP1a hk1 hS1 => ?_)
  have hP2a := zl_kept hP2 hap hk1
  refine lv_aload_n hx hb dL_law_672 rfl (lv_at hl 2 rfl) ?_
  refine zl_calli C hP2a hD2 hS1 hl.1 (Or.inl rfl) dL_law_673 zl_g2 zl_v89 rfl rfl ⟨Nat.le_of_ble_eq_true rfl, Nat.le_of_ble_eq_true rfl⟩ (Nat.le_of_ble_eq_true rfl) hcs hw (fun x2 τ1 H2 locs2 hw2 hP2b hk2 hS2 => ?_)
  have hP1b := zl_kept hP1a (fun i j hi hj => (hap j i hj hi).symm) hk2
  obtain ⟨ee, hR1⟩ := hw2
  cases ee
  refine lv_icmp_eq (tgt := 1222) hx hb dL_law_676 (by decide) (fun _ => ?_) (fun hne => absurd rfl hne)
  exact kk H2 locs2 ω1 τ1 ⟨hP1b, hP2b, hS2, hR1⟩
theorem zl_v90 : ab_cv 13 90 10 mdX11_turn := ab_cvC_ok (r := (13, 90, 10, mdX11_turn, (0, 1231, 108, 1230, 1232), yX11_turn, "", 0, 0)) (by decide +kernel)
theorem zl_v93 : ab_cv 13 93 11 mdX12_turn := ab_cvC_ok (r := (13, 93, 11, mdX12_turn, (0, 2014, 121, 2013, 2015), yX12_turn, "", 0, 0)) (by decide +kernel)
set_option maxRecDepth 100000 in
set_option maxHeartbeats 4000000 in
theorem zl_c17 (hq : zl_ok RR mdX11_turn mdX12_turn 1) (Z : zl_Z p s m c D cs kd b L xs ad1 ad2 i ls cells slots) (hn : n0 ≤ 3072) (V : zl_V RR D cs ad1 ad2 s H locs ω τ n0) (kk : ∀ (H1 : Heap) (locs1 : List Loc) (ω' τ' : ab_S), zl_V RR D cs ad1 ad2 s H1 locs1 ω' τ' (n0 + 1) → W p l e room_1 s m #[Value.ref b] below meth c H1 locs1 cells slots Q (F0 m 1222 ls [])) : W p l e room_1 s m #[Value.ref b] below meth c H locs cells slots Q (F0 m 681 ls []) := by
  obtain ⟨C, ⟨hD1, hD2, hap⟩, ⟨hi, hL⟩, hl, hcs⟩ := Z
  obtain ⟨hP1, hP2, hS, hR⟩ := V
  have hx := C.1
  have hb := C.2.1
  have hrun := hq [(xs (i + 1)).toInt] rfl (fun a ha => by
    simp only [List.mem_cons, List.not_mem_nil, or_false] at ha
    rw [ha]
    exact zl_i32 _) ω τ n0 hn hR
  refine lv_aload_n hx hb dL_law_681 rfl (lv_at hl 1 rfl) ?_
  refine zl_arg (kN := 1) C hS hl (by omega) hL (by decide) dL_law_682 dL_law_683 dL_law_684 dL_law_685 dL_law_686 ?_
  refine zl_calli C hP1 hD1 hS hl.1 (Or.inr rfl) dL_law_687 zl_g1 zl_v90 rfl rfl ⟨Nat.le_of_ble_eq_true rfl, Nat.le_of_ble_eq_true rfl⟩ (Nat.le_of_ble_eq_true rfl) hcs hrun (fun x1 ω1 H1 locs1 hw hP1a hk1 hS1 => ?_)
  have hP2a := zl_kept hP2 hap hk1
  refine lv_aload_n hx hb dL_law_690 rfl (lv_at hl 2 rfl) ?_
  refine zl_arg (kN := 1) C hS1 hl (by omega) hL (by decide) dL_law_691 dL_law_692 dL_law_693 dL_law_694 dL_law_695 ?_
  refine zl_calli C hP2a hD2 hS1 hl.1 (Or.inr rfl) dL_law_696 zl_g2 zl_v93 rfl rfl ⟨Nat.le_of_ble_eq_true rfl, Nat.le_of_ble_eq_true rfl⟩ (Nat.le_of_ble_eq_true rfl) hcs hw (fun x2 τ1 H2 locs2 hw2 hP2b hk2 hS2 => ?_)
  have hP1b := zl_kept hP1a (fun i j hi hj => (hap j i hj hi).symm) hk2
  obtain ⟨ee, hR1⟩ := hw2
  cases ee
  refine lv_icmp_eq (tgt := 1222) hx hb dL_law_699 (by decide) (fun _ => ?_) (fun hne => absurd rfl hne)
  exact kk H2 locs2 ω1 τ1 ⟨hP1b, hP2b, hS2, hR1⟩
theorem zl_v94 : ab_cv 13 94 10 mdX11_chase := ab_cvC_ok (r := (13, 94, 10, mdX11_chase, (0, 1235, 108, 1234, 1236), yX11_chase, "", 0, 0)) (by decide +kernel)
theorem zl_v97 : ab_cv 13 97 11 mdX12_chase := ab_cvC_ok (r := (13, 97, 11, mdX12_chase, (0, 2018, 121, 2017, 2019), yX12_chase, "", 0, 0)) (by decide +kernel)
set_option maxRecDepth 100000 in
set_option maxHeartbeats 4000000 in
theorem zl_c18 (hq : zl_ok RR mdX11_chase mdX12_chase 2) (Z : zl_Z p s m c D cs kd b L xs ad1 ad2 i ls cells slots) (hn : n0 ≤ 3072) (V : zl_V RR D cs ad1 ad2 s H locs ω τ n0) (kk : ∀ (H1 : Heap) (locs1 : List Loc) (ω' τ' : ab_S), zl_V RR D cs ad1 ad2 s H1 locs1 ω' τ' (n0 + 1) → W p l e room_1 s m #[Value.ref b] below meth c H1 locs1 cells slots Q (F0 m 1222 ls [])) : W p l e room_1 s m #[Value.ref b] below meth c H locs cells slots Q (F0 m 704 ls []) := by
  obtain ⟨C, ⟨hD1, hD2, hap⟩, ⟨hi, hL⟩, hl, hcs⟩ := Z
  obtain ⟨hP1, hP2, hS, hR⟩ := V
  have hx := C.1
  have hb := C.2.1
  have hrun := hq [(xs (i + 1)).toInt, (xs (i + 2)).toInt] rfl (fun a ha => by
    simp only [List.mem_cons, List.not_mem_nil, or_false] at ha
    rcases ha with rfl | rfl <;> exact zl_i32 _) ω τ n0 hn hR
  refine lv_aload_n hx hb dL_law_704 rfl (lv_at hl 1 rfl) ?_
  refine zl_arg (kN := 1) C hS hl (by omega) hL (by decide) dL_law_705 dL_law_706 dL_law_707 dL_law_708 dL_law_709 ?_
  refine zl_arg (kN := 2) C hS hl (by omega) hL (by decide) dL_law_710 dL_law_711 dL_law_712 dL_law_713 dL_law_714 ?_
  refine zl_calli C hP1 hD1 hS hl.1 (Or.inl rfl) dL_law_715 zl_g1 zl_v94 rfl rfl ⟨Nat.le_of_ble_eq_true rfl, Nat.le_of_ble_eq_true rfl⟩ (Nat.le_of_ble_eq_true rfl) hcs hrun (fun x1 ω1 H1 locs1 hw hP1a hk1 hS1 => ?_)
  have hP2a := zl_kept hP2 hap hk1
  refine lv_aload_n hx hb dL_law_718 rfl (lv_at hl 2 rfl) ?_
  refine zl_arg (kN := 1) C hS1 hl (by omega) hL (by decide) dL_law_719 dL_law_720 dL_law_721 dL_law_722 dL_law_723 ?_
  refine zl_arg (kN := 2) C hS1 hl (by omega) hL (by decide) dL_law_724 dL_law_725 dL_law_726 dL_law_727 dL_law_728 ?_
  refine zl_calli C hP2a hD2 hS1 hl.1 (Or.inl rfl) dL_law_729 zl_g2 zl_v97 rfl rfl ⟨Nat.le_of_ble_eq_true rfl, Nat.le_of_ble_eq_true rfl⟩ (Nat.le_of_ble_eq_true rfl) hcs hw (fun x2 τ1 H2 locs2 hw2 hP2b hk2 hS2 => ?_)
  have hP1b := zl_kept hP1a (fun i j hi hj => (hap j i hj hi).symm) hk2
  obtain ⟨ee, hR1⟩ := hw2
  cases ee
  refine lv_icmp_eq (tgt := 1222) hx hb dL_law_732 (by decide) (fun _ => ?_) (fun hne => absurd rfl hne)
  exact kk H2 locs2 ω1 τ1 ⟨hP1b, hP2b, hS2, hR1⟩
theorem zl_v98 : ab_cv 13 98 10 mdX11_rests := ab_cvC_ok (r := (13, 98, 10, mdX11_rests, (0, 1261, 108, 1260, 1262), yX11_rests, "", 0, 0)) (by decide +kernel)
theorem zl_v102 : ab_cv 13 102 11 mdX12_rests := ab_cvC_ok (r := (13, 102, 11, mdX12_rests, (0, 2031, 121, 2030, 2032), yX12_rests, "", 0, 0)) (by decide +kernel)
set_option maxRecDepth 100000 in
set_option maxHeartbeats 4000000 in
theorem zl_c19 (hq : zl_ok RR mdX11_rests mdX12_rests 4) (Z : zl_Z p s m c D cs kd b L xs ad1 ad2 i ls cells slots) (hn : n0 ≤ 3072) (V : zl_V RR D cs ad1 ad2 s H locs ω τ n0) (kk : ∀ (H1 : Heap) (locs1 : List Loc) (ω' τ' : ab_S), zl_V RR D cs ad1 ad2 s H1 locs1 ω' τ' (n0 + 1) → W p l e room_1 s m #[Value.ref b] below meth c H1 locs1 cells slots Q (F0 m 1222 ls [])) : W p l e room_1 s m #[Value.ref b] below meth c H locs cells slots Q (F0 m 737 ls []) := by
  obtain ⟨C, ⟨hD1, hD2, hap⟩, ⟨hi, hL⟩, hl, hcs⟩ := Z
  obtain ⟨hP1, hP2, hS, hR⟩ := V
  have hx := C.1
  have hb := C.2.1
  have hrun := hq [(xs (i + 1)).toInt, (xs (i + 2)).toInt, (xs (i + 3)).toInt, (xs (i + 4)).toInt] rfl (fun a ha => by
    simp only [List.mem_cons, List.not_mem_nil, or_false] at ha
    rcases ha with rfl | rfl | rfl | rfl <;> exact zl_i32 _) ω τ n0 hn hR
  refine lv_aload_n hx hb dL_law_737 rfl (lv_at hl 1 rfl) ?_
  refine zl_arg (kN := 1) C hS hl (by omega) hL (by decide) dL_law_738 dL_law_739 dL_law_740 dL_law_741 dL_law_742 ?_
  refine zl_arg (kN := 2) C hS hl (by omega) hL (by decide) dL_law_743 dL_law_744 dL_law_745 dL_law_746 dL_law_747 ?_
  refine zl_arg (kN := 3) C hS hl (by omega) hL (by decide) dL_law_748 dL_law_749 dL_law_750 dL_law_751 dL_law_752 ?_
  refine zl_arg (kN := 4) C hS hl (by omega) hL (by decide) dL_law_753 dL_law_754 dL_law_755 dL_law_756 dL_law_757 ?_
  refine zl_calli C hP1 hD1 hS hl.1 (Or.inl rfl) dL_law_758 zl_g1 zl_v98 rfl rfl ⟨Nat.le_of_ble_eq_true rfl, Nat.le_of_ble_eq_true rfl⟩ (Nat.le_of_ble_eq_true rfl) hcs hrun (fun x1 ω1 H1 locs1 hw hP1a hk1 hS1 => ?_)
  have hP2a := zl_kept hP2 hap hk1
  refine lv_aload_n hx hb dL_law_761 rfl (lv_at hl 2 rfl) ?_
  refine zl_arg (kN := 1) C hS1 hl (by omega) hL (by decide) dL_law_762 dL_law_763 dL_law_764 dL_law_765 dL_law_766 ?_
  refine zl_arg (kN := 2) C hS1 hl (by omega) hL (by decide) dL_law_767 dL_law_768 dL_law_769 dL_law_770 dL_law_771 ?_
  refine zl_arg (kN := 3) C hS1 hl (by omega) hL (by decide) dL_law_772 dL_law_773 dL_law_774 dL_law_775 dL_law_776 ?_
  refine zl_arg (kN := 4) C hS1 hl (by omega) hL (by decide) dL_law_777 dL_law_778 dL_law_779 dL_law_780 dL_law_781 ?_
  refine zl_calli C hP2a hD2 hS1 hl.1 (Or.inl rfl) dL_law_782 zl_g2 zl_v102 rfl rfl ⟨Nat.le_of_ble_eq_true rfl, Nat.le_of_ble_eq_true rfl⟩ (Nat.le_of_ble_eq_true rfl) hcs hw (fun x2 τ1 H2 locs2 hw2 hP2b hk2 hS2 => ?_)
  have hP1b := zl_kept hP1a (fun i j hi hj => (hap j i hj hi).symm) hk2
  obtain ⟨ee, hR1⟩ := hw2
  cases ee
  refine lv_icmp_eq (tgt := 1222) hx hb dL_law_785 (by decide) (fun _ => ?_) (fun hne => absurd rfl hne)
  exact kk H2 locs2 ω1 τ1 ⟨hP1b, hP2b, hS2, hR1⟩
theorem zl_v103 : ab_cv 13 103 10 mdX11_lots := ab_cvC_ok (r := (13, 103, 10, mdX11_lots, (0, 1303, 108, 1302, 1304), yX11_lots, "", 0, 0)) (by decide +kernel)
theorem zl_v107 : ab_cv 13 107 11 mdX12_lots := ab_cvC_ok (r := (13, 107, 11, mdX12_lots, (0, 2058, 121, 2057, 2059), yX12_lots, "", 0, 0)) (by decide +kernel)
set_option maxRecDepth 100000 in
set_option maxHeartbeats 4000000 in
theorem zl_c20 (hq : zl_ok RR mdX11_lots mdX12_lots 5) (Z : zl_Z p s m c D cs kd b L xs ad1 ad2 i ls cells slots) (hn : n0 ≤ 3072) (V : zl_V RR D cs ad1 ad2 s H locs ω τ n0) (kk : ∀ (H1 : Heap) (locs1 : List Loc) (ω' τ' : ab_S), zl_V RR D cs ad1 ad2 s H1 locs1 ω' τ' (n0 + 1) → W p l e room_1 s m #[Value.ref b] below meth c H1 locs1 cells slots Q (F0 m 1222 ls [])) : W p l e room_1 s m #[Value.ref b] below meth c H locs cells slots Q (F0 m 790 ls []) := by
  obtain ⟨C, ⟨hD1, hD2, hap⟩, ⟨hi, hL⟩, hl, hcs⟩ := Z
  obtain ⟨hP1, hP2, hS, hR⟩ := V
  have hx := C.1
  have hb := C.2.1
  have hrun := hq [(xs (i + 1)).toInt, (xs (i + 2)).toInt, (xs (i + 3)).toInt, (xs (i + 4)).toInt, (xs (i + 5)).toInt] rfl (fun a ha => by
    simp only [List.mem_cons, List.not_mem_nil, or_false] at ha
    rcases ha with rfl | rfl | rfl | rfl | rfl <;> exact zl_i32 _) ω τ n0 hn hR
  refine lv_aload_n hx hb dL_law_790 rfl (lv_at hl 1 rfl) ?_
  refine zl_arg (kN := 1) C hS hl (by omega) hL (by decide) dL_law_791 dL_law_792 dL_law_793 dL_law_794 dL_law_795 ?_
  refine zl_arg (kN := 2) C hS hl (by omega) hL (by decide) dL_law_796 dL_law_797 dL_law_798 dL_law_799 dL_law_800 ?_
  refine zl_arg (kN := 3) C hS hl (by omega) hL (by decide) dL_law_801 dL_law_802 dL_law_803 dL_law_804 dL_law_805 ?_
  refine zl_arg (kN := 4) C hS hl (by omega) hL (by decide) dL_law_806 dL_law_807 dL_law_808 dL_law_809 dL_law_810 ?_
  refine zl_arg (kN := 5) C hS hl (by omega) hL (by decide) dL_law_811 dL_law_812 dL_law_813 dL_law_814 dL_law_815 ?_
  refine zl_calll C hP1 hD1 hS hl.1 rfl dL_law_816 zl_g1 zl_v103 rfl rfl ⟨Nat.le_of_ble_eq_true rfl, Nat.le_of_ble_eq_true rfl⟩ (Nat.le_of_ble_eq_true rfl) hcs hrun (fun x1 ω1 H1 locs1 hw hP1a hk1 hS1 => ?_)
  have hP2a := zl_kept hP2 hap hk1
  refine lv_aload_n hx hb dL_law_819 rfl (lv_at hl 2 rfl) ?_
  refine zl_arg (kN := 1) C hS1 hl (by omega) hL (by decide) dL_law_820 dL_law_821 dL_law_822 dL_law_823 dL_law_824 ?_
  refine zl_arg (kN := 2) C hS1 hl (by omega) hL (by decide) dL_law_825 dL_law_826 dL_law_827 dL_law_828 dL_law_829 ?_
  refine zl_arg (kN := 3) C hS1 hl (by omega) hL (by decide) dL_law_830 dL_law_831 dL_law_832 dL_law_833 dL_law_834 ?_
  refine zl_arg (kN := 4) C hS1 hl (by omega) hL (by decide) dL_law_835 dL_law_836 dL_law_837 dL_law_838 dL_law_839 ?_
  refine zl_arg (kN := 5) C hS1 hl (by omega) hL (by decide) dL_law_840 dL_law_841 dL_law_842 dL_law_843 dL_law_844 ?_
  refine zl_calll C hP2a hD2 hS1 hl.1 rfl dL_law_845 zl_g2 zl_v107 rfl rfl ⟨Nat.le_of_ble_eq_true rfl, Nat.le_of_ble_eq_true rfl⟩ (Nat.le_of_ble_eq_true rfl) hcs hw (fun x2 τ1 H2 locs2 hw2 hP2b hk2 hS2 => ?_)
  have hP1b := zl_kept hP1a (fun i j hi hj => (hap j i hj hi).symm) hk2
  obtain ⟨ee, hR1⟩ := hw2
  cases ee
  refine W.lcmp hx hb dL_law_848 ?_
  refine lv_if_eq (tgt := 1222) hx hb dL_law_849 (by decide) (fun _ => ?_) (fun hne => absurd ((lg_cmp_eq _ _).mpr rfl) hne)
  exact kk H2 locs2 ω1 τ1 ⟨hP1b, hP2b, hS2, hR1⟩
theorem zl_v108 : ab_cv 13 108 10 mdX11_lead := ab_cvC_ok (r := (13, 108, 10, mdX11_lead, (0, 1330, 108, 1329, 1331), yX11_lead, "", 0, 0)) (by decide +kernel)
theorem zl_v112 : ab_cv 13 112 11 mdX12_lead := ab_cvC_ok (r := (13, 112, 11, mdX12_lead, (0, 2073, 121, 2072, 2074), yX12_lead, "", 0, 0)) (by decide +kernel)
set_option maxRecDepth 100000 in
set_option maxHeartbeats 4000000 in
theorem zl_c21 (hq : zl_ok RR mdX11_lead mdX12_lead 3) (Z : zl_Z p s m c D cs kd b L xs ad1 ad2 i ls cells slots) (hn : n0 ≤ 3072) (V : zl_V RR D cs ad1 ad2 s H locs ω τ n0) (kk : ∀ (H1 : Heap) (locs1 : List Loc) (ω' τ' : ab_S), zl_V RR D cs ad1 ad2 s H1 locs1 ω' τ' (n0 + 1) → W p l e room_1 s m #[Value.ref b] below meth c H1 locs1 cells slots Q (F0 m 1222 ls [])) : W p l e room_1 s m #[Value.ref b] below meth c H locs cells slots Q (F0 m 854 ls []) := by
  obtain ⟨C, ⟨hD1, hD2, hap⟩, ⟨hi, hL⟩, hl, hcs⟩ := Z
  obtain ⟨hP1, hP2, hS, hR⟩ := V
  have hx := C.1
  have hb := C.2.1
  have hrun := hq [(xs (i + 1)).toInt, (xs (i + 2)).toInt, (xs (i + 3)).toInt] rfl (fun a ha => by
    simp only [List.mem_cons, List.not_mem_nil, or_false] at ha
    rcases ha with rfl | rfl | rfl <;> exact zl_i32 _) ω τ n0 hn hR
  refine lv_aload_n hx hb dL_law_854 rfl (lv_at hl 1 rfl) ?_
  refine zl_arg (kN := 1) C hS hl (by omega) hL (by decide) dL_law_855 dL_law_856 dL_law_857 dL_law_858 dL_law_859 ?_
  refine zl_arg (kN := 2) C hS hl (by omega) hL (by decide) dL_law_860 dL_law_861 dL_law_862 dL_law_863 dL_law_864 ?_
  refine zl_arg (kN := 3) C hS hl (by omega) hL (by decide) dL_law_865 dL_law_866 dL_law_867 dL_law_868 dL_law_869 ?_
  refine zl_calll C hP1 hD1 hS hl.1 rfl dL_law_870 zl_g1 zl_v108 rfl rfl ⟨Nat.le_of_ble_eq_true rfl, Nat.le_of_ble_eq_true rfl⟩ (Nat.le_of_ble_eq_true rfl) hcs hrun (fun x1 ω1 H1 locs1 hw hP1a hk1 hS1 => ?_)
  have hP2a := zl_kept hP2 hap hk1
  refine lv_aload_n hx hb dL_law_873 rfl (lv_at hl 2 rfl) ?_
  refine zl_arg (kN := 1) C hS1 hl (by omega) hL (by decide) dL_law_874 dL_law_875 dL_law_876 dL_law_877 dL_law_878 ?_
  refine zl_arg (kN := 2) C hS1 hl (by omega) hL (by decide) dL_law_879 dL_law_880 dL_law_881 dL_law_882 dL_law_883 ?_
  refine zl_arg (kN := 3) C hS1 hl (by omega) hL (by decide) dL_law_884 dL_law_885 dL_law_886 dL_law_887 dL_law_888 ?_
  refine zl_calll C hP2a hD2 hS1 hl.1 rfl dL_law_889 zl_g2 zl_v112 rfl rfl ⟨Nat.le_of_ble_eq_true rfl, Nat.le_of_ble_eq_true rfl⟩ (Nat.le_of_ble_eq_true rfl) hcs hw (fun x2 τ1 H2 locs2 hw2 hP2b hk2 hS2 => ?_)
  have hP1b := zl_kept hP1a (fun i j hi hj => (hap j i hj hi).symm) hk2
  obtain ⟨ee, hR1⟩ := hw2
  cases ee
  refine W.lcmp hx hb dL_law_892 ?_
  refine lv_if_eq (tgt := 1222) hx hb dL_law_893 (by decide) (fun _ => ?_) (fun hne => absurd ((lg_cmp_eq _ _).mpr rfl) hne)
  exact kk H2 locs2 ω1 τ1 ⟨hP1b, hP2b, hS2, hR1⟩
theorem zl_v113 : ab_cv 13 113 10 mdX11_prices := ab_cvC_ok (r := (13, 113, 10, mdX11_prices, (0, 1349, 108, 1348, 1350), yX11_prices, "", 0, 0)) (by decide +kernel)
theorem zl_v117 : ab_cv 13 117 11 mdX12_prices := ab_cvC_ok (r := (13, 117, 11, mdX12_prices, (0, 2086, 121, 2085, 2087), yX12_prices, "", 0, 0)) (by decide +kernel)
set_option maxRecDepth 100000 in
set_option maxHeartbeats 4000000 in
theorem zl_c22 (hq : zl_ok RR mdX11_prices mdX12_prices 3) (Z : zl_Z p s m c D cs kd b L xs ad1 ad2 i ls cells slots) (hn : n0 ≤ 3072) (V : zl_V RR D cs ad1 ad2 s H locs ω τ n0) (kk : ∀ (H1 : Heap) (locs1 : List Loc) (ω' τ' : ab_S), zl_V RR D cs ad1 ad2 s H1 locs1 ω' τ' (n0 + 1) → W p l e room_1 s m #[Value.ref b] below meth c H1 locs1 cells slots Q (F0 m 1222 ls [])) : W p l e room_1 s m #[Value.ref b] below meth c H locs cells slots Q (F0 m 898 ls []) := by
  obtain ⟨C, ⟨hD1, hD2, hap⟩, ⟨hi, hL⟩, hl, hcs⟩ := Z
  obtain ⟨hP1, hP2, hS, hR⟩ := V
  have hx := C.1
  have hb := C.2.1
  have hrun := hq [(xs (i + 1)).toInt, (xs (i + 2)).toInt, (xs (i + 3)).toInt] rfl (fun a ha => by
    simp only [List.mem_cons, List.not_mem_nil, or_false] at ha
    rcases ha with rfl | rfl | rfl <;> exact zl_i32 _) ω τ n0 hn hR
  refine lv_aload_n hx hb dL_law_898 rfl (lv_at hl 1 rfl) ?_
  refine zl_arg (kN := 1) C hS hl (by omega) hL (by decide) dL_law_899 dL_law_900 dL_law_901 dL_law_902 dL_law_903 ?_
  refine zl_arg (kN := 2) C hS hl (by omega) hL (by decide) dL_law_904 dL_law_905 dL_law_906 dL_law_907 dL_law_908 ?_
  refine zl_arg (kN := 3) C hS hl (by omega) hL (by decide) dL_law_909 dL_law_910 dL_law_911 dL_law_912 dL_law_913 ?_
  refine zl_calli C hP1 hD1 hS hl.1 (Or.inl rfl) dL_law_914 zl_g1 zl_v113 rfl rfl ⟨Nat.le_of_ble_eq_true rfl, Nat.le_of_ble_eq_true rfl⟩ (Nat.le_of_ble_eq_true rfl) hcs hrun (fun x1 ω1 H1 locs1 hw hP1a hk1 hS1 => ?_)
  have hP2a := zl_kept hP2 hap hk1
  refine lv_aload_n hx hb dL_law_917 rfl (lv_at hl 2 rfl) ?_
  refine zl_arg (kN := 1) C hS1 hl (by omega) hL (by decide) dL_law_918 dL_law_919 dL_law_920 dL_law_921 dL_law_922 ?_
  refine zl_arg (kN := 2) C hS1 hl (by omega) hL (by decide) dL_law_923 dL_law_924 dL_law_925 dL_law_926 dL_law_927 ?_
  refine zl_arg (kN := 3) C hS1 hl (by omega) hL (by decide) dL_law_928 dL_law_929 dL_law_930 dL_law_931 dL_law_932 ?_
  refine zl_calli C hP2a hD2 hS1 hl.1 (Or.inl rfl) dL_law_933 zl_g2 zl_v117 rfl rfl ⟨Nat.le_of_ble_eq_true rfl, Nat.le_of_ble_eq_true rfl⟩ (Nat.le_of_ble_eq_true rfl) hcs hw (fun x2 τ1 H2 locs2 hw2 hP2b hk2 hS2 => ?_)
  have hP1b := zl_kept hP1a (fun i j hi hj => (hap j i hj hi).symm) hk2
  obtain ⟨ee, hR1⟩ := hw2
  cases ee
  refine lv_icmp_eq (tgt := 1222) hx hb dL_law_936 (by decide) (fun _ => ?_) (fun hne => absurd rfl hne)
  exact kk H2 locs2 ω1 τ1 ⟨hP1b, hP2b, hS2, hR1⟩
theorem zl_v118 : ab_cv 13 118 10 mdX11_stage := ab_cvC_ok (r := (13, 118, 10, mdX11_stage, (0, 1373, 108, 1372, 1374), yX11_stage, "", 0, 0)) (by decide +kernel)
theorem zl_v121 : ab_cv 13 121 11 mdX12_stage := ab_cvC_ok (r := (13, 121, 11, mdX12_stage, (0, 2102, 121, 2101, 2103), yX12_stage, "", 0, 0)) (by decide +kernel)
set_option maxRecDepth 100000 in
set_option maxHeartbeats 4000000 in
theorem zl_c23 (hq : zl_ok RR mdX11_stage mdX12_stage 5) (Z : zl_Z p s m c D cs kd b L xs ad1 ad2 i ls cells slots) (hn : n0 ≤ 3072) (V : zl_V RR D cs ad1 ad2 s H locs ω τ n0) (kk : ∀ (H1 : Heap) (locs1 : List Loc) (ω' τ' : ab_S), zl_V RR D cs ad1 ad2 s H1 locs1 ω' τ' (n0 + 1) → W p l e room_1 s m #[Value.ref b] below meth c H1 locs1 cells slots Q (F0 m 1222 ls [])) : W p l e room_1 s m #[Value.ref b] below meth c H locs cells slots Q (F0 m 941 ls []) := by
  obtain ⟨C, ⟨hD1, hD2, hap⟩, ⟨hi, hL⟩, hl, hcs⟩ := Z
  obtain ⟨hP1, hP2, hS, hR⟩ := V
  have hx := C.1
  have hb := C.2.1
  have hrun := hq [(xs (i + 1)).toInt, (xs (i + 2)).toInt, (xs (i + 3)).toInt, (xs (i + 4)).toInt, (xs (i + 5)).toInt] rfl (fun a ha => by
    simp only [List.mem_cons, List.not_mem_nil, or_false] at ha
    rcases ha with rfl | rfl | rfl | rfl | rfl <;> exact zl_i32 _) ω τ n0 hn hR
  refine lv_aload_n hx hb dL_law_941 rfl (lv_at hl 1 rfl) ?_
  refine zl_arg (kN := 1) C hS hl (by omega) hL (by decide) dL_law_942 dL_law_943 dL_law_944 dL_law_945 dL_law_946 ?_
  refine zl_arg (kN := 2) C hS hl (by omega) hL (by decide) dL_law_947 dL_law_948 dL_law_949 dL_law_950 dL_law_951 ?_
  refine zl_arg (kN := 3) C hS hl (by omega) hL (by decide) dL_law_952 dL_law_953 dL_law_954 dL_law_955 dL_law_956 ?_
  refine zl_arg (kN := 4) C hS hl (by omega) hL (by decide) dL_law_957 dL_law_958 dL_law_959 dL_law_960 dL_law_961 ?_
  refine zl_arg (kN := 5) C hS hl (by omega) hL (by decide) dL_law_962 dL_law_963 dL_law_964 dL_law_965 dL_law_966 ?_
  refine zl_calli C hP1 hD1 hS hl.1 (Or.inl rfl) dL_law_967 zl_g1 zl_v118 rfl rfl ⟨Nat.le_of_ble_eq_true rfl, Nat.le_of_ble_eq_true rfl⟩ (Nat.le_of_ble_eq_true rfl) hcs hrun (fun x1 ω1 H1 locs1 hw hP1a hk1 hS1 => ?_)
  have hP2a := zl_kept hP2 hap hk1
  refine lv_aload_n hx hb dL_law_970 rfl (lv_at hl 2 rfl) ?_
  refine zl_arg (kN := 1) C hS1 hl (by omega) hL (by decide) dL_law_971 dL_law_972 dL_law_973 dL_law_974 dL_law_975 ?_
  refine zl_arg (kN := 2) C hS1 hl (by omega) hL (by decide) dL_law_976 dL_law_977 dL_law_978 dL_law_979 dL_law_980 ?_
  refine zl_arg (kN := 3) C hS1 hl (by omega) hL (by decide) dL_law_981 dL_law_982 dL_law_983 dL_law_984 dL_law_985 ?_
  refine zl_arg (kN := 4) C hS1 hl (by omega) hL (by decide) dL_law_986 dL_law_987 dL_law_988 dL_law_989 dL_law_990 ?_
  refine zl_arg (kN := 5) C hS1 hl (by omega) hL (by decide) dL_law_991 dL_law_992 dL_law_993 dL_law_994 dL_law_995 ?_
  refine zl_calli C hP2a hD2 hS1 hl.1 (Or.inl rfl) dL_law_996 zl_g2 zl_v121 rfl rfl ⟨Nat.le_of_ble_eq_true rfl, Nat.le_of_ble_eq_true rfl⟩ (Nat.le_of_ble_eq_true rfl) hcs hw (fun x2 τ1 H2 locs2 hw2 hP2b hk2 hS2 => ?_)
  have hP1b := zl_kept hP1a (fun i j hi hj => (hap j i hj hi).symm) hk2
  obtain ⟨ee, hR1⟩ := hw2
  cases ee
  refine lv_icmp_eq (tgt := 1222) hx hb dL_law_999 (by decide) (fun _ => ?_) (fun hne => absurd rfl hne)
  exact kk H2 locs2 ω1 τ1 ⟨hP1b, hP2b, hS2, hR1⟩
theorem zl_v122 : ab_cv 13 122 10 mdX11_walk := ab_cvC_ok (r := (13, 122, 10, mdX11_walk, (0, 1390, 108, 1389, 1391), yX11_walk, "", 0, 0)) (by decide +kernel)
theorem zl_v125 : ab_cv 13 125 11 mdX12_walk := ab_cvC_ok (r := (13, 125, 11, mdX12_walk, (0, 2106, 121, 2105, 2107), yX12_walk, "", 0, 0)) (by decide +kernel)
set_option maxRecDepth 100000 in
set_option maxHeartbeats 4000000 in
theorem zl_c24 (hq : zl_ok RR mdX11_walk mdX12_walk 2) (Z : zl_Z p s m c D cs kd b L xs ad1 ad2 i ls cells slots) (hn : n0 ≤ 3072) (V : zl_V RR D cs ad1 ad2 s H locs ω τ n0) (kk : ∀ (H1 : Heap) (locs1 : List Loc) (ω' τ' : ab_S), zl_V RR D cs ad1 ad2 s H1 locs1 ω' τ' (n0 + 1) → W p l e room_1 s m #[Value.ref b] below meth c H1 locs1 cells slots Q (F0 m 1222 ls [])) : W p l e room_1 s m #[Value.ref b] below meth c H locs cells slots Q (F0 m 1004 ls []) := by
  obtain ⟨C, ⟨hD1, hD2, hap⟩, ⟨hi, hL⟩, hl, hcs⟩ := Z
  obtain ⟨hP1, hP2, hS, hR⟩ := V
  have hx := C.1
  have hb := C.2.1
  have hrun := hq [(xs (i + 1)).toInt, (xs (i + 2)).toInt] rfl (fun a ha => by
    simp only [List.mem_cons, List.not_mem_nil, or_false] at ha
    rcases ha with rfl | rfl <;> exact zl_i32 _) ω τ n0 hn hR
  refine lv_aload_n hx hb dL_law_1004 rfl (lv_at hl 1 rfl) ?_
  refine zl_arg (kN := 1) C hS hl (by omega) hL (by decide) dL_law_1005 dL_law_1006 dL_law_1007 dL_law_1008 dL_law_1009 ?_
  refine zl_arg (kN := 2) C hS hl (by omega) hL (by decide) dL_law_1010 dL_law_1011 dL_law_1012 dL_law_1013 dL_law_1014 ?_
  refine zl_calll C hP1 hD1 hS hl.1 rfl dL_law_1015 zl_g1 zl_v122 rfl rfl ⟨Nat.le_of_ble_eq_true rfl, Nat.le_of_ble_eq_true rfl⟩ (Nat.le_of_ble_eq_true rfl) hcs hrun (fun x1 ω1 H1 locs1 hw hP1a hk1 hS1 => ?_)
  have hP2a := zl_kept hP2 hap hk1
  refine lv_aload_n hx hb dL_law_1018 rfl (lv_at hl 2 rfl) ?_
  refine zl_arg (kN := 1) C hS1 hl (by omega) hL (by decide) dL_law_1019 dL_law_1020 dL_law_1021 dL_law_1022 dL_law_1023 ?_
  refine zl_arg (kN := 2) C hS1 hl (by omega) hL (by decide) dL_law_1024 dL_law_1025 dL_law_1026 dL_law_1027 dL_law_1028 ?_
  refine zl_calll C hP2a hD2 hS1 hl.1 rfl dL_law_1029 zl_g2 zl_v125 rfl rfl ⟨Nat.le_of_ble_eq_true rfl, Nat.le_of_ble_eq_true rfl⟩ (Nat.le_of_ble_eq_true rfl) hcs hw (fun x2 τ1 H2 locs2 hw2 hP2b hk2 hS2 => ?_)
  have hP1b := zl_kept hP1a (fun i j hi hj => (hap j i hj hi).symm) hk2
  obtain ⟨ee, hR1⟩ := hw2
  cases ee
  refine W.lcmp hx hb dL_law_1032 ?_
  refine lv_if_eq (tgt := 1222) hx hb dL_law_1033 (by decide) (fun _ => ?_) (fun hne => absurd ((lg_cmp_eq _ _).mpr rfl) hne)
  exact kk H2 locs2 ω1 τ1 ⟨hP1b, hP2b, hS2, hR1⟩
theorem zl_v126 : ab_cv 13 126 10 mdX11_own := ab_cvC_ok (r := (13, 126, 10, mdX11_own, (0, 1404, 108, 1403, 1405), yX11_own, "", 0, 0)) (by decide +kernel)
theorem zl_v129 : ab_cv 13 129 11 mdX12_own := ab_cvC_ok (r := (13, 129, 11, mdX12_own, (0, 2123, 121, 2122, 2124), yX12_own, "", 0, 0)) (by decide +kernel)
set_option maxRecDepth 100000 in
set_option maxHeartbeats 4000000 in
theorem zl_c25 (hq : zl_ok RR mdX11_own mdX12_own 2) (Z : zl_Z p s m c D cs kd b L xs ad1 ad2 i ls cells slots) (hn : n0 ≤ 3072) (V : zl_V RR D cs ad1 ad2 s H locs ω τ n0) (kk : ∀ (H1 : Heap) (locs1 : List Loc) (ω' τ' : ab_S), zl_V RR D cs ad1 ad2 s H1 locs1 ω' τ' (n0 + 1) → W p l e room_1 s m #[Value.ref b] below meth c H1 locs1 cells slots Q (F0 m 1222 ls [])) : W p l e room_1 s m #[Value.ref b] below meth c H locs cells slots Q (F0 m 1038 ls []) := by
  obtain ⟨C, ⟨hD1, hD2, hap⟩, ⟨hi, hL⟩, hl, hcs⟩ := Z
  obtain ⟨hP1, hP2, hS, hR⟩ := V
  have hx := C.1
  have hb := C.2.1
  have hrun := hq [(xs (i + 1)).toInt, (xs (i + 2)).toInt] rfl (fun a ha => by
    simp only [List.mem_cons, List.not_mem_nil, or_false] at ha
    rcases ha with rfl | rfl <;> exact zl_i32 _) ω τ n0 hn hR
  refine lv_aload_n hx hb dL_law_1038 rfl (lv_at hl 1 rfl) ?_
  refine zl_arg (kN := 1) C hS hl (by omega) hL (by decide) dL_law_1039 dL_law_1040 dL_law_1041 dL_law_1042 dL_law_1043 ?_
  refine zl_arg (kN := 2) C hS hl (by omega) hL (by decide) dL_law_1044 dL_law_1045 dL_law_1046 dL_law_1047 dL_law_1048 ?_
  refine zl_calll C hP1 hD1 hS hl.1 rfl dL_law_1049 zl_g1 zl_v126 rfl rfl ⟨Nat.le_of_ble_eq_true rfl, Nat.le_of_ble_eq_true rfl⟩ (Nat.le_of_ble_eq_true rfl) hcs hrun (fun x1 ω1 H1 locs1 hw hP1a hk1 hS1 => ?_)
  have hP2a := zl_kept hP2 hap hk1
  refine lv_aload_n hx hb dL_law_1052 rfl (lv_at hl 2 rfl) ?_
  refine zl_arg (kN := 1) C hS1 hl (by omega) hL (by decide) dL_law_1053 dL_law_1054 dL_law_1055 dL_law_1056 dL_law_1057 ?_
  refine zl_arg (kN := 2) C hS1 hl (by omega) hL (by decide) dL_law_1058 dL_law_1059 dL_law_1060 dL_law_1061 dL_law_1062 ?_
  refine zl_calll C hP2a hD2 hS1 hl.1 rfl dL_law_1063 zl_g2 zl_v129 rfl rfl ⟨Nat.le_of_ble_eq_true rfl, Nat.le_of_ble_eq_true rfl⟩ (Nat.le_of_ble_eq_true rfl) hcs hw (fun x2 τ1 H2 locs2 hw2 hP2b hk2 hS2 => ?_)
  have hP1b := zl_kept hP1a (fun i j hi hj => (hap j i hj hi).symm) hk2
  obtain ⟨ee, hR1⟩ := hw2
  cases ee
  refine W.lcmp hx hb dL_law_1066 ?_
  refine lv_if_eq (tgt := 1222) hx hb dL_law_1067 (by decide) (fun _ => ?_) (fun hne => absurd ((lg_cmp_eq _ _).mpr rfl) hne)
  exact kk H2 locs2 ω1 τ1 ⟨hP1b, hP2b, hS2, hR1⟩
theorem zl_v130 : ab_cv 13 130 10 mdX11_loss := ab_cvC_ok (r := (13, 130, 10, mdX11_loss, (0, 1417, 108, 1416, 1418), yX11_loss, "", 0, 0)) (by decide +kernel)
theorem zl_v133 : ab_cv 13 133 11 mdX12_loss := ab_cvC_ok (r := (13, 133, 11, mdX12_loss, (0, 2131, 121, 2130, 2132), yX12_loss, "", 0, 0)) (by decide +kernel)
set_option maxRecDepth 100000 in
set_option maxHeartbeats 4000000 in
theorem zl_c26 (hq : zl_ok RR mdX11_loss mdX12_loss 0) (Z : zl_Z p s m c D cs kd b L xs ad1 ad2 i ls cells slots) (hn : n0 ≤ 3072) (V : zl_V RR D cs ad1 ad2 s H locs ω τ n0) (kk : ∀ (H1 : Heap) (locs1 : List Loc) (ω' τ' : ab_S), zl_V RR D cs ad1 ad2 s H1 locs1 ω' τ' (n0 + 1) → W p l e room_1 s m #[Value.ref b] below meth c H1 locs1 cells slots Q (F0 m 1222 ls [])) : W p l e room_1 s m #[Value.ref b] below meth c H locs cells slots Q (F0 m 1072 ls []) := by
  obtain ⟨C, ⟨hD1, hD2, hap⟩, ⟨hi, hL⟩, hl, hcs⟩ := Z
  obtain ⟨hP1, hP2, hS, hR⟩ := V
  have hx := C.1
  have hb := C.2.1
  have hrun := hq [] rfl (fun a ha => by cases ha) ω τ n0 hn hR
  refine lv_aload_n hx hb dL_law_1072 rfl (lv_at hl 1 rfl) ?_
  refine zl_calll C hP1 hD1 hS hl.1 rfl dL_law_1073 zl_g1 zl_v130 rfl rfl ⟨Nat.le_of_ble_eq_true rfl, Nat.le_of_ble_eq_true rfl⟩ (Nat.le_of_ble_eq_true rfl) hcs hrun (fun x1 ω1 H1 locs1 hw hP1a hk1 hS1 => ?_)
  have hP2a := zl_kept hP2 hap hk1
  refine lv_aload_n hx hb dL_law_1076 rfl (lv_at hl 2 rfl) ?_
  refine zl_calll C hP2a hD2 hS1 hl.1 rfl dL_law_1077 zl_g2 zl_v133 rfl rfl ⟨Nat.le_of_ble_eq_true rfl, Nat.le_of_ble_eq_true rfl⟩ (Nat.le_of_ble_eq_true rfl) hcs hw (fun x2 τ1 H2 locs2 hw2 hP2b hk2 hS2 => ?_)
  have hP1b := zl_kept hP1a (fun i j hi hj => (hap j i hj hi).symm) hk2
  obtain ⟨ee, hR1⟩ := hw2
  cases ee
  refine W.lcmp hx hb dL_law_1080 ?_
  refine lv_if_eq (tgt := 1222) hx hb dL_law_1081 (by decide) (fun _ => ?_) (fun hne => absurd ((lg_cmp_eq _ _).mpr rfl) hne)
  exact kk H2 locs2 ω1 τ1 ⟨hP1b, hP2b, hS2, hR1⟩
theorem zl_v134 : ab_cv 13 134 10 mdX11_bestLaw := ab_cvC_ok (r := (13, 134, 10, mdX11_bestLaw, (0, 1425, 108, 1424, 1426), yX11_bestLaw, "", 0, 0)) (by decide +kernel)
theorem zl_v137 : ab_cv 13 137 11 mdX12_bestLaw := ab_cvC_ok (r := (13, 137, 11, mdX12_bestLaw, (0, 2135, 121, 2134, 2136), yX12_bestLaw, "", 0, 0)) (by decide +kernel)
set_option maxRecDepth 100000 in
set_option maxHeartbeats 4000000 in
theorem zl_c27 (hq : zl_ok RR mdX11_bestLaw mdX12_bestLaw 3) (Z : zl_Z p s m c D cs kd b L xs ad1 ad2 i ls cells slots) (hn : n0 ≤ 3072) (V : zl_V RR D cs ad1 ad2 s H locs ω τ n0) (kk : ∀ (H1 : Heap) (locs1 : List Loc) (ω' τ' : ab_S), zl_V RR D cs ad1 ad2 s H1 locs1 ω' τ' (n0 + 1) → W p l e room_1 s m #[Value.ref b] below meth c H1 locs1 cells slots Q (F0 m 1222 ls [])) : W p l e room_1 s m #[Value.ref b] below meth c H locs cells slots Q (F0 m 1086 ls []) := by
  obtain ⟨C, ⟨hD1, hD2, hap⟩, ⟨hi, hL⟩, hl, hcs⟩ := Z
  obtain ⟨hP1, hP2, hS, hR⟩ := V
  have hx := C.1
  have hb := C.2.1
  have hrun := hq [(xs (i + 1)).toInt, (xs (i + 2)).toInt, (xs (i + 3)).toInt] rfl (fun a ha => by
    simp only [List.mem_cons, List.not_mem_nil, or_false] at ha
    rcases ha with rfl | rfl | rfl <;> exact zl_i32 _) ω τ n0 hn hR
  refine lv_aload_n hx hb dL_law_1086 rfl (lv_at hl 1 rfl) ?_
  refine zl_arg (kN := 1) C hS hl (by omega) hL (by decide) dL_law_1087 dL_law_1088 dL_law_1089 dL_law_1090 dL_law_1091 ?_
  refine zl_arg (kN := 2) C hS hl (by omega) hL (by decide) dL_law_1092 dL_law_1093 dL_law_1094 dL_law_1095 dL_law_1096 ?_
  refine zl_arg (kN := 3) C hS hl (by omega) hL (by decide) dL_law_1097 dL_law_1098 dL_law_1099 dL_law_1100 dL_law_1101 ?_
  refine zl_calll C hP1 hD1 hS hl.1 rfl dL_law_1102 zl_g1 zl_v134 rfl rfl ⟨Nat.le_of_ble_eq_true rfl, Nat.le_of_ble_eq_true rfl⟩ (Nat.le_of_ble_eq_true rfl) hcs hrun (fun x1 ω1 H1 locs1 hw hP1a hk1 hS1 => ?_)
  have hP2a := zl_kept hP2 hap hk1
  refine lv_aload_n hx hb dL_law_1105 rfl (lv_at hl 2 rfl) ?_
  refine zl_arg (kN := 1) C hS1 hl (by omega) hL (by decide) dL_law_1106 dL_law_1107 dL_law_1108 dL_law_1109 dL_law_1110 ?_
  refine zl_arg (kN := 2) C hS1 hl (by omega) hL (by decide) dL_law_1111 dL_law_1112 dL_law_1113 dL_law_1114 dL_law_1115 ?_
  refine zl_arg (kN := 3) C hS1 hl (by omega) hL (by decide) dL_law_1116 dL_law_1117 dL_law_1118 dL_law_1119 dL_law_1120 ?_
  refine zl_calll C hP2a hD2 hS1 hl.1 rfl dL_law_1121 zl_g2 zl_v137 rfl rfl ⟨Nat.le_of_ble_eq_true rfl, Nat.le_of_ble_eq_true rfl⟩ (Nat.le_of_ble_eq_true rfl) hcs hw (fun x2 τ1 H2 locs2 hw2 hP2b hk2 hS2 => ?_)
  have hP1b := zl_kept hP1a (fun i j hi hj => (hap j i hj hi).symm) hk2
  obtain ⟨ee, hR1⟩ := hw2
  cases ee
  refine W.lcmp hx hb dL_law_1124 ?_
  refine lv_if_eq (tgt := 1222) hx hb dL_law_1125 (by decide) (fun _ => ?_) (fun hne => absurd ((lg_cmp_eq _ _).mpr rfl) hne)
  exact kk H2 locs2 ω1 τ1 ⟨hP1b, hP2b, hS2, hR1⟩
theorem zl_v138 : ab_cv 13 138 10 mdX11_shift := ab_cvC_ok (r := (13, 138, 10, mdX11_shift, (0, 1443, 108, 1442, 1444), yX11_shift, "", 0, 0)) (by decide +kernel)
theorem zl_v141 : ab_cv 13 141 11 mdX12_shift := ab_cvC_ok (r := (13, 141, 11, mdX12_shift, (0, 2143, 121, 2142, 2144), yX12_shift, "", 0, 0)) (by decide +kernel)
set_option maxRecDepth 100000 in
set_option maxHeartbeats 4000000 in
theorem zl_c28 (hq : zl_ok RR mdX11_shift mdX12_shift 2) (Z : zl_Z p s m c D cs kd b L xs ad1 ad2 i ls cells slots) (hn : n0 ≤ 3072) (V : zl_V RR D cs ad1 ad2 s H locs ω τ n0) (kk : ∀ (H1 : Heap) (locs1 : List Loc) (ω' τ' : ab_S), zl_V RR D cs ad1 ad2 s H1 locs1 ω' τ' (n0 + 1) → W p l e room_1 s m #[Value.ref b] below meth c H1 locs1 cells slots Q (F0 m 1222 ls [])) : W p l e room_1 s m #[Value.ref b] below meth c H locs cells slots Q (F0 m 1130 ls []) := by
  obtain ⟨C, ⟨hD1, hD2, hap⟩, ⟨hi, hL⟩, hl, hcs⟩ := Z
  obtain ⟨hP1, hP2, hS, hR⟩ := V
  have hx := C.1
  have hb := C.2.1
  have hrun := hq [(xs (i + 1)).toInt, (xs (i + 2)).toInt] rfl (fun a ha => by
    simp only [List.mem_cons, List.not_mem_nil, or_false] at ha
    rcases ha with rfl | rfl <;> exact zl_i32 _) ω τ n0 hn hR
  refine lv_aload_n hx hb dL_law_1130 rfl (lv_at hl 1 rfl) ?_
  refine zl_arg (kN := 1) C hS hl (by omega) hL (by decide) dL_law_1131 dL_law_1132 dL_law_1133 dL_law_1134 dL_law_1135 ?_
  refine zl_arg (kN := 2) C hS hl (by omega) hL (by decide) dL_law_1136 dL_law_1137 dL_law_1138 dL_law_1139 dL_law_1140 ?_
  refine zl_calli C hP1 hD1 hS hl.1 (Or.inl rfl) dL_law_1141 zl_g1 zl_v138 rfl rfl ⟨Nat.le_of_ble_eq_true rfl, Nat.le_of_ble_eq_true rfl⟩ (Nat.le_of_ble_eq_true rfl) hcs hrun (fun x1 ω1 H1 locs1 hw hP1a hk1 hS1 => ?_)
  have hP2a := zl_kept hP2 hap hk1
  refine lv_aload_n hx hb dL_law_1144 rfl (lv_at hl 2 rfl) ?_
  refine zl_arg (kN := 1) C hS1 hl (by omega) hL (by decide) dL_law_1145 dL_law_1146 dL_law_1147 dL_law_1148 dL_law_1149 ?_
  refine zl_arg (kN := 2) C hS1 hl (by omega) hL (by decide) dL_law_1150 dL_law_1151 dL_law_1152 dL_law_1153 dL_law_1154 ?_
  refine zl_calli C hP2a hD2 hS1 hl.1 (Or.inl rfl) dL_law_1155 zl_g2 zl_v141 rfl rfl ⟨Nat.le_of_ble_eq_true rfl, Nat.le_of_ble_eq_true rfl⟩ (Nat.le_of_ble_eq_true rfl) hcs hw (fun x2 τ1 H2 locs2 hw2 hP2b hk2 hS2 => ?_)
  have hP1b := zl_kept hP1a (fun i j hi hj => (hap j i hj hi).symm) hk2
  obtain ⟨ee, hR1⟩ := hw2
  cases ee
  refine lv_icmp_eq (tgt := 1222) hx hb dL_law_1158 (by decide) (fun _ => ?_) (fun hne => absurd rfl hne)
  exact kk H2 locs2 ω1 τ1 ⟨hP1b, hP2b, hS2, hR1⟩
theorem zl_v142 : ab_cv 13 142 10 mdX11_image := ab_cvC_ok (r := (13, 142, 10, mdX11_image, (0, 1463, 108, 1462, 1464), yX11_image, "", 0, 0)) (by decide +kernel)
theorem zl_v145 : ab_cv 13 145 11 mdX12_image := ab_cvC_ok (r := (13, 145, 11, mdX12_image, (0, 2148, 121, 2147, 2149), yX12_image, "", 0, 0)) (by decide +kernel)
set_option maxRecDepth 100000 in
set_option maxHeartbeats 4000000 in
theorem zl_c29 (hq : zl_ok RR mdX11_image mdX12_image 0) (Z : zl_Z p s m c D cs kd b L xs ad1 ad2 i ls cells slots) (hn : n0 ≤ 3072) (V : zl_V RR D cs ad1 ad2 s H locs ω τ n0) (kk : ∀ (H1 : Heap) (locs1 : List Loc) (ω' τ' : ab_S), zl_V RR D cs ad1 ad2 s H1 locs1 ω' τ' (n0 + 1) → W p l e room_1 s m #[Value.ref b] below meth c H1 locs1 cells slots Q (F0 m 1222 ls [])) : W p l e room_1 s m #[Value.ref b] below meth c H locs cells slots Q (F0 m 1163 ls []) := by
  obtain ⟨C, ⟨hD1, hD2, hap⟩, ⟨hi, hL⟩, hl, hcs⟩ := Z
  obtain ⟨hP1, hP2, hS, hR⟩ := V
  have hx := C.1
  have hb := C.2.1
  have hrun := hq [] rfl (fun a ha => by cases ha) ω τ n0 hn hR
  refine lv_aload_n hx hb dL_law_1163 rfl (lv_at hl 1 rfl) ?_
  refine zl_calli C hP1 hD1 hS hl.1 (Or.inl rfl) dL_law_1164 zl_g1 zl_v142 rfl rfl ⟨Nat.le_of_ble_eq_true rfl, Nat.le_of_ble_eq_true rfl⟩ (Nat.le_of_ble_eq_true rfl) hcs hrun (fun x1 ω1 H1 locs1 hw hP1a hk1 hS1 => ?_)
  have hP2a := zl_kept hP2 hap hk1
  refine lv_aload_n hx hb dL_law_1167 rfl (lv_at hl 2 rfl) ?_
  refine zl_calli C hP2a hD2 hS1 hl.1 (Or.inl rfl) dL_law_1168 zl_g2 zl_v145 rfl rfl ⟨Nat.le_of_ble_eq_true rfl, Nat.le_of_ble_eq_true rfl⟩ (Nat.le_of_ble_eq_true rfl) hcs hw (fun x2 τ1 H2 locs2 hw2 hP2b hk2 hS2 => ?_)
  have hP1b := zl_kept hP1a (fun i j hi hj => (hap j i hj hi).symm) hk2
  obtain ⟨ee, hR1⟩ := hw2
  cases ee
  refine lv_icmp_eq (tgt := 1222) hx hb dL_law_1171 (by decide) (fun _ => ?_) (fun hne => absurd rfl hne)
  exact kk H2 locs2 ω1 τ1 ⟨hP1b, hP2b, hS2, hR1⟩
theorem zl_v146 : ab_cv 13 146 10 mdX11_back := ab_cvC_ok (r := (13, 146, 10, mdX11_back, (0, 1472, 108, 1471, 1473), yX11_back, "", 0, 0)) (by decide +kernel)
theorem zl_v149 : ab_cv 13 149 11 mdX12_back := ab_cvC_ok (r := (13, 149, 11, mdX12_back, (0, 2152, 121, 2151, 2153), yX12_back, "", 0, 0)) (by decide +kernel)
set_option maxRecDepth 100000 in
set_option maxHeartbeats 4000000 in
theorem zl_c30 (hq : zl_ok RR mdX11_back mdX12_back 1) (Z : zl_Z p s m c D cs kd b L xs ad1 ad2 i ls cells slots) (hn : n0 ≤ 3072) (V : zl_V RR D cs ad1 ad2 s H locs ω τ n0) (kk : ∀ (H1 : Heap) (locs1 : List Loc) (ω' τ' : ab_S), zl_V RR D cs ad1 ad2 s H1 locs1 ω' τ' (n0 + 1) → W p l e room_1 s m #[Value.ref b] below meth c H1 locs1 cells slots Q (F0 m 1222 ls [])) : W p l e room_1 s m #[Value.ref b] below meth c H locs cells slots Q (F0 m 1176 ls []) := by
  obtain ⟨C, ⟨hD1, hD2, hap⟩, ⟨hi, hL⟩, hl, hcs⟩ := Z
  obtain ⟨hP1, hP2, hS, hR⟩ := V
  have hx := C.1
  have hb := C.2.1
  have hrun := hq [(xs (i + 1)).toInt] rfl (fun a ha => by
    simp only [List.mem_cons, List.not_mem_nil, or_false] at ha
    rw [ha]
    exact zl_i32 _) ω τ n0 hn hR
  refine lv_aload_n hx hb dL_law_1176 rfl (lv_at hl 1 rfl) ?_
  refine zl_arg (kN := 1) C hS hl (by omega) hL (by decide) dL_law_1177 dL_law_1178 dL_law_1179 dL_law_1180 dL_law_1181 ?_
  refine zl_calli C hP1 hD1 hS hl.1 (Or.inr rfl) dL_law_1182 zl_g1 zl_v146 rfl rfl ⟨Nat.le_of_ble_eq_true rfl, Nat.le_of_ble_eq_true rfl⟩ (Nat.le_of_ble_eq_true rfl) hcs hrun (fun x1 ω1 H1 locs1 hw hP1a hk1 hS1 => ?_)
  have hP2a := zl_kept hP2 hap hk1
  refine lv_aload_n hx hb dL_law_1185 rfl (lv_at hl 2 rfl) ?_
  refine zl_arg (kN := 1) C hS1 hl (by omega) hL (by decide) dL_law_1186 dL_law_1187 dL_law_1188 dL_law_1189 dL_law_1190 ?_
  refine zl_calli C hP2a hD2 hS1 hl.1 (Or.inr rfl) dL_law_1191 zl_g2 zl_v149 rfl rfl ⟨Nat.le_of_ble_eq_true rfl, Nat.le_of_ble_eq_true rfl⟩ (Nat.le_of_ble_eq_true rfl) hcs hw (fun x2 τ1 H2 locs2 hw2 hP2b hk2 hS2 => ?_)
  have hP1b := zl_kept hP1a (fun i j hi hj => (hap j i hj hi).symm) hk2
  obtain ⟨ee, hR1⟩ := hw2
  cases ee
  refine lv_icmp_eq (tgt := 1222) hx hb dL_law_1194 (by decide) (fun _ => ?_) (fun hne => absurd rfl hne)
  exact kk H2 locs2 ω1 τ1 ⟨hP1b, hP2b, hS2, hR1⟩
theorem zl_v150 : ab_cv 13 150 10 mdX11_count := ab_cvC_ok (r := (13, 150, 10, mdX11_count, (0, 1476, 108, 1475, 1477), yX11_count, "", 0, 0)) (by decide +kernel)
theorem zl_v153 : ab_cv 13 153 11 mdX12_count := ab_cvC_ok (r := (13, 153, 11, mdX12_count, (0, 2156, 121, 2155, 2157), yX12_count, "", 0, 0)) (by decide +kernel)
set_option maxRecDepth 100000 in
set_option maxHeartbeats 4000000 in
theorem zl_c31 (hq : zl_ok RR mdX11_count mdX12_count 1) (Z : zl_Z p s m c D cs kd b L xs ad1 ad2 i ls cells slots) (hn : n0 ≤ 3072) (V : zl_V RR D cs ad1 ad2 s H locs ω τ n0) (kk : ∀ (H1 : Heap) (locs1 : List Loc) (ω' τ' : ab_S), zl_V RR D cs ad1 ad2 s H1 locs1 ω' τ' (n0 + 1) → W p l e room_1 s m #[Value.ref b] below meth c H1 locs1 cells slots Q (F0 m 1222 ls [])) : W p l e room_1 s m #[Value.ref b] below meth c H locs cells slots Q (F0 m 1199 ls []) := by
  obtain ⟨C, ⟨hD1, hD2, hap⟩, ⟨hi, hL⟩, hl, hcs⟩ := Z
  obtain ⟨hP1, hP2, hS, hR⟩ := V
  have hx := C.1
  have hb := C.2.1
  have hrun := hq [(xs (i + 1)).toInt] rfl (fun a ha => by
    simp only [List.mem_cons, List.not_mem_nil, or_false] at ha
    rw [ha]
    exact zl_i32 _) ω τ n0 hn hR
  refine lv_aload_n hx hb dL_law_1199 rfl (lv_at hl 1 rfl) ?_
  refine zl_arg (kN := 1) C hS hl (by omega) hL (by decide) dL_law_1200 dL_law_1201 dL_law_1202 dL_law_1203 dL_law_1204 ?_
  refine zl_calli C hP1 hD1 hS hl.1 (Or.inl rfl) dL_law_1205 zl_g1 zl_v150 rfl rfl ⟨Nat.le_of_ble_eq_true rfl, Nat.le_of_ble_eq_true rfl⟩ (Nat.le_of_ble_eq_true rfl) hcs hrun (fun x1 ω1 H1 locs1 hw hP1a hk1 hS1 => ?_)
  have hP2a := zl_kept hP2 hap hk1
  refine lv_aload_n hx hb dL_law_1208 rfl (lv_at hl 2 rfl) ?_
  refine zl_arg (kN := 1) C hS1 hl (by omega) hL (by decide) dL_law_1209 dL_law_1210 dL_law_1211 dL_law_1212 dL_law_1213 ?_
  refine zl_calli C hP2a hD2 hS1 hl.1 (Or.inl rfl) dL_law_1214 zl_g2 zl_v153 rfl rfl ⟨Nat.le_of_ble_eq_true rfl, Nat.le_of_ble_eq_true rfl⟩ (Nat.le_of_ble_eq_true rfl) hcs hw (fun x2 τ1 H2 locs2 hw2 hP2b hk2 hS2 => ?_)
  have hP1b := zl_kept hP1a (fun i j hi hj => (hap j i hj hi).symm) hk2
  obtain ⟨ee, hR1⟩ := hw2
  cases ee
  refine lv_icmp_eq (tgt := 1222) hx hb dL_law_1217 (by decide) (fun _ => ?_) (fun hne => absurd rfl hne)
  exact kk H2 locs2 ω1 τ1 ⟨hP1b, hP2b, hS2, hR1⟩
end
theorem zl_nI {n : Nat} (h : n < 2 ^ 31) : nI n = Int32.ofInt (n : Int) := by
  apply ab_inj32
  rw [nI_toInt h, ab_i32 (by unfold ab_r32; omega)]
theorem zl_lt {L i : Nat} (hL : L ≤ 3072) (hi : i ≤ 3072) : Int32.ofNat L - 6 < nI i ↔ L < i + 6 := by
  rw [show Int32.ofNat L = nI L from rfl, zl_nI (n := L) (by omega), zl_nI (n := i) (by omega), show (6 : Int32) = Int32.ofInt 6 by decide, ab_sub32, ab_lt32 (by unfold ab_r32; omega) (by unfold ab_r32; omega)]
  omega
def zl_all (RR : ab_S → ab_S → Nat → Prop) : Prop := zl_ok RR mdX11_feed mdX12_feed 5 ∧ zl_ok RR mdX11_town mdX12_town 1 ∧ zl_ok RR mdX11_law mdX12_law 1 ∧ zl_ok RR mdX11_fault mdX12_fault 0 ∧ zl_ok RR mdX11_told mdX12_told 1 ∧ zl_ok RR mdX11_name mdX12_name 2 ∧ zl_ok RR mdX11_far mdX12_far 2 ∧ zl_ok RR mdX11_force mdX12_force 1 ∧ zl_ok RR mdX11_seller mdX12_seller 5 ∧ zl_ok RR mdX11_put mdX12_put 3 ∧ zl_ok RR mdX11_of mdX12_of 2 ∧ zl_ok RR mdX11_sold mdX12_sold 1 ∧ zl_ok RR mdX11_earns mdX12_earns 1 ∧ zl_ok RR mdX11_home mdX12_home 0 ∧ zl_ok RR mdX11_buys mdX12_buys 1 ∧ zl_ok RR mdX11_best mdX12_best 2 ∧ zl_ok RR mdX11_rest mdX12_rest 0 ∧ zl_ok RR mdX11_turn mdX12_turn 1 ∧ zl_ok RR mdX11_chase mdX12_chase 2 ∧ zl_ok RR mdX11_rests mdX12_rests 4 ∧ zl_ok RR mdX11_lots mdX12_lots 5 ∧ zl_ok RR mdX11_lead mdX12_lead 3 ∧ zl_ok RR mdX11_prices mdX12_prices 3 ∧ zl_ok RR mdX11_stage mdX12_stage 5 ∧ zl_ok RR mdX11_walk mdX12_walk 2 ∧ zl_ok RR mdX11_own mdX12_own 2 ∧ zl_ok RR mdX11_loss mdX12_loss 0 ∧ zl_ok RR mdX11_bestLaw mdX12_bestLaw 3 ∧ zl_ok RR mdX11_shift mdX12_shift 2 ∧ zl_ok RR mdX11_image mdX12_image 0 ∧ zl_ok RR mdX11_back mdX12_back 1 ∧ zl_ok RR mdX11_count mdX12_count 1

set_option maxRecDepth 100000 in
set_option maxHeartbeats 4000000 in
theorem zl_loop {RR : ab_S → ab_S → Nat → Prop} {l : Launch} {D : va_G} {cs : Nat → ClassId} {ad1 ad2 kd : Nat → Nat} {p : Program} {e : Env} {s : State} {m : MethodId} {below : List Frame} {meth : Method} {c : Code} {Q : State → Prop} {b L : Nat} {xs : Nat → Int32} {cells slots : Nat} (hq : zl_all RR) (C : zl_Cx p s m c D cs kd b L xs) (hDD : (∀ σ, va_D (fun q => s.heap.size ≤ q) (ab_w ab_G1 cs ad1 σ)) ∧ (∀ σ, va_D (fun q => s.heap.size ≤ q) (ab_w ab_G2 cs ad2 σ)) ∧ ∀ i j, i < ab_G1.length → j < ab_G2.length → ad1 i ≠ ad2 j) (hL : L ≤ 3072) (hcs : cells + 0 ≤ room_1.cells ∧ slots + 0 ≤ room_1.slots)
    (fin : ∀ (H1 : Heap) (locs1 : List Loc) (ls1 : Array Slot), va_S (fun q => s.heap.size ≤ q) s.heap H1 locs1 → W p l e room_1 s m #[Value.ref b] below meth c H1 locs1 cells slots Q (F0 m 1228 ls1 [])) :
    ∀ (f i n0 : Nat), L - i < f → i ≤ L → n0 ≤ i → ∀ (H : Heap) (locs : List Loc) (ls : Array Slot) (ω τ : ab_S), lv_has ls 4 [(0, .ref b), (1, .ref (ad1 0)), (2, .ref (ad2 0)), (3, .int (nI i))] → zl_V RR D cs ad1 ad2 s H locs ω τ n0 → W p l e room_1 s m #[Value.ref b] below meth c H locs cells slots Q (F0 m 18 ls []) := by
  obtain ⟨q0, q1, q2, q3, q4, q5, q6, q7, q8, q9, q10, q11, q12, q13, q14, q15, q16, q17, q18, q19, q20, q21, q22, q23, q24, q25, q26, q27, q28, q29, q30, q31⟩ := hq
  intro f
  induction f with
  | zero => intro i n0 h; omega
  | succ f ih =>
    intro i n0 hf hi hn H locs ls ω τ hl V
    obtain ⟨hx, hb, hml, hown, hts, hK, hE, hX, hbl⟩ := id C
    refine lv_iload_n hx hb dL_law_18 rfl (lv_at hl 3 rfl) ?_
    refine lv_aload_n hx hb dL_law_19 rfl (lv_at hl 0 rfl) ?_
    refine va_slen hx hb hX hbl (Nat.not_le.mpr hbl) V.2.2.1 dL_law_20 ?_
    refine lv_bipush (v := 6) hx hb dL_law_21 (by decide) ?_
    refine lv_isub hx hb dL_law_23 ?_
    refine lv_icmp_gt (tgt := 1228) hx hb dL_law_24 (by decide) (fun _ => ?_) (fun h6 => ?_)
    · exact fin H locs ls V.2.2.1
    · have hi6 : i + 6 ≤ L := Nat.not_lt.mp (fun z => h6 ((zl_lt hL (by omega)).mpr z))
      refine lv_aload_n hx hb dL_law_27 rfl (lv_at hl 0 rfl) ?_
      refine lv_iload_n hx hb dL_law_28 rfl (lv_at hl 3 rfl) ?_
      refine va_sld hx hb hX hbl (Nat.not_le.mpr hbl) V.2.2.1 (vp_in_nI (by omega) (by omega)) dL_law_29 ?_
      refine lv_bipush (v := 31) hx hb dL_law_30 (by decide) ?_
      refine lv_iand hx hb dL_law_32 ?_
      obtain ⟨k, hk, ek⟩ := zl_and (xs (nI i).toNatClampNeg)
      rw [ek]
      have kk : ∀ (H1 : Heap) (locs1 : List Loc) (ω' τ' : ab_S), zl_V RR D cs ad1 ad2 s H1 locs1 ω' τ' (n0 + 1) → W p l e room_1 s m #[Value.ref b] below meth c H1 locs1 cells slots Q (F0 m 1222 ls []) := by
        intro H1 locs1 ω' τ' V1
        refine lv_iinc (k := 3) (v := nI (i + 6)) (lv' := [(3, .int (nI (i + 6))), (0, .ref b), (1, .ref (ad1 0)), (2, .ref (ad2 0))]) hx hb dL_law_1222 hl rfl ((show nI i + Int32.ofInt 6 = nI i + nI 6 from rfl).trans (nI_add i 6)) (by decide) rfl (fun ls1 hl1 => ?_)
        refine lv_goto (tgt := 18) hx hb dL_law_1225 (by decide) ?_
        exact ih (i + 6) (n0 + 1) (by omega) (by omega) (by omega) H1 locs1 ls1 ω' τ' (lv_sub hl1 [1, 2, 3, 0] rfl) V1
      have Z : zl_Z p s m c D cs kd b L xs ad1 ad2 i ls cells slots := ⟨C, hDD, ⟨hi6, hL⟩, hl, hcs⟩
      have hn2 : n0 ≤ 3072 := by omega
      rcases (show k = 0 ∨ k = 1 ∨ k = 2 ∨ k = 3 ∨ k = 4 ∨ k = 5 ∨ k = 6 ∨ k = 7 ∨ k = 8 ∨ k = 9 ∨ k = 10 ∨ k = 11 ∨ k = 12 ∨ k = 13 ∨ k = 14 ∨ k = 15 ∨ k = 16 ∨ k = 17 ∨ k = 18 ∨ k = 19 ∨ k = 20 ∨ k = 21 ∨ k = 22 ∨ k = 23 ∨ k = 24 ∨ k = 25 ∨ k = 26 ∨ k = 27 ∨ k = 28 ∨ k = 29 ∨ k = 30 ∨ k = 31 by omega) with rfl | rfl | rfl | rfl | rfl | rfl | rfl | rfl | rfl | rfl | rfl | rfl | rfl | rfl | rfl | rfl | rfl | rfl | rfl | rfl | rfl | rfl | rfl | rfl | rfl | rfl | rfl | rfl | rfl | rfl | rfl | rfl
      · exact lv_tableIn (off := 143) (tgt := 176) hx hb dL_law_33 (by decide) (by decide) (by decide) (by decide) (zl_c0 q0 Z hn2 V kk)
      · exact lv_tableIn (off := 206) (tgt := 239) hx hb dL_law_33 (by decide) (by decide) (by decide) (by decide) (zl_c1 q1 Z hn2 V kk)
      · exact lv_tableIn (off := 229) (tgt := 262) hx hb dL_law_33 (by decide) (by decide) (by decide) (by decide) (zl_c2 q2 Z hn2 V kk)
      · exact lv_tableIn (off := 252) (tgt := 285) hx hb dL_law_33 (by decide) (by decide) (by decide) (by decide) (zl_c3 q3 Z hn2 V kk)
      · exact lv_tableIn (off := 265) (tgt := 298) hx hb dL_law_33 (by decide) (by decide) (by decide) (by decide) (zl_c4 q4 Z hn2 V kk)
      · exact lv_tableIn (off := 288) (tgt := 321) hx hb dL_law_33 (by decide) (by decide) (by decide) (by decide) (zl_c5 q5 Z hn2 V kk)
      · exact lv_tableIn (off := 321) (tgt := 354) hx hb dL_law_33 (by decide) (by decide) (by decide) (by decide) (zl_c6 q6 Z hn2 V kk)
      · exact lv_tableIn (off := 354) (tgt := 387) hx hb dL_law_33 (by decide) (by decide) (by decide) (by decide) (zl_c7 q7 Z hn2 V kk)
      · exact lv_tableIn (off := 377) (tgt := 410) hx hb dL_law_33 (by decide) (by decide) (by decide) (by decide) (zl_c8 q8 Z hn2 V kk)
      · exact lv_tableIn (off := 440) (tgt := 473) hx hb dL_law_33 (by decide) (by decide) (by decide) (by decide) (zl_c9 q9 Z hn2 V kk)
      · exact lv_tableIn (off := 483) (tgt := 516) hx hb dL_law_33 (by decide) (by decide) (by decide) (by decide) (zl_c10 q10 Z hn2 V kk)
      · exact lv_tableIn (off := 516) (tgt := 549) hx hb dL_law_33 (by decide) (by decide) (by decide) (by decide) (zl_c11 q11 Z hn2 V kk)
      · exact lv_tableIn (off := 540) (tgt := 573) hx hb dL_law_33 (by decide) (by decide) (by decide) (by decide) (zl_c12 q12 Z hn2 V kk)
      · exact lv_tableIn (off := 564) (tgt := 597) hx hb dL_law_33 (by decide) (by decide) (by decide) (by decide) (zl_c13 q13 Z hn2 V kk)
      · exact lv_tableIn (off := 578) (tgt := 611) hx hb dL_law_33 (by decide) (by decide) (by decide) (by decide) (zl_c14 q14 Z hn2 V kk)
      · exact lv_tableIn (off := 601) (tgt := 634) hx hb dL_law_33 (by decide) (by decide) (by decide) (by decide) (zl_c15 q15 Z hn2 V kk)
      · exact lv_tableIn (off := 635) (tgt := 668) hx hb dL_law_33 (by decide) (by decide) (by decide) (by decide) (zl_c16 q16 Z hn2 V kk)
      · exact lv_tableIn (off := 648) (tgt := 681) hx hb dL_law_33 (by decide) (by decide) (by decide) (by decide) (zl_c17 q17 Z hn2 V kk)
      · exact lv_tableIn (off := 671) (tgt := 704) hx hb dL_law_33 (by decide) (by decide) (by decide) (by decide) (zl_c18 q18 Z hn2 V kk)
      · exact lv_tableIn (off := 704) (tgt := 737) hx hb dL_law_33 (by decide) (by decide) (by decide) (by decide) (zl_c19 q19 Z hn2 V kk)
      · exact lv_tableIn (off := 757) (tgt := 790) hx hb dL_law_33 (by decide) (by decide) (by decide) (by decide) (zl_c20 q20 Z hn2 V kk)
      · exact lv_tableIn (off := 821) (tgt := 854) hx hb dL_law_33 (by decide) (by decide) (by decide) (by decide) (zl_c21 q21 Z hn2 V kk)
      · exact lv_tableIn (off := 865) (tgt := 898) hx hb dL_law_33 (by decide) (by decide) (by decide) (by decide) (zl_c22 q22 Z hn2 V kk)
      · exact lv_tableIn (off := 908) (tgt := 941) hx hb dL_law_33 (by decide) (by decide) (by decide) (by decide) (zl_c23 q23 Z hn2 V kk)
      · exact lv_tableIn (off := 971) (tgt := 1004) hx hb dL_law_33 (by decide) (by decide) (by decide) (by decide) (zl_c24 q24 Z hn2 V kk)
      · exact lv_tableIn (off := 1005) (tgt := 1038) hx hb dL_law_33 (by decide) (by decide) (by decide) (by decide) (zl_c25 q25 Z hn2 V kk)
      · exact lv_tableIn (off := 1039) (tgt := 1072) hx hb dL_law_33 (by decide) (by decide) (by decide) (by decide) (zl_c26 q26 Z hn2 V kk)
      · exact lv_tableIn (off := 1053) (tgt := 1086) hx hb dL_law_33 (by decide) (by decide) (by decide) (by decide) (zl_c27 q27 Z hn2 V kk)
      · exact lv_tableIn (off := 1097) (tgt := 1130) hx hb dL_law_33 (by decide) (by decide) (by decide) (by decide) (zl_c28 q28 Z hn2 V kk)
      · exact lv_tableIn (off := 1130) (tgt := 1163) hx hb dL_law_33 (by decide) (by decide) (by decide) (by decide) (zl_c29 q29 Z hn2 V kk)
      · exact lv_tableIn (off := 1143) (tgt := 1176) hx hb dL_law_33 (by decide) (by decide) (by decide) (by decide) (zl_c30 q30 Z hn2 V kk)
      · exact lv_tableIn (off := 1166) (tgt := 1199) hx hb dL_law_33 (by decide) (by decide) (by decide) (by decide) (zl_c31 q31 Z hn2 V kk)
