set_option maxRecDepth 20000 in
theorem hin_L_law_RX5 : ∀ w ∈ wsX50, w ∈ wsL_law := inlX5
set_option maxRecDepth 20000 in
theorem hin_L_law_RX6 : ∀ w ∈ wsX60, w ∈ wsL_law := inlX6
theorem mw_L_law_0 : Cond.classLink RL 7 RX5 ∈ wsL_law := mq_1_0
theorem mw_L_law_1 : Cond.instantiable RX5 13 ∈ wsL_law := mq_1_1
theorem mw_L_law_2 : Cond.initialized RX5 ∈ wsL_law := mq_1_2
theorem mw_L_law_3 : Cond.methodLink RL 9 yX5_init ∈ wsL_law := mq_1_6
theorem mw_L_law_4 : Cond.instanceMethod yX5_init ∈ wsL_law := mq_1_7
theorem mw_L_law_5 : Cond.classLink RL 10 RX6 ∈ wsL_law := mq_1_3
theorem mw_L_law_6 : Cond.instantiable RX6 30 ∈ wsL_law := mq_1_4
theorem mw_L_law_7 : Cond.initialized RX6 ∈ wsL_law := mq_1_5
theorem mw_L_law_8 : Cond.methodLink RL 12 yX6_init ∈ wsL_law := mq_4_12
theorem mw_L_law_9 : Cond.instanceMethod yX6_init ∈ wsL_law := mq_4_13
set_option maxHeartbeats 40000000 in
set_option maxRecDepth 100000 in
theorem w_law {G : xG} {p : Program} {l : Launch} {e : Env} {s : State} {m : MethodId} {below : List Frame} {meth : Method} {c : Code} {b L : Nat} {xs : Nat → Int32} {X : List Int} (C : xK G p s m #[Value.ref b] meth c cL_law 4 wsL_law RL ret) (hX : va_X b L xs s s.heap) (hbl : b < s.heap.size) (hbA : ¬ xA G b) (hBB : xB G = s.heap.size) (hL : L ≤ 3) (hXX : X = (List.range L).map (fun j => (xs j).toInt)) (S' : xS) : ∀ k : Nat,
  (∀ (S : xS) (p0 p1 : Nat) (i0 : Int) (H : Heap) (locs : List Loc) (ls : Array Slot) (cells slots : Nat), i0 = 0 → cells = 0 → slots = 0 → g_law X k 0 S p0 p1 i0 = some (1, S') → xI G S s H locs → lv_has ls 4 [(0, .ref b)] → W p l e room_1 s m #[Value.ref b] below meth c H locs cells slots (lw_Z below #[Value.ref b] s) (F0 m 0 ls [])) ∧
  (∀ (S : xS) (p0 p1 : Nat) (i0 : Int) (H : Heap) (locs : List Loc) (ls : Array Slot) (cells slots : Nat), 0 ≤ i0 ∧ i0 ≤ 195 → cells ≤ 200 + 40 * i0.toNat → slots ≤ 60000 + 30000 * i0.toNat → g_law X k 1 S p0 p1 i0 = some (1, S') → xI G S s H locs → lv_has ls 4 [(0, .ref b), (1, .ref (xB G + p0)), (2, .ref (xB G + p1)), (3, .int (iI i0))] → W p l e room_1 s m #[Value.ref b] below meth c H locs cells slots (lw_Z below #[Value.ref b] s) (F0 m 18 ls [])) ∧
  (∀ (S : xS) (p0 p1 : Nat) (i0 : Int) (H : Heap) (locs : List Loc) (ls : Array Slot) (cells slots : Nat), 0 ≤ i0 ∧ i0 ≤ 0 → cells ≤ 320 + 40 * i0.toNat → slots ≤ 150000 + 30000 * i0.toNat → g_law X k 2 S p0 p1 i0 = some (1, S') → xI G S s H locs → lv_has ls 4 [(0, .ref b), (1, .ref (xB G + p0)), (2, .ref (xB G + p1)), (3, .int (iI i0))] → W p l e room_1 s m #[Value.ref b] below meth c H locs cells slots (lw_Z below #[Value.ref b] s) (F0 m 1195 ls [])) := by
  have hXL : X.length = L := by rw [hXX, List.length_map, List.length_range]
  intro k
  induction k with
  | zero => exact ⟨fun _ _ _ _ _ _ _ _ _ _ _ _ hf => (by cases hf), fun _ _ _ _ _ _ _ _ _ _ _ _ hf => (by cases hf), fun _ _ _ _ _ _ _ _ _ _ _ _ hf => (by cases hf)⟩
  | succ fu ih =>
    obtain ⟨ih0, ih1, ih2⟩ := ih
    refine ⟨?_, ?_, ?_⟩
    · intro S p0 p1 i0 H locs ls cells slots hv hc hs hf I hl
      subst hc
      subst hs
      replace hf : b_law_0 X (g_law X fu) fu S p0 p1 i0 = some (1, S') := hf
      unfold b_law_0 at hf
      obtain ⟨S1, eS1, hf⟩ := nmx_e hf
      refine kx_new 0 C I (ci := 4) (N := 13) xNew_X5 tyX5 rfl hin_L_law_RX5 mw_L_law_0 mw_L_law_1 mw_L_law_2 tyX5_ok xNew_X5_ok ⟨by show _ ≤ 600000; omega, by show _ ≤ 7302250; omega⟩ dL_law_0 (fun H I => ?_)
      rw [← eS1] at I
      refine kx_dup 3 C dL_law_3 rfl ?_
      obtain ⟨x4, S2, h3, hf⟩ := ob2 hf
      refine kx_callI 4 C hl I (As := []) (rest := [.ref (xB G + S.length)]) (c_X5_init G l fu _ _ _ _ h3) (cwI 0 C.ts gL_law_X5_init rfl rfl rfl (C.ts _ mw_L_law_2) (C.ts _ mw_L_law_3) (C.ts _ mw_L_law_4) rfl nyS_X5_init ⟨Nat.le_of_ble_eq_true rfl, Nat.le_of_ble_eq_true rfl⟩) rfl rfl (Nat.le_of_ble_eq_true rfl) dL_law_4 ⟨by show _ ≤ 600000; omega, by show _ ≤ 7302250; omega⟩ (fun H locs I => ?_)
      refine kx_astore_n 7 C (lv' := [(1, .ref (xB G + S.length)), (0, .ref b)]) dL_law_7 hl (by decide) rfl (fun ls hl => ?_)
      obtain ⟨S5, eS5, hf⟩ := nmx_e hf
      refine kx_new 8 C I (ci := 5) (N := 30) xNew_X6 tyX6 rfl hin_L_law_RX6 mw_L_law_5 mw_L_law_6 mw_L_law_7 tyX6_ok xNew_X6_ok ⟨by show _ ≤ 600000; omega, by show _ ≤ 7302250; omega⟩ dL_law_8 (fun H I => ?_)
      rw [← eS5] at I
      refine kx_dup 11 C dL_law_11 rfl ?_
      obtain ⟨x8, S6, h7, hf⟩ := ob2 hf
      refine kx_callI 12 C hl I (As := []) (rest := [.ref (xB G + S2.length)]) (c_X6_init G l fu _ _ _ _ h7) (cwI 0 C.ts gL_law_X6_init rfl rfl rfl (C.ts _ mw_L_law_7) (C.ts _ mw_L_law_8) (C.ts _ mw_L_law_9) rfl nyS_X6_init ⟨Nat.le_of_ble_eq_true rfl, Nat.le_of_ble_eq_true rfl⟩) rfl rfl (Nat.le_of_ble_eq_true rfl) dL_law_12 ⟨by show _ ≤ 600000; omega, by show _ ≤ 7302250; omega⟩ (fun H locs I => ?_)
      refine kx_astore_n 15 C (lv' := [(2, .ref (xB G + S2.length)), (1, .ref (xB G + S.length)), (0, .ref b)]) dL_law_15 hl (by decide) rfl (fun ls hl => ?_)
      refine kx_iconst 16 C dL_law_16 ?_
      refine kx_istore_n 17 C (lv' := [(3, .int (iI 0)), (2, .ref (xB G + S2.length)), (1, .ref (xB G + S.length)), (0, .ref b)]) dL_law_17 hl (by decide) rfl rfl (fun ls hl => ?_)
      exact ih1 _ _ _ _ _ _ _ _ _ (by omega) (by omega) (by omega) hf I (lv_sub hl [3, 2, 1, 0] rfl)
    · intro S p0 p1 i0 H locs ls cells slots hv hc hs hf I hl
      replace hf : b_law_1 X (g_law X fu) fu S p0 p1 i0 = some (1, S') := hf
      unfold b_law_1 at hf
      refine kx_iload_n 18 C dL_law_18 (lv_at hl 3 rfl) ?_
      refine kx_aload_n 19 C dL_law_19 (lv_at hl 0 rfl) ?_
      refine kx_xlen 20 C I hX hbl hbA hXX dL_law_20 ?_
      refine kx_iconst 21 C dL_law_21 ?_
      refine kx_isub 22 C dL_law_22 ?_
      refine kx_icmp_gt 23 1201 C dL_law_23 (by decide) (fun c9 => ?_) (fun c9 => ?_)
      · have hf := ifp c9 hf
        refine kx_iconst 1201 C dL_law_1201 ?_
        refine va_forget (fun q hq => by rw [← hBB]; exact I.2.2.2 q hq) ?_
        refine W.widen (k := 600000) (n := 7302250) (by omega) (by omega) ?_
        exact lw_ret C.x C.b C.r C.lk dL_law_1202
      · have hf := ifn c9 hf
        have hle : i0 ≤ 0 := by rw [wI_id (by omega) (by omega), wI_id (by omega) (by omega)] at c9; omega
        refine kx_aload_n 26 C dL_law_26 (lv_at hl 0 rfl) ?_
        refine kx_iload_n 27 C dL_law_27 (lv_at hl 3 rfl) ?_
        obtain ⟨x10, h11, hf⟩ := ob hf
        refine kx_xld 28 C I hX hbl hbA hXX (by omega) h11 dL_law_28 ?_
        refine kx_bipush 29 C dL_law_29 (by decide) ?_
        refine kx_iand 31 C dL_law_31 ?_
        obtain ⟨x12, e13, hf⟩ := nmx_e hf
        by_cases c14 : x12 = 0
        · have hf := ifp c14 hf
          refine kx_tabIn 32 228 C 0 dL_law_32 (e13 ▸ c14) (by decide) rfl (by decide) ?_
          refine kx_aload_n 228 C dL_law_228 (lv_at hl 1 rfl) ?_
          refine kx_aload_n 229 C dL_law_229 (lv_at hl 0 rfl) ?_
          refine kx_iload_n 230 C dL_law_230 (lv_at hl 3 rfl) ?_
          refine kx_iconst 231 C dL_law_231 ?_
          refine kx_iadd 232 C dL_law_232 ?_
          obtain ⟨x15, h16, hf⟩ := ob hf
          refine kx_xld 233 C I hX hbl hbA hXX (by omega) h16 dL_law_233 ?_
          obtain ⟨h20, hf⟩ := ift hf
          obtain ⟨x19, S17, h18, hf⟩ := ob2 hf
          refine kx_callVi 234 C hl I (ci := 4) (As := [.int (iI x15)]) (rest := []) (c_X5_boxes G l fu _ _ _ _ _ h18) (cwV 1 C.ts gL_law_X5_boxes rfl rfl rfl nyV_X5_boxes ⟨Nat.le_of_ble_eq_true rfl, Nat.le_of_ble_eq_true rfl⟩) rfl h20 rfl rfl (Nat.le_of_ble_eq_true rfl) dL_law_234 ⟨by show _ ≤ 600000; omega, by show _ ≤ 7302250; omega⟩ (fun H locs I => ?_)
          refine kx_aload_n 237 C dL_law_237 (lv_at hl 2 rfl) ?_
          refine kx_aload_n 238 C dL_law_238 (lv_at hl 0 rfl) ?_
          refine kx_iload_n 239 C dL_law_239 (lv_at hl 3 rfl) ?_
          refine kx_iconst 240 C dL_law_240 ?_
          refine kx_iadd 241 C dL_law_241 ?_
          obtain ⟨x21, h22, hf⟩ := ob hf
          refine kx_xld 242 C I hX hbl hbA hXX (by omega) h22 dL_law_242 ?_
          obtain ⟨h26, hf⟩ := ift hf
          obtain ⟨x25, S23, h24, hf⟩ := ob2 hf
          refine kx_callVi 243 C hl I (ci := 5) (As := [.int (iI x21)]) (rest := [.int (iI x19)]) (c_X6_boxes G l fu _ _ _ _ _ h24) (cwV 1 C.ts gL_law_X6_boxes rfl rfl rfl nyV_X6_boxes ⟨Nat.le_of_ble_eq_true rfl, Nat.le_of_ble_eq_true rfl⟩) rfl h26 rfl rfl (Nat.le_of_ble_eq_true rfl) dL_law_243 ⟨by show _ ≤ 600000; omega, by show _ ≤ 7302250; omega⟩ (fun H locs I => ?_)
          refine kx_icmp_eq 246 1195 C dL_law_246 (by decide) (fun c27 => ?_) (fun c27 => ?_)
          · have hf := ifp c27 hf
            exact ih2 _ _ _ _ _ _ _ _ _ (by omega) (by omega) (by omega) hf I (lv_sub hl [0, 1, 2, 3] rfl)
          · have hf := ifn c27 hf
            refine kx_iconst 249 C dL_law_249 ?_
            cases hf
        replace hf := ifn c14 hf
        by_cases c28 : x12 = 1
        · have hf := ifp c28 hf
          refine kx_tabIn 32 251 C 1 dL_law_32 (e13 ▸ c28) (by decide) rfl (by decide) ?_
          refine kx_aload_n 251 C dL_law_251 (lv_at hl 1 rfl) ?_
          refine kx_aload_n 252 C dL_law_252 (lv_at hl 0 rfl) ?_
          refine kx_iload_n 253 C dL_law_253 (lv_at hl 3 rfl) ?_
          refine kx_iconst 254 C dL_law_254 ?_
          refine kx_iadd 255 C dL_law_255 ?_
          obtain ⟨x29, h30, hf⟩ := ob hf
          refine kx_xld 256 C I hX hbl hbA hXX (by omega) h30 dL_law_256 ?_
          refine kx_aload_n 257 C dL_law_257 (lv_at hl 0 rfl) ?_
          refine kx_iload_n 258 C dL_law_258 (lv_at hl 3 rfl) ?_
          refine kx_iconst 259 C dL_law_259 ?_
          refine kx_iadd 260 C dL_law_260 ?_
          obtain ⟨x31, h32, hf⟩ := ob hf
          refine kx_xld 261 C I hX hbl hbA hXX (by omega) h32 dL_law_261 ?_
          obtain ⟨h36, hf⟩ := ift hf
          obtain ⟨x35, S33, h34, hf⟩ := ob2 hf
          refine kx_callVi 262 C hl I (ci := 4) (As := [.int (iI x29), .int (iI x31)]) (rest := []) (c_X5_put G l fu _ _ _ _ _ _ h34) (cwV 2 C.ts gL_law_X5_put rfl rfl rfl nyV_X5_put ⟨Nat.le_of_ble_eq_true rfl, Nat.le_of_ble_eq_true rfl⟩) rfl h36 rfl rfl (Nat.le_of_ble_eq_true rfl) dL_law_262 ⟨by show _ ≤ 600000; omega, by show _ ≤ 7302250; omega⟩ (fun H locs I => ?_)
          refine kx_aload_n 265 C dL_law_265 (lv_at hl 2 rfl) ?_
          refine kx_aload_n 266 C dL_law_266 (lv_at hl 0 rfl) ?_
          refine kx_iload_n 267 C dL_law_267 (lv_at hl 3 rfl) ?_
          refine kx_iconst 268 C dL_law_268 ?_
          refine kx_iadd 269 C dL_law_269 ?_
          obtain ⟨x37, h38, hf⟩ := ob hf
          refine kx_xld 270 C I hX hbl hbA hXX (by omega) h38 dL_law_270 ?_
          refine kx_aload_n 271 C dL_law_271 (lv_at hl 0 rfl) ?_
          refine kx_iload_n 272 C dL_law_272 (lv_at hl 3 rfl) ?_
          refine kx_iconst 273 C dL_law_273 ?_
          refine kx_iadd 274 C dL_law_274 ?_
          obtain ⟨x39, h40, hf⟩ := ob hf
          refine kx_xld 275 C I hX hbl hbA hXX (by omega) h40 dL_law_275 ?_
          obtain ⟨h44, hf⟩ := ift hf
          obtain ⟨x43, S41, h42, hf⟩ := ob2 hf
          refine kx_callVi 276 C hl I (ci := 5) (As := [.int (iI x37), .int (iI x39)]) (rest := [.int (iI x35)]) (c_X6_put G l fu _ _ _ _ _ _ h42) (cwV 2 C.ts gL_law_X6_put rfl rfl rfl nyV_X6_put ⟨Nat.le_of_ble_eq_true rfl, Nat.le_of_ble_eq_true rfl⟩) rfl h44 rfl rfl (Nat.le_of_ble_eq_true rfl) dL_law_276 ⟨by show _ ≤ 600000; omega, by show _ ≤ 7302250; omega⟩ (fun H locs I => ?_)
          refine kx_icmp_eq 279 1195 C dL_law_279 (by decide) (fun c45 => ?_) (fun c45 => ?_)
          · have hf := ifp c45 hf
            exact ih2 _ _ _ _ _ _ _ _ _ (by omega) (by omega) (by omega) hf I (lv_sub hl [0, 1, 2, 3] rfl)
          · have hf := ifn c45 hf
            refine kx_iconst 282 C dL_law_282 ?_
            cases hf
        replace hf := ifn c28 hf
        by_cases c46 : x12 = 2
        · have hf := ifp c46 hf
          refine kx_tabIn 32 284 C 2 dL_law_32 (e13 ▸ c46) (by decide) rfl (by decide) ?_
          refine kx_aload_n 284 C dL_law_284 (lv_at hl 1 rfl) ?_
          refine kx_aload_n 285 C dL_law_285 (lv_at hl 0 rfl) ?_
          refine kx_iload_n 286 C dL_law_286 (lv_at hl 3 rfl) ?_
          refine kx_iconst 287 C dL_law_287 ?_
          refine kx_iadd 288 C dL_law_288 ?_
          obtain ⟨x47, h48, hf⟩ := ob hf
          refine kx_xld 289 C I hX hbl hbA hXX (by omega) h48 dL_law_289 ?_
          refine kx_aload_n 290 C dL_law_290 (lv_at hl 0 rfl) ?_
          refine kx_iload_n 291 C dL_law_291 (lv_at hl 3 rfl) ?_
          refine kx_iconst 292 C dL_law_292 ?_
          refine kx_iadd 293 C dL_law_293 ?_
          obtain ⟨x49, h50, hf⟩ := ob hf
          refine kx_xld 294 C I hX hbl hbA hXX (by omega) h50 dL_law_294 ?_
          obtain ⟨h54, hf⟩ := ift hf
          obtain ⟨x53, S51, h52, hf⟩ := ob2 hf
          refine kx_callVi 295 C hl I (ci := 4) (As := [.int (iI x47), .int (iI x49)]) (rest := []) (c_X5_rule G l fu _ _ _ _ _ _ h52) (cwV 2 C.ts gL_law_X5_rule rfl rfl rfl nyV_X5_rule ⟨Nat.le_of_ble_eq_true rfl, Nat.le_of_ble_eq_true rfl⟩) rfl h54 rfl rfl (Nat.le_of_ble_eq_true rfl) dL_law_295 ⟨by show _ ≤ 600000; omega, by show _ ≤ 7302250; omega⟩ (fun H locs I => ?_)
          refine kx_aload_n 298 C dL_law_298 (lv_at hl 2 rfl) ?_
          refine kx_aload_n 299 C dL_law_299 (lv_at hl 0 rfl) ?_
          refine kx_iload_n 300 C dL_law_300 (lv_at hl 3 rfl) ?_
          refine kx_iconst 301 C dL_law_301 ?_
          refine kx_iadd 302 C dL_law_302 ?_
          obtain ⟨x55, h56, hf⟩ := ob hf
          refine kx_xld 303 C I hX hbl hbA hXX (by omega) h56 dL_law_303 ?_
          refine kx_aload_n 304 C dL_law_304 (lv_at hl 0 rfl) ?_
          refine kx_iload_n 305 C dL_law_305 (lv_at hl 3 rfl) ?_
          refine kx_iconst 306 C dL_law_306 ?_
          refine kx_iadd 307 C dL_law_307 ?_
          obtain ⟨x57, h58, hf⟩ := ob hf
          refine kx_xld 308 C I hX hbl hbA hXX (by omega) h58 dL_law_308 ?_
          obtain ⟨h62, hf⟩ := ift hf
          obtain ⟨x61, S59, h60, hf⟩ := ob2 hf
          refine kx_callVi 309 C hl I (ci := 5) (As := [.int (iI x55), .int (iI x57)]) (rest := [.int (iI x53)]) (c_X6_rule G l fu _ _ _ _ _ _ h60) (cwV 2 C.ts gL_law_X6_rule rfl rfl rfl nyV_X6_rule ⟨Nat.le_of_ble_eq_true rfl, Nat.le_of_ble_eq_true rfl⟩) rfl h62 rfl rfl (Nat.le_of_ble_eq_true rfl) dL_law_309 ⟨by show _ ≤ 600000; omega, by show _ ≤ 7302250; omega⟩ (fun H locs I => ?_)
          refine kx_icmp_eq 312 1195 C dL_law_312 (by decide) (fun c63 => ?_) (fun c63 => ?_)
          · have hf := ifp c63 hf
            exact ih2 _ _ _ _ _ _ _ _ _ (by omega) (by omega) (by omega) hf I (lv_sub hl [0, 1, 2, 3] rfl)
          · have hf := ifn c63 hf
            refine kx_iconst 315 C dL_law_315 ?_
            cases hf
        replace hf := ifn c46 hf
        by_cases c64 : x12 = 3
        · have hf := ifp c64 hf
          refine kx_tabIn 32 317 C 3 dL_law_32 (e13 ▸ c64) (by decide) rfl (by decide) ?_
          refine kx_aload_n 317 C dL_law_317 (lv_at hl 1 rfl) ?_
          refine kx_aload_n 318 C dL_law_318 (lv_at hl 0 rfl) ?_
          refine kx_iload_n 319 C dL_law_319 (lv_at hl 3 rfl) ?_
          refine kx_iconst 320 C dL_law_320 ?_
          refine kx_iadd 321 C dL_law_321 ?_
          obtain ⟨x65, h66, hf⟩ := ob hf
          refine kx_xld 322 C I hX hbl hbA hXX (by omega) h66 dL_law_322 ?_
          refine kx_aload_n 323 C dL_law_323 (lv_at hl 0 rfl) ?_
          refine kx_iload_n 324 C dL_law_324 (lv_at hl 3 rfl) ?_
          refine kx_iconst 325 C dL_law_325 ?_
          refine kx_iadd 326 C dL_law_326 ?_
          obtain ⟨x67, h68, hf⟩ := ob hf
          refine kx_xld 327 C I hX hbl hbA hXX (by omega) h68 dL_law_327 ?_
          obtain ⟨h72, hf⟩ := ift hf
          obtain ⟨x71, S69, h70, hf⟩ := ob2 hf
          refine kx_callVi 328 C hl I (ci := 4) (As := [.int (iI x65), .int (iI x67)]) (rest := []) (c_X5_swap G l fu _ _ _ _ _ _ h70) (cwV 2 C.ts gL_law_X5_swap rfl rfl rfl nyV_X5_swap ⟨Nat.le_of_ble_eq_true rfl, Nat.le_of_ble_eq_true rfl⟩) rfl h72 rfl rfl (Nat.le_of_ble_eq_true rfl) dL_law_328 ⟨by show _ ≤ 600000; omega, by show _ ≤ 7302250; omega⟩ (fun H locs I => ?_)
          refine kx_aload_n 331 C dL_law_331 (lv_at hl 2 rfl) ?_
          refine kx_aload_n 332 C dL_law_332 (lv_at hl 0 rfl) ?_
          refine kx_iload_n 333 C dL_law_333 (lv_at hl 3 rfl) ?_
          refine kx_iconst 334 C dL_law_334 ?_
          refine kx_iadd 335 C dL_law_335 ?_
          obtain ⟨x73, h74, hf⟩ := ob hf
          refine kx_xld 336 C I hX hbl hbA hXX (by omega) h74 dL_law_336 ?_
          refine kx_aload_n 337 C dL_law_337 (lv_at hl 0 rfl) ?_
          refine kx_iload_n 338 C dL_law_338 (lv_at hl 3 rfl) ?_
          refine kx_iconst 339 C dL_law_339 ?_
          refine kx_iadd 340 C dL_law_340 ?_
          obtain ⟨x75, h76, hf⟩ := ob hf
          refine kx_xld 341 C I hX hbl hbA hXX (by omega) h76 dL_law_341 ?_
          obtain ⟨h80, hf⟩ := ift hf
          obtain ⟨x79, S77, h78, hf⟩ := ob2 hf
          refine kx_callVi 342 C hl I (ci := 5) (As := [.int (iI x73), .int (iI x75)]) (rest := [.int (iI x71)]) (c_X6_swap G l fu _ _ _ _ _ _ h78) (cwV 2 C.ts gL_law_X6_swap rfl rfl rfl nyV_X6_swap ⟨Nat.le_of_ble_eq_true rfl, Nat.le_of_ble_eq_true rfl⟩) rfl h80 rfl rfl (Nat.le_of_ble_eq_true rfl) dL_law_342 ⟨by show _ ≤ 600000; omega, by show _ ≤ 7302250; omega⟩ (fun H locs I => ?_)
          refine kx_icmp_eq 345 1195 C dL_law_345 (by decide) (fun c81 => ?_) (fun c81 => ?_)
          · have hf := ifp c81 hf
            exact ih2 _ _ _ _ _ _ _ _ _ (by omega) (by omega) (by omega) hf I (lv_sub hl [0, 1, 2, 3] rfl)
          · have hf := ifn c81 hf
            refine kx_iconst 348 C dL_law_348 ?_
            cases hf
        replace hf := ifn c64 hf
        by_cases c82 : x12 = 4
        · have hf := ifp c82 hf
          refine kx_tabIn 32 350 C 4 dL_law_32 (e13 ▸ c82) (by decide) rfl (by decide) ?_
          refine kx_aload_n 350 C dL_law_350 (lv_at hl 1 rfl) ?_
          refine kx_aload_n 351 C dL_law_351 (lv_at hl 0 rfl) ?_
          refine kx_iload_n 352 C dL_law_352 (lv_at hl 3 rfl) ?_
          refine kx_iconst 353 C dL_law_353 ?_
          refine kx_iadd 354 C dL_law_354 ?_
          obtain ⟨x83, h84, hf⟩ := ob hf
          refine kx_xld 355 C I hX hbl hbA hXX (by omega) h84 dL_law_355 ?_
          obtain ⟨h88, hf⟩ := ift hf
          obtain ⟨x87, S85, h86, hf⟩ := ob2 hf
          refine kx_callVi 356 C hl I (ci := 4) (As := [.int (iI x83)]) (rest := []) (c_X5_lay G l fu _ _ _ _ _ h86) (cwV 1 C.ts gL_law_X5_lay rfl rfl rfl nyV_X5_lay ⟨Nat.le_of_ble_eq_true rfl, Nat.le_of_ble_eq_true rfl⟩) rfl h88 rfl rfl (Nat.le_of_ble_eq_true rfl) dL_law_356 ⟨by show _ ≤ 600000; omega, by show _ ≤ 7302250; omega⟩ (fun H locs I => ?_)
          refine kx_aload_n 359 C dL_law_359 (lv_at hl 2 rfl) ?_
          refine kx_aload_n 360 C dL_law_360 (lv_at hl 0 rfl) ?_
          refine kx_iload_n 361 C dL_law_361 (lv_at hl 3 rfl) ?_
          refine kx_iconst 362 C dL_law_362 ?_
          refine kx_iadd 363 C dL_law_363 ?_
          obtain ⟨x89, h90, hf⟩ := ob hf
          refine kx_xld 364 C I hX hbl hbA hXX (by omega) h90 dL_law_364 ?_
          obtain ⟨h94, hf⟩ := ift hf
          obtain ⟨x93, S91, h92, hf⟩ := ob2 hf
          refine kx_callVi 365 C hl I (ci := 5) (As := [.int (iI x89)]) (rest := [.int (iI x87)]) (c_X6_lay G l fu _ _ _ _ _ h92) (cwV 1 C.ts gL_law_X6_lay rfl rfl rfl nyV_X6_lay ⟨Nat.le_of_ble_eq_true rfl, Nat.le_of_ble_eq_true rfl⟩) rfl h94 rfl rfl (Nat.le_of_ble_eq_true rfl) dL_law_365 ⟨by show _ ≤ 600000; omega, by show _ ≤ 7302250; omega⟩ (fun H locs I => ?_)
          refine kx_icmp_eq 368 1195 C dL_law_368 (by decide) (fun c95 => ?_) (fun c95 => ?_)
          · have hf := ifp c95 hf
            exact ih2 _ _ _ _ _ _ _ _ _ (by omega) (by omega) (by omega) hf I (lv_sub hl [0, 1, 2, 3] rfl)
          · have hf := ifn c95 hf
            refine kx_iconst 371 C dL_law_371 ?_
            cases hf
        replace hf := ifn c82 hf
        by_cases c96 : x12 = 5
        · have hf := ifp c96 hf
          refine kx_tabIn 32 373 C 5 dL_law_32 (e13 ▸ c96) (by decide) rfl (by decide) ?_
          refine kx_aload_n 373 C dL_law_373 (lv_at hl 1 rfl) ?_
          obtain ⟨h100, hf⟩ := ift hf
          obtain ⟨x99, S97, h98, hf⟩ := ob2 hf
          refine kx_callVi 374 C hl I (ci := 4) (As := []) (rest := []) (c_X5_undo G l fu _ _ _ _ h98) (cwV 0 C.ts gL_law_X5_undo rfl rfl rfl nyV_X5_undo ⟨Nat.le_of_ble_eq_true rfl, Nat.le_of_ble_eq_true rfl⟩) rfl h100 rfl rfl (Nat.le_of_ble_eq_true rfl) dL_law_374 ⟨by show _ ≤ 600000; omega, by show _ ≤ 7302250; omega⟩ (fun H locs I => ?_)
          refine kx_aload_n 377 C dL_law_377 (lv_at hl 2 rfl) ?_
          obtain ⟨h104, hf⟩ := ift hf
          obtain ⟨x103, S101, h102, hf⟩ := ob2 hf
          refine kx_callVi 378 C hl I (ci := 5) (As := []) (rest := [.int (iI x99)]) (c_X6_undo G l fu _ _ _ _ h102) (cwV 0 C.ts gL_law_X6_undo rfl rfl rfl nyV_X6_undo ⟨Nat.le_of_ble_eq_true rfl, Nat.le_of_ble_eq_true rfl⟩) rfl h104 rfl rfl (Nat.le_of_ble_eq_true rfl) dL_law_378 ⟨by show _ ≤ 600000; omega, by show _ ≤ 7302250; omega⟩ (fun H locs I => ?_)
          refine kx_icmp_eq 381 1195 C dL_law_381 (by decide) (fun c105 => ?_) (fun c105 => ?_)
          · have hf := ifp c105 hf
            exact ih2 _ _ _ _ _ _ _ _ _ (by omega) (by omega) (by omega) hf I (lv_sub hl [0, 1, 2, 3] rfl)
          · have hf := ifn c105 hf
            refine kx_iconst 384 C dL_law_384 ?_
            cases hf
        replace hf := ifn c96 hf
        by_cases c106 : x12 = 6
        · have hf := ifp c106 hf
          refine kx_tabIn 32 386 C 6 dL_law_32 (e13 ▸ c106) (by decide) rfl (by decide) ?_
          refine kx_aload_n 386 C dL_law_386 (lv_at hl 1 rfl) ?_
          refine kx_aload_n 387 C dL_law_387 (lv_at hl 0 rfl) ?_
          refine kx_iload_n 388 C dL_law_388 (lv_at hl 3 rfl) ?_
          refine kx_iconst 389 C dL_law_389 ?_
          refine kx_iadd 390 C dL_law_390 ?_
          obtain ⟨x107, h108, hf⟩ := ob hf
          refine kx_xld 391 C I hX hbl hbA hXX (by omega) h108 dL_law_391 ?_
          refine kx_aload_n 392 C dL_law_392 (lv_at hl 0 rfl) ?_
          refine kx_iload_n 393 C dL_law_393 (lv_at hl 3 rfl) ?_
          refine kx_iconst 394 C dL_law_394 ?_
          refine kx_iadd 395 C dL_law_395 ?_
          obtain ⟨x109, h110, hf⟩ := ob hf
          refine kx_xld 396 C I hX hbl hbA hXX (by omega) h110 dL_law_396 ?_
          obtain ⟨h114, hf⟩ := ift hf
          obtain ⟨x113, S111, h112, hf⟩ := ob2 hf
          refine kx_callVi 397 C hl I (ci := 4) (As := [.int (iI x107), .int (iI x109)]) (rest := []) (c_X5_know G l fu _ _ _ _ _ _ h112) (cwV 2 C.ts gL_law_X5_know rfl rfl rfl nyV_X5_know ⟨Nat.le_of_ble_eq_true rfl, Nat.le_of_ble_eq_true rfl⟩) rfl h114 rfl rfl (Nat.le_of_ble_eq_true rfl) dL_law_397 ⟨by show _ ≤ 600000; omega, by show _ ≤ 7302250; omega⟩ (fun H locs I => ?_)
          refine kx_aload_n 400 C dL_law_400 (lv_at hl 2 rfl) ?_
          refine kx_aload_n 401 C dL_law_401 (lv_at hl 0 rfl) ?_
          refine kx_iload_n 402 C dL_law_402 (lv_at hl 3 rfl) ?_
          refine kx_iconst 403 C dL_law_403 ?_
          refine kx_iadd 404 C dL_law_404 ?_
          obtain ⟨x115, h116, hf⟩ := ob hf
          refine kx_xld 405 C I hX hbl hbA hXX (by omega) h116 dL_law_405 ?_
          refine kx_aload_n 406 C dL_law_406 (lv_at hl 0 rfl) ?_
          refine kx_iload_n 407 C dL_law_407 (lv_at hl 3 rfl) ?_
          refine kx_iconst 408 C dL_law_408 ?_
          refine kx_iadd 409 C dL_law_409 ?_
          obtain ⟨x117, h118, hf⟩ := ob hf
          refine kx_xld 410 C I hX hbl hbA hXX (by omega) h118 dL_law_410 ?_
          obtain ⟨h122, hf⟩ := ift hf
          obtain ⟨x121, S119, h120, hf⟩ := ob2 hf
          refine kx_callVi 411 C hl I (ci := 5) (As := [.int (iI x115), .int (iI x117)]) (rest := [.int (iI x113)]) (c_X6_know G l fu _ _ _ _ _ _ h120) (cwV 2 C.ts gL_law_X6_know rfl rfl rfl nyV_X6_know ⟨Nat.le_of_ble_eq_true rfl, Nat.le_of_ble_eq_true rfl⟩) rfl h122 rfl rfl (Nat.le_of_ble_eq_true rfl) dL_law_411 ⟨by show _ ≤ 600000; omega, by show _ ≤ 7302250; omega⟩ (fun H locs I => ?_)
          refine kx_icmp_eq 414 1195 C dL_law_414 (by decide) (fun c123 => ?_) (fun c123 => ?_)
          · have hf := ifp c123 hf
            exact ih2 _ _ _ _ _ _ _ _ _ (by omega) (by omega) (by omega) hf I (lv_sub hl [0, 1, 2, 3] rfl)
          · have hf := ifn c123 hf
            refine kx_iconst 417 C dL_law_417 ?_
            cases hf
        replace hf := ifn c106 hf
        by_cases c124 : x12 = 7
        · have hf := ifp c124 hf
          refine kx_tabIn 32 419 C 7 dL_law_32 (e13 ▸ c124) (by decide) rfl (by decide) ?_
          refine kx_aload_n 419 C dL_law_419 (lv_at hl 1 rfl) ?_
          refine kx_aload_n 420 C dL_law_420 (lv_at hl 0 rfl) ?_
          refine kx_iload_n 421 C dL_law_421 (lv_at hl 3 rfl) ?_
          refine kx_iconst 422 C dL_law_422 ?_
          refine kx_iadd 423 C dL_law_423 ?_
          obtain ⟨x125, h126, hf⟩ := ob hf
          refine kx_xld 424 C I hX hbl hbA hXX (by omega) h126 dL_law_424 ?_
          refine kx_aload_n 425 C dL_law_425 (lv_at hl 0 rfl) ?_
          refine kx_iload_n 426 C dL_law_426 (lv_at hl 3 rfl) ?_
          refine kx_iconst 427 C dL_law_427 ?_
          refine kx_iadd 428 C dL_law_428 ?_
          obtain ⟨x127, h128, hf⟩ := ob hf
          refine kx_xld 429 C I hX hbl hbA hXX (by omega) h128 dL_law_429 ?_
          obtain ⟨h132, hf⟩ := ift hf
          obtain ⟨x131, S129, h130, hf⟩ := ob2 hf
          refine kx_callVi 430 C hl I (ci := 4) (As := [.int (iI x125), .int (iI x127)]) (rest := []) (c_X5_report G l fu _ _ _ _ _ _ h130) (cwV 2 C.ts gL_law_X5_report rfl rfl rfl nyV_X5_report ⟨Nat.le_of_ble_eq_true rfl, Nat.le_of_ble_eq_true rfl⟩) rfl h132 rfl rfl (Nat.le_of_ble_eq_true rfl) dL_law_430 ⟨by show _ ≤ 600000; omega, by show _ ≤ 7302250; omega⟩ (fun H locs I => ?_)
          refine kx_aload_n 433 C dL_law_433 (lv_at hl 2 rfl) ?_
          refine kx_aload_n 434 C dL_law_434 (lv_at hl 0 rfl) ?_
          refine kx_iload_n 435 C dL_law_435 (lv_at hl 3 rfl) ?_
          refine kx_iconst 436 C dL_law_436 ?_
          refine kx_iadd 437 C dL_law_437 ?_
          obtain ⟨x133, h134, hf⟩ := ob hf
          refine kx_xld 438 C I hX hbl hbA hXX (by omega) h134 dL_law_438 ?_
          refine kx_aload_n 439 C dL_law_439 (lv_at hl 0 rfl) ?_
          refine kx_iload_n 440 C dL_law_440 (lv_at hl 3 rfl) ?_
          refine kx_iconst 441 C dL_law_441 ?_
          refine kx_iadd 442 C dL_law_442 ?_
          obtain ⟨x135, h136, hf⟩ := ob hf
          refine kx_xld 443 C I hX hbl hbA hXX (by omega) h136 dL_law_443 ?_
          obtain ⟨h140, hf⟩ := ift hf
          obtain ⟨x139, S137, h138, hf⟩ := ob2 hf
          refine kx_callVi 444 C hl I (ci := 5) (As := [.int (iI x133), .int (iI x135)]) (rest := [.int (iI x131)]) (c_X6_report G l fu _ _ _ _ _ _ h138) (cwV 2 C.ts gL_law_X6_report rfl rfl rfl nyV_X6_report ⟨Nat.le_of_ble_eq_true rfl, Nat.le_of_ble_eq_true rfl⟩) rfl h140 rfl rfl (Nat.le_of_ble_eq_true rfl) dL_law_444 ⟨by show _ ≤ 600000; omega, by show _ ≤ 7302250; omega⟩ (fun H locs I => ?_)
          refine kx_icmp_eq 447 1195 C dL_law_447 (by decide) (fun c141 => ?_) (fun c141 => ?_)
          · have hf := ifp c141 hf
            exact ih2 _ _ _ _ _ _ _ _ _ (by omega) (by omega) (by omega) hf I (lv_sub hl [0, 1, 2, 3] rfl)
          · have hf := ifn c141 hf
            refine kx_iconst 450 C dL_law_450 ?_
            cases hf
        replace hf := ifn c124 hf
        by_cases c142 : x12 = 8
        · have hf := ifp c142 hf
          refine kx_tabIn 32 452 C 8 dL_law_32 (e13 ▸ c142) (by decide) rfl (by decide) ?_
          refine kx_aload_n 452 C dL_law_452 (lv_at hl 1 rfl) ?_
          refine kx_aload_n 453 C dL_law_453 (lv_at hl 0 rfl) ?_
          refine kx_iload_n 454 C dL_law_454 (lv_at hl 3 rfl) ?_
          refine kx_iconst 455 C dL_law_455 ?_
          refine kx_iadd 456 C dL_law_456 ?_
          obtain ⟨x143, h144, hf⟩ := ob hf
          refine kx_xld 457 C I hX hbl hbA hXX (by omega) h144 dL_law_457 ?_
          obtain ⟨h148, hf⟩ := ift hf
          obtain ⟨x147, S145, h146, hf⟩ := ob2 hf
          refine kx_callVi 458 C hl I (ci := 4) (As := [.int (iI x143)]) (rest := []) (c_X5_forget G l fu _ _ _ _ _ h146) (cwV 1 C.ts gL_law_X5_forget rfl rfl rfl nyV_X5_forget ⟨Nat.le_of_ble_eq_true rfl, Nat.le_of_ble_eq_true rfl⟩) rfl h148 rfl rfl (Nat.le_of_ble_eq_true rfl) dL_law_458 ⟨by show _ ≤ 600000; omega, by show _ ≤ 7302250; omega⟩ (fun H locs I => ?_)
          refine kx_aload_n 461 C dL_law_461 (lv_at hl 2 rfl) ?_
          refine kx_aload_n 462 C dL_law_462 (lv_at hl 0 rfl) ?_
          refine kx_iload_n 463 C dL_law_463 (lv_at hl 3 rfl) ?_
          refine kx_iconst 464 C dL_law_464 ?_
          refine kx_iadd 465 C dL_law_465 ?_
          obtain ⟨x149, h150, hf⟩ := ob hf
          refine kx_xld 466 C I hX hbl hbA hXX (by omega) h150 dL_law_466 ?_
          obtain ⟨h154, hf⟩ := ift hf
          obtain ⟨x153, S151, h152, hf⟩ := ob2 hf
          refine kx_callVi 467 C hl I (ci := 5) (As := [.int (iI x149)]) (rest := [.int (iI x147)]) (c_X6_forget G l fu _ _ _ _ _ h152) (cwV 1 C.ts gL_law_X6_forget rfl rfl rfl nyV_X6_forget ⟨Nat.le_of_ble_eq_true rfl, Nat.le_of_ble_eq_true rfl⟩) rfl h154 rfl rfl (Nat.le_of_ble_eq_true rfl) dL_law_467 ⟨by show _ ≤ 600000; omega, by show _ ≤ 7302250; omega⟩ (fun H locs I => ?_)
          refine kx_icmp_eq 470 1195 C dL_law_470 (by decide) (fun c155 => ?_) (fun c155 => ?_)
          · have hf := ifp c155 hf
            exact ih2 _ _ _ _ _ _ _ _ _ (by omega) (by omega) (by omega) hf I (lv_sub hl [0, 1, 2, 3] rfl)
          · have hf := ifn c155 hf
            refine kx_iconst 473 C dL_law_473 ?_
            cases hf
        replace hf := ifn c142 hf
        by_cases c156 : x12 = 9
        · have hf := ifp c156 hf
          refine kx_tabIn 32 475 C 9 dL_law_32 (e13 ▸ c156) (by decide) rfl (by decide) ?_
          refine kx_aload_n 475 C dL_law_475 (lv_at hl 1 rfl) ?_
          refine kx_aload_n 476 C dL_law_476 (lv_at hl 0 rfl) ?_
          refine kx_iload_n 477 C dL_law_477 (lv_at hl 3 rfl) ?_
          refine kx_iconst 478 C dL_law_478 ?_
          refine kx_iadd 479 C dL_law_479 ?_
          obtain ⟨x157, h158, hf⟩ := ob hf
          refine kx_xld 480 C I hX hbl hbA hXX (by omega) h158 dL_law_480 ?_
          obtain ⟨h162, hf⟩ := ift hf
          obtain ⟨x161, S159, h160, hf⟩ := ob2 hf
          refine kx_callVi 481 C hl I (ci := 4) (As := [.int (iI x157)]) (rest := []) (c_X5_type G l fu _ _ _ _ _ h160) (cwV 1 C.ts gL_law_X5_type rfl rfl rfl nyV_X5_type ⟨Nat.le_of_ble_eq_true rfl, Nat.le_of_ble_eq_true rfl⟩) rfl h162 rfl rfl (Nat.le_of_ble_eq_true rfl) dL_law_481 ⟨by show _ ≤ 600000; omega, by show _ ≤ 7302250; omega⟩ (fun H locs I => ?_)
          refine kx_aload_n 484 C dL_law_484 (lv_at hl 2 rfl) ?_
          refine kx_aload_n 485 C dL_law_485 (lv_at hl 0 rfl) ?_
          refine kx_iload_n 486 C dL_law_486 (lv_at hl 3 rfl) ?_
          refine kx_iconst 487 C dL_law_487 ?_
          refine kx_iadd 488 C dL_law_488 ?_
          obtain ⟨x163, h164, hf⟩ := ob hf
          refine kx_xld 489 C I hX hbl hbA hXX (by omega) h164 dL_law_489 ?_
          obtain ⟨h168, hf⟩ := ift hf
          obtain ⟨x167, S165, h166, hf⟩ := ob2 hf
          refine kx_callVi 490 C hl I (ci := 5) (As := [.int (iI x163)]) (rest := [.int (iI x161)]) (c_X6_type G l fu _ _ _ _ _ h166) (cwV 1 C.ts gL_law_X6_type rfl rfl rfl nyV_X6_type ⟨Nat.le_of_ble_eq_true rfl, Nat.le_of_ble_eq_true rfl⟩) rfl h168 rfl rfl (Nat.le_of_ble_eq_true rfl) dL_law_490 ⟨by show _ ≤ 600000; omega, by show _ ≤ 7302250; omega⟩ (fun H locs I => ?_)
          refine kx_icmp_eq 493 1195 C dL_law_493 (by decide) (fun c169 => ?_) (fun c169 => ?_)
          · have hf := ifp c169 hf
            exact ih2 _ _ _ _ _ _ _ _ _ (by omega) (by omega) (by omega) hf I (lv_sub hl [0, 1, 2, 3] rfl)
          · have hf := ifn c169 hf
            refine kx_iconst 496 C dL_law_496 ?_
            cases hf
        replace hf := ifn c156 hf
        by_cases c170 : x12 = 10
        · have hf := ifp c170 hf
          refine kx_tabIn 32 498 C 10 dL_law_32 (e13 ▸ c170) (by decide) rfl (by decide) ?_
          refine kx_aload_n 498 C dL_law_498 (lv_at hl 1 rfl) ?_
          obtain ⟨h174, hf⟩ := ift hf
          obtain ⟨x173, S171, h172, hf⟩ := ob2 hf
          refine kx_callVi 499 C hl I (ci := 4) (As := []) (rest := []) (c_X5_clear G l fu _ _ _ _ h172) (cwV 0 C.ts gL_law_X5_clear rfl rfl rfl nyV_X5_clear ⟨Nat.le_of_ble_eq_true rfl, Nat.le_of_ble_eq_true rfl⟩) rfl h174 rfl rfl (Nat.le_of_ble_eq_true rfl) dL_law_499 ⟨by show _ ≤ 600000; omega, by show _ ≤ 7302250; omega⟩ (fun H locs I => ?_)
          refine kx_aload_n 502 C dL_law_502 (lv_at hl 2 rfl) ?_
          obtain ⟨h178, hf⟩ := ift hf
          obtain ⟨x177, S175, h176, hf⟩ := ob2 hf
          refine kx_callVi 503 C hl I (ci := 5) (As := []) (rest := [.int (iI x173)]) (c_X6_clear G l fu _ _ _ _ h176) (cwV 0 C.ts gL_law_X6_clear rfl rfl rfl nyV_X6_clear ⟨Nat.le_of_ble_eq_true rfl, Nat.le_of_ble_eq_true rfl⟩) rfl h178 rfl rfl (Nat.le_of_ble_eq_true rfl) dL_law_503 ⟨by show _ ≤ 600000; omega, by show _ ≤ 7302250; omega⟩ (fun H locs I => ?_)
          refine kx_icmp_eq 506 1195 C dL_law_506 (by decide) (fun c179 => ?_) (fun c179 => ?_)
          · have hf := ifp c179 hf
            exact ih2 _ _ _ _ _ _ _ _ _ (by omega) (by omega) (by omega) hf I (lv_sub hl [0, 1, 2, 3] rfl)
          · have hf := ifn c179 hf
            refine kx_iconst 509 C dL_law_509 ?_
            cases hf
        replace hf := ifn c170 hf
        by_cases c180 : x12 = 11
        · have hf := ifp c180 hf
          refine kx_tabIn 32 511 C 11 dL_law_32 (e13 ▸ c180) (by decide) rfl (by decide) ?_
          refine kx_aload_n 511 C dL_law_511 (lv_at hl 1 rfl) ?_
          obtain ⟨h184, hf⟩ := ift hf
          obtain ⟨x183, S181, h182, hf⟩ := ob2 hf
          refine kx_callVi 512 C hl I (ci := 4) (As := []) (rest := []) (c_X5_read G l fu _ _ _ _ h182) (cwV 0 C.ts gL_law_X5_read rfl rfl rfl nyV_X5_read ⟨Nat.le_of_ble_eq_true rfl, Nat.le_of_ble_eq_true rfl⟩) rfl h184 rfl rfl (Nat.le_of_ble_eq_true rfl) dL_law_512 ⟨by show _ ≤ 600000; omega, by show _ ≤ 7302250; omega⟩ (fun H locs I => ?_)
          refine kx_aload_n 515 C dL_law_515 (lv_at hl 2 rfl) ?_
          obtain ⟨h188, hf⟩ := ift hf
          obtain ⟨x187, S185, h186, hf⟩ := ob2 hf
          refine kx_callVi 516 C hl I (ci := 5) (As := []) (rest := [.int (iI x183)]) (c_X6_read G l fu _ _ _ _ h186) (cwV 0 C.ts gL_law_X6_read rfl rfl rfl nyV_X6_read ⟨Nat.le_of_ble_eq_true rfl, Nat.le_of_ble_eq_true rfl⟩) rfl h188 rfl rfl (Nat.le_of_ble_eq_true rfl) dL_law_516 ⟨by show _ ≤ 600000; omega, by show _ ≤ 7302250; omega⟩ (fun H locs I => ?_)
          refine kx_icmp_eq 519 1195 C dL_law_519 (by decide) (fun c189 => ?_) (fun c189 => ?_)
          · have hf := ifp c189 hf
            exact ih2 _ _ _ _ _ _ _ _ _ (by omega) (by omega) (by omega) hf I (lv_sub hl [0, 1, 2, 3] rfl)
          · have hf := ifn c189 hf
            refine kx_iconst 522 C dL_law_522 ?_
            cases hf
        replace hf := ifn c180 hf
        by_cases c190 : x12 = 12
        · have hf := ifp c190 hf
          refine kx_tabIn 32 524 C 12 dL_law_32 (e13 ▸ c190) (by decide) rfl (by decide) ?_
          refine kx_aload_n 524 C dL_law_524 (lv_at hl 1 rfl) ?_
          refine kx_aload_n 525 C dL_law_525 (lv_at hl 0 rfl) ?_
          refine kx_iload_n 526 C dL_law_526 (lv_at hl 3 rfl) ?_
          refine kx_iconst 527 C dL_law_527 ?_
          refine kx_iadd 528 C dL_law_528 ?_
          obtain ⟨x191, h192, hf⟩ := ob hf
          refine kx_xld 529 C I hX hbl hbA hXX (by omega) h192 dL_law_529 ?_
          obtain ⟨h196, hf⟩ := ift hf
          obtain ⟨x195, S193, h194, hf⟩ := ob2 hf
          refine kx_callVi 530 C hl I (ci := 4) (As := [.int (iI x191)]) (rest := []) (c_X5_slip G l fu _ _ _ _ _ h194) (cwV 1 C.ts gL_law_X5_slip rfl rfl rfl nyV_X5_slip ⟨Nat.le_of_ble_eq_true rfl, Nat.le_of_ble_eq_true rfl⟩) rfl h196 rfl rfl (Nat.le_of_ble_eq_true rfl) dL_law_530 ⟨by show _ ≤ 600000; omega, by show _ ≤ 7302250; omega⟩ (fun H locs I => ?_)
          refine kx_aload_n 533 C dL_law_533 (lv_at hl 2 rfl) ?_
          refine kx_aload_n 534 C dL_law_534 (lv_at hl 0 rfl) ?_
          refine kx_iload_n 535 C dL_law_535 (lv_at hl 3 rfl) ?_
          refine kx_iconst 536 C dL_law_536 ?_
          refine kx_iadd 537 C dL_law_537 ?_
          obtain ⟨x197, h198, hf⟩ := ob hf
          refine kx_xld 538 C I hX hbl hbA hXX (by omega) h198 dL_law_538 ?_
          obtain ⟨h202, hf⟩ := ift hf
          obtain ⟨x201, S199, h200, hf⟩ := ob2 hf
          refine kx_callVi 539 C hl I (ci := 5) (As := [.int (iI x197)]) (rest := [.int (iI x195)]) (c_X6_slip G l fu _ _ _ _ _ h200) (cwV 1 C.ts gL_law_X6_slip rfl rfl rfl nyV_X6_slip ⟨Nat.le_of_ble_eq_true rfl, Nat.le_of_ble_eq_true rfl⟩) rfl h202 rfl rfl (Nat.le_of_ble_eq_true rfl) dL_law_539 ⟨by show _ ≤ 600000; omega, by show _ ≤ 7302250; omega⟩ (fun H locs I => ?_)
          refine kx_icmp_eq 542 1195 C dL_law_542 (by decide) (fun c203 => ?_) (fun c203 => ?_)
          · have hf := ifp c203 hf
            exact ih2 _ _ _ _ _ _ _ _ _ (by omega) (by omega) (by omega) hf I (lv_sub hl [0, 1, 2, 3] rfl)
          · have hf := ifn c203 hf
            refine kx_iconst 545 C dL_law_545 ?_
            cases hf
        replace hf := ifn c190 hf
        by_cases c204 : x12 = 13
        · have hf := ifp c204 hf
          refine kx_tabIn 32 547 C 13 dL_law_32 (e13 ▸ c204) (by decide) rfl (by decide) ?_
          refine kx_aload_n 547 C dL_law_547 (lv_at hl 1 rfl) ?_
          obtain ⟨h208, hf⟩ := ift hf
          obtain ⟨x207, S205, h206, hf⟩ := ob2 hf
          refine kx_callVi 548 C hl I (ci := 4) (As := []) (rest := []) (c_X5_rank G l fu _ _ _ _ h206) (cwV 0 C.ts gL_law_X5_rank rfl rfl rfl nyV_X5_rank ⟨Nat.le_of_ble_eq_true rfl, Nat.le_of_ble_eq_true rfl⟩) rfl h208 rfl rfl (Nat.le_of_ble_eq_true rfl) dL_law_548 ⟨by show _ ≤ 600000; omega, by show _ ≤ 7302250; omega⟩ (fun H locs I => ?_)
          refine kx_aload_n 551 C dL_law_551 (lv_at hl 2 rfl) ?_
          obtain ⟨h212, hf⟩ := ift hf
          obtain ⟨x211, S209, h210, hf⟩ := ob2 hf
          refine kx_callVi 552 C hl I (ci := 5) (As := []) (rest := [.int (iI x207)]) (c_X6_rank G l fu _ _ _ _ h210) (cwV 0 C.ts gL_law_X6_rank rfl rfl rfl nyV_X6_rank ⟨Nat.le_of_ble_eq_true rfl, Nat.le_of_ble_eq_true rfl⟩) rfl h212 rfl rfl (Nat.le_of_ble_eq_true rfl) dL_law_552 ⟨by show _ ≤ 600000; omega, by show _ ≤ 7302250; omega⟩ (fun H locs I => ?_)
          refine kx_icmp_eq 555 1195 C dL_law_555 (by decide) (fun c213 => ?_) (fun c213 => ?_)
          · have hf := ifp c213 hf
            exact ih2 _ _ _ _ _ _ _ _ _ (by omega) (by omega) (by omega) hf I (lv_sub hl [0, 1, 2, 3] rfl)
          · have hf := ifn c213 hf
            refine kx_iconst 558 C dL_law_558 ?_
            cases hf
        replace hf := ifn c204 hf
        by_cases c214 : x12 = 14
        · have hf := ifp c214 hf
          refine kx_tabIn 32 560 C 14 dL_law_32 (e13 ▸ c214) (by decide) rfl (by decide) ?_
          refine kx_aload_n 560 C dL_law_560 (lv_at hl 1 rfl) ?_
          refine kx_aload_n 561 C dL_law_561 (lv_at hl 0 rfl) ?_
          refine kx_iload_n 562 C dL_law_562 (lv_at hl 3 rfl) ?_
          refine kx_iconst 563 C dL_law_563 ?_
          refine kx_iadd 564 C dL_law_564 ?_
          obtain ⟨x215, h216, hf⟩ := ob hf
          refine kx_xld 565 C I hX hbl hbA hXX (by omega) h216 dL_law_565 ?_
          obtain ⟨h220, hf⟩ := ift hf
          obtain ⟨x219, S217, h218, hf⟩ := ob2 hf
          refine kx_callVi 566 C hl I (ci := 4) (As := [.int (iI x215)]) (rest := []) (c_X5_rings G l fu _ _ _ _ _ h218) (cwV 1 C.ts gL_law_X5_rings rfl rfl rfl nyV_X5_rings ⟨Nat.le_of_ble_eq_true rfl, Nat.le_of_ble_eq_true rfl⟩) rfl h220 rfl rfl (Nat.le_of_ble_eq_true rfl) dL_law_566 ⟨by show _ ≤ 600000; omega, by show _ ≤ 7302250; omega⟩ (fun H locs I => ?_)
          refine kx_aload_n 569 C dL_law_569 (lv_at hl 2 rfl) ?_
          refine kx_aload_n 570 C dL_law_570 (lv_at hl 0 rfl) ?_
          refine kx_iload_n 571 C dL_law_571 (lv_at hl 3 rfl) ?_
          refine kx_iconst 572 C dL_law_572 ?_
          refine kx_iadd 573 C dL_law_573 ?_
          obtain ⟨x221, h222, hf⟩ := ob hf
          refine kx_xld 574 C I hX hbl hbA hXX (by omega) h222 dL_law_574 ?_
          obtain ⟨h226, hf⟩ := ift hf
          obtain ⟨x225, S223, h224, hf⟩ := ob2 hf
          refine kx_callVi 575 C hl I (ci := 5) (As := [.int (iI x221)]) (rest := [.int (iI x219)]) (c_X6_rings G l fu _ _ _ _ _ h224) (cwV 1 C.ts gL_law_X6_rings rfl rfl rfl nyV_X6_rings ⟨Nat.le_of_ble_eq_true rfl, Nat.le_of_ble_eq_true rfl⟩) rfl h226 rfl rfl (Nat.le_of_ble_eq_true rfl) dL_law_575 ⟨by show _ ≤ 600000; omega, by show _ ≤ 7302250; omega⟩ (fun H locs I => ?_)
          refine kx_icmp_eq 578 1195 C dL_law_578 (by decide) (fun c227 => ?_) (fun c227 => ?_)
          · have hf := ifp c227 hf
            exact ih2 _ _ _ _ _ _ _ _ _ (by omega) (by omega) (by omega) hf I (lv_sub hl [0, 1, 2, 3] rfl)
          · have hf := ifn c227 hf
            refine kx_iconst 581 C dL_law_581 ?_
            cases hf
        replace hf := ifn c214 hf
        by_cases c228 : x12 = 15
        · have hf := ifp c228 hf
          refine kx_tabIn 32 583 C 15 dL_law_32 (e13 ▸ c228) (by decide) rfl (by decide) ?_
          refine kx_aload_n 583 C dL_law_583 (lv_at hl 1 rfl) ?_
          refine kx_aload_n 584 C dL_law_584 (lv_at hl 0 rfl) ?_
          refine kx_iload_n 585 C dL_law_585 (lv_at hl 3 rfl) ?_
          refine kx_iconst 586 C dL_law_586 ?_
          refine kx_iadd 587 C dL_law_587 ?_
          obtain ⟨x229, h230, hf⟩ := ob hf
          refine kx_xld 588 C I hX hbl hbA hXX (by omega) h230 dL_law_588 ?_
          refine kx_aload_n 589 C dL_law_589 (lv_at hl 0 rfl) ?_
          refine kx_iload_n 590 C dL_law_590 (lv_at hl 3 rfl) ?_
          refine kx_iconst 591 C dL_law_591 ?_
          refine kx_iadd 592 C dL_law_592 ?_
          obtain ⟨x231, h232, hf⟩ := ob hf
          refine kx_xld 593 C I hX hbl hbA hXX (by omega) h232 dL_law_593 ?_
          obtain ⟨h236, hf⟩ := ift hf
          obtain ⟨x235, S233, h234, hf⟩ := ob2 hf
          refine kx_callVi 594 C hl I (ci := 4) (As := [.int (iI x229), .int (iI x231)]) (rest := []) (c_X5_opened G l fu _ _ _ _ _ _ h234) (cwV 2 C.ts gL_law_X5_opened rfl rfl rfl nyV_X5_opened ⟨Nat.le_of_ble_eq_true rfl, Nat.le_of_ble_eq_true rfl⟩) rfl h236 rfl rfl (Nat.le_of_ble_eq_true rfl) dL_law_594 ⟨by show _ ≤ 600000; omega, by show _ ≤ 7302250; omega⟩ (fun H locs I => ?_)
          refine kx_aload_n 597 C dL_law_597 (lv_at hl 2 rfl) ?_
          refine kx_aload_n 598 C dL_law_598 (lv_at hl 0 rfl) ?_
          refine kx_iload_n 599 C dL_law_599 (lv_at hl 3 rfl) ?_
          refine kx_iconst 600 C dL_law_600 ?_
          refine kx_iadd 601 C dL_law_601 ?_
          obtain ⟨x237, h238, hf⟩ := ob hf
          refine kx_xld 602 C I hX hbl hbA hXX (by omega) h238 dL_law_602 ?_
          refine kx_aload_n 603 C dL_law_603 (lv_at hl 0 rfl) ?_
          refine kx_iload_n 604 C dL_law_604 (lv_at hl 3 rfl) ?_
          refine kx_iconst 605 C dL_law_605 ?_
          refine kx_iadd 606 C dL_law_606 ?_
          obtain ⟨x239, h240, hf⟩ := ob hf
          refine kx_xld 607 C I hX hbl hbA hXX (by omega) h240 dL_law_607 ?_
          obtain ⟨h244, hf⟩ := ift hf
          obtain ⟨x243, S241, h242, hf⟩ := ob2 hf
          refine kx_callVi 608 C hl I (ci := 5) (As := [.int (iI x237), .int (iI x239)]) (rest := [.int (iI x235)]) (c_X6_opened G l fu _ _ _ _ _ _ h242) (cwV 2 C.ts gL_law_X6_opened rfl rfl rfl nyV_X6_opened ⟨Nat.le_of_ble_eq_true rfl, Nat.le_of_ble_eq_true rfl⟩) rfl h244 rfl rfl (Nat.le_of_ble_eq_true rfl) dL_law_608 ⟨by show _ ≤ 600000; omega, by show _ ≤ 7302250; omega⟩ (fun H locs I => ?_)
          refine kx_icmp_eq 611 1195 C dL_law_611 (by decide) (fun c245 => ?_) (fun c245 => ?_)
          · have hf := ifp c245 hf
            exact ih2 _ _ _ _ _ _ _ _ _ (by omega) (by omega) (by omega) hf I (lv_sub hl [0, 1, 2, 3] rfl)
          · have hf := ifn c245 hf
            refine kx_iconst 614 C dL_law_614 ?_
            cases hf
        replace hf := ifn c228 hf
        by_cases c246 : x12 = 16
        · have hf := ifp c246 hf
          refine kx_tabIn 32 616 C 16 dL_law_32 (e13 ▸ c246) (by decide) rfl (by decide) ?_
          refine kx_aload_n 616 C dL_law_616 (lv_at hl 1 rfl) ?_
          obtain ⟨h250, hf⟩ := ift hf
          obtain ⟨x249, S247, h248, hf⟩ := ob2 hf
          refine kx_callVi 617 C hl I (ci := 4) (As := []) (rest := []) (c_X5_finds G l fu _ _ _ _ h248) (cwV 0 C.ts gL_law_X5_finds rfl rfl rfl nyV_X5_finds ⟨Nat.le_of_ble_eq_true rfl, Nat.le_of_ble_eq_true rfl⟩) rfl h250 rfl rfl (Nat.le_of_ble_eq_true rfl) dL_law_617 ⟨by show _ ≤ 600000; omega, by show _ ≤ 7302250; omega⟩ (fun H locs I => ?_)
          refine kx_aload_n 620 C dL_law_620 (lv_at hl 2 rfl) ?_
          obtain ⟨h254, hf⟩ := ift hf
          obtain ⟨x253, S251, h252, hf⟩ := ob2 hf
          refine kx_callVi 621 C hl I (ci := 5) (As := []) (rest := [.int (iI x249)]) (c_X6_finds G l fu _ _ _ _ h252) (cwV 0 C.ts gL_law_X6_finds rfl rfl rfl nyV_X6_finds ⟨Nat.le_of_ble_eq_true rfl, Nat.le_of_ble_eq_true rfl⟩) rfl h254 rfl rfl (Nat.le_of_ble_eq_true rfl) dL_law_621 ⟨by show _ ≤ 600000; omega, by show _ ≤ 7302250; omega⟩ (fun H locs I => ?_)
          refine kx_icmp_eq 624 1195 C dL_law_624 (by decide) (fun c255 => ?_) (fun c255 => ?_)
          · have hf := ifp c255 hf
            exact ih2 _ _ _ _ _ _ _ _ _ (by omega) (by omega) (by omega) hf I (lv_sub hl [0, 1, 2, 3] rfl)
          · have hf := ifn c255 hf
            refine kx_iconst 627 C dL_law_627 ?_
            cases hf
        replace hf := ifn c246 hf
        by_cases c256 : x12 = 17
        · have hf := ifp c256 hf
          refine kx_tabIn 32 629 C 17 dL_law_32 (e13 ▸ c256) (by decide) rfl (by decide) ?_
          refine kx_aload_n 629 C dL_law_629 (lv_at hl 1 rfl) ?_
          refine kx_aload_n 630 C dL_law_630 (lv_at hl 0 rfl) ?_
          refine kx_iload_n 631 C dL_law_631 (lv_at hl 3 rfl) ?_
          refine kx_iconst 632 C dL_law_632 ?_
          refine kx_iadd 633 C dL_law_633 ?_
          obtain ⟨x257, h258, hf⟩ := ob hf
          refine kx_xld 634 C I hX hbl hbA hXX (by omega) h258 dL_law_634 ?_
          obtain ⟨h262, hf⟩ := ift hf
          obtain ⟨x261, S259, h260, hf⟩ := ob2 hf
          refine kx_callVi 635 C hl I (ci := 4) (As := [.int (iI x257)]) (rest := []) (c_X5_worked G l fu _ _ _ _ _ h260) (cwV 1 C.ts gL_law_X5_worked rfl rfl rfl nyV_X5_worked ⟨Nat.le_of_ble_eq_true rfl, Nat.le_of_ble_eq_true rfl⟩) rfl h262 rfl rfl (Nat.le_of_ble_eq_true rfl) dL_law_635 ⟨by show _ ≤ 600000; omega, by show _ ≤ 7302250; omega⟩ (fun H locs I => ?_)
          refine kx_aload_n 638 C dL_law_638 (lv_at hl 2 rfl) ?_
          refine kx_aload_n 639 C dL_law_639 (lv_at hl 0 rfl) ?_
          refine kx_iload_n 640 C dL_law_640 (lv_at hl 3 rfl) ?_
          refine kx_iconst 641 C dL_law_641 ?_
          refine kx_iadd 642 C dL_law_642 ?_
          obtain ⟨x263, h264, hf⟩ := ob hf
          refine kx_xld 643 C I hX hbl hbA hXX (by omega) h264 dL_law_643 ?_
          obtain ⟨h268, hf⟩ := ift hf
          obtain ⟨x267, S265, h266, hf⟩ := ob2 hf
          refine kx_callVi 644 C hl I (ci := 5) (As := [.int (iI x263)]) (rest := [.int (iI x261)]) (c_X6_worked G l fu _ _ _ _ _ h266) (cwV 1 C.ts gL_law_X6_worked rfl rfl rfl nyV_X6_worked ⟨Nat.le_of_ble_eq_true rfl, Nat.le_of_ble_eq_true rfl⟩) rfl h268 rfl rfl (Nat.le_of_ble_eq_true rfl) dL_law_644 ⟨by show _ ≤ 600000; omega, by show _ ≤ 7302250; omega⟩ (fun H locs I => ?_)
          refine kx_icmp_eq 647 1195 C dL_law_647 (by decide) (fun c269 => ?_) (fun c269 => ?_)
          · have hf := ifp c269 hf
            exact ih2 _ _ _ _ _ _ _ _ _ (by omega) (by omega) (by omega) hf I (lv_sub hl [0, 1, 2, 3] rfl)
          · have hf := ifn c269 hf
            refine kx_iconst 650 C dL_law_650 ?_
            cases hf
        replace hf := ifn c256 hf
        by_cases c270 : x12 = 18
        · have hf := ifp c270 hf
          refine kx_tabIn 32 652 C 18 dL_law_32 (e13 ▸ c270) (by decide) rfl (by decide) ?_
          refine kx_aload_n 652 C dL_law_652 (lv_at hl 1 rfl) ?_
          obtain ⟨h274, hf⟩ := ift hf
          obtain ⟨x273, S271, h272, hf⟩ := ob2 hf
          refine kx_callVi 653 C hl I (ci := 4) (As := []) (rest := []) (c_X5_back G l fu _ _ _ _ h272) (cwV 0 C.ts gL_law_X5_back rfl rfl rfl nyV_X5_back ⟨Nat.le_of_ble_eq_true rfl, Nat.le_of_ble_eq_true rfl⟩) rfl h274 rfl rfl (Nat.le_of_ble_eq_true rfl) dL_law_653 ⟨by show _ ≤ 600000; omega, by show _ ≤ 7302250; omega⟩ (fun H locs I => ?_)
          refine kx_aload_n 656 C dL_law_656 (lv_at hl 2 rfl) ?_
          obtain ⟨h278, hf⟩ := ift hf
          obtain ⟨x277, S275, h276, hf⟩ := ob2 hf
          refine kx_callVi 657 C hl I (ci := 5) (As := []) (rest := [.int (iI x273)]) (c_X6_back G l fu _ _ _ _ h276) (cwV 0 C.ts gL_law_X6_back rfl rfl rfl nyV_X6_back ⟨Nat.le_of_ble_eq_true rfl, Nat.le_of_ble_eq_true rfl⟩) rfl h278 rfl rfl (Nat.le_of_ble_eq_true rfl) dL_law_657 ⟨by show _ ≤ 600000; omega, by show _ ≤ 7302250; omega⟩ (fun H locs I => ?_)
          refine kx_icmp_eq 660 1195 C dL_law_660 (by decide) (fun c279 => ?_) (fun c279 => ?_)
          · have hf := ifp c279 hf
            exact ih2 _ _ _ _ _ _ _ _ _ (by omega) (by omega) (by omega) hf I (lv_sub hl [0, 1, 2, 3] rfl)
          · have hf := ifn c279 hf
            refine kx_iconst 663 C dL_law_663 ?_
            cases hf
        replace hf := ifn c270 hf
        by_cases c280 : x12 = 19
        · have hf := ifp c280 hf
          refine kx_tabIn 32 665 C 19 dL_law_32 (e13 ▸ c280) (by decide) rfl (by decide) ?_
          refine kx_aload_n 665 C dL_law_665 (lv_at hl 1 rfl) ?_
          obtain ⟨h284, hf⟩ := ift hf
          obtain ⟨x283, S281, h282, hf⟩ := ob2 hf
          refine kx_callVi 666 C hl I (ci := 4) (As := []) (rest := []) (c_X5_undoes G l fu _ _ _ _ h282) (cwV 0 C.ts gL_law_X5_undoes rfl rfl rfl nyV_X5_undoes ⟨Nat.le_of_ble_eq_true rfl, Nat.le_of_ble_eq_true rfl⟩) rfl h284 rfl rfl (Nat.le_of_ble_eq_true rfl) dL_law_666 ⟨by show _ ≤ 600000; omega, by show _ ≤ 7302250; omega⟩ (fun H locs I => ?_)
          refine kx_aload_n 669 C dL_law_669 (lv_at hl 2 rfl) ?_
          obtain ⟨h288, hf⟩ := ift hf
          obtain ⟨x287, S285, h286, hf⟩ := ob2 hf
          refine kx_callVi 670 C hl I (ci := 5) (As := []) (rest := [.int (iI x283)]) (c_X6_undoes G l fu _ _ _ _ h286) (cwV 0 C.ts gL_law_X6_undoes rfl rfl rfl nyV_X6_undoes ⟨Nat.le_of_ble_eq_true rfl, Nat.le_of_ble_eq_true rfl⟩) rfl h288 rfl rfl (Nat.le_of_ble_eq_true rfl) dL_law_670 ⟨by show _ ≤ 600000; omega, by show _ ≤ 7302250; omega⟩ (fun H locs I => ?_)
          refine kx_icmp_eq 673 1195 C dL_law_673 (by decide) (fun c289 => ?_) (fun c289 => ?_)
          · have hf := ifp c289 hf
            exact ih2 _ _ _ _ _ _ _ _ _ (by omega) (by omega) (by omega) hf I (lv_sub hl [0, 1, 2, 3] rfl)
          · have hf := ifn c289 hf
            refine kx_iconst 676 C dL_law_676 ?_
            cases hf
        replace hf := ifn c280 hf
        by_cases c290 : x12 = 20
        · have hf := ifp c290 hf
          refine kx_tabIn 32 678 C 20 dL_law_32 (e13 ▸ c290) (by decide) rfl (by decide) ?_
          refine kx_aload_n 678 C dL_law_678 (lv_at hl 1 rfl) ?_
          obtain ⟨h294, hf⟩ := ift hf
          obtain ⟨x293, S291, h292, hf⟩ := ob2 hf
          refine kx_callVi 679 C hl I (ci := 4) (As := []) (rest := []) (c_X5_goesWith G l fu _ _ _ _ h292) (cwV 0 C.ts gL_law_X5_goesWith rfl rfl rfl nyV_X5_goesWith ⟨Nat.le_of_ble_eq_true rfl, Nat.le_of_ble_eq_true rfl⟩) rfl h294 rfl rfl (Nat.le_of_ble_eq_true rfl) dL_law_679 ⟨by show _ ≤ 600000; omega, by show _ ≤ 7302250; omega⟩ (fun H locs I => ?_)
          refine kx_aload_n 682 C dL_law_682 (lv_at hl 2 rfl) ?_
          obtain ⟨h298, hf⟩ := ift hf
          obtain ⟨x297, S295, h296, hf⟩ := ob2 hf
          refine kx_callVi 683 C hl I (ci := 5) (As := []) (rest := [.int (iI x293)]) (c_X6_goesWith G l fu _ _ _ _ h296) (cwV 0 C.ts gL_law_X6_goesWith rfl rfl rfl nyV_X6_goesWith ⟨Nat.le_of_ble_eq_true rfl, Nat.le_of_ble_eq_true rfl⟩) rfl h298 rfl rfl (Nat.le_of_ble_eq_true rfl) dL_law_683 ⟨by show _ ≤ 600000; omega, by show _ ≤ 7302250; omega⟩ (fun H locs I => ?_)
          refine kx_icmp_eq 686 1195 C dL_law_686 (by decide) (fun c299 => ?_) (fun c299 => ?_)
          · have hf := ifp c299 hf
            exact ih2 _ _ _ _ _ _ _ _ _ (by omega) (by omega) (by omega) hf I (lv_sub hl [0, 1, 2, 3] rfl)
          · have hf := ifn c299 hf
            refine kx_iconst 689 C dL_law_689 ?_
            cases hf
        replace hf := ifn c290 hf
        by_cases c300 : x12 = 21
        · have hf := ifp c300 hf
          refine kx_tabIn 32 691 C 21 dL_law_32 (e13 ▸ c300) (by decide) rfl (by decide) ?_
          refine kx_aload_n 691 C dL_law_691 (lv_at hl 1 rfl) ?_
          refine kx_aload_n 692 C dL_law_692 (lv_at hl 0 rfl) ?_
          refine kx_iload_n 693 C dL_law_693 (lv_at hl 3 rfl) ?_
          refine kx_iconst 694 C dL_law_694 ?_
          refine kx_iadd 695 C dL_law_695 ?_
          obtain ⟨x301, h302, hf⟩ := ob hf
          refine kx_xld 696 C I hX hbl hbA hXX (by omega) h302 dL_law_696 ?_
          obtain ⟨h306, hf⟩ := ift hf
          obtain ⟨x305, S303, h304, hf⟩ := ob2 hf
          refine kx_callVi 697 C hl I (ci := 4) (As := [.int (iI x301)]) (rest := []) (c_X5_roots G l fu _ _ _ _ _ h304) (cwV 1 C.ts gL_law_X5_roots rfl rfl rfl nyV_X5_roots ⟨Nat.le_of_ble_eq_true rfl, Nat.le_of_ble_eq_true rfl⟩) rfl h306 rfl rfl (Nat.le_of_ble_eq_true rfl) dL_law_697 ⟨by show _ ≤ 600000; omega, by show _ ≤ 7302250; omega⟩ (fun H locs I => ?_)
          refine kx_aload_n 700 C dL_law_700 (lv_at hl 2 rfl) ?_
          refine kx_aload_n 701 C dL_law_701 (lv_at hl 0 rfl) ?_
          refine kx_iload_n 702 C dL_law_702 (lv_at hl 3 rfl) ?_
          refine kx_iconst 703 C dL_law_703 ?_
          refine kx_iadd 704 C dL_law_704 ?_
          obtain ⟨x307, h308, hf⟩ := ob hf
          refine kx_xld 705 C I hX hbl hbA hXX (by omega) h308 dL_law_705 ?_
          obtain ⟨h312, hf⟩ := ift hf
          obtain ⟨x311, S309, h310, hf⟩ := ob2 hf
          refine kx_callVi 706 C hl I (ci := 5) (As := [.int (iI x307)]) (rest := [.int (iI x305)]) (c_X6_roots G l fu _ _ _ _ _ h310) (cwV 1 C.ts gL_law_X6_roots rfl rfl rfl nyV_X6_roots ⟨Nat.le_of_ble_eq_true rfl, Nat.le_of_ble_eq_true rfl⟩) rfl h312 rfl rfl (Nat.le_of_ble_eq_true rfl) dL_law_706 ⟨by show _ ≤ 600000; omega, by show _ ≤ 7302250; omega⟩ (fun H locs I => ?_)
          refine kx_icmp_eq 709 1195 C dL_law_709 (by decide) (fun c313 => ?_) (fun c313 => ?_)
          · have hf := ifp c313 hf
            exact ih2 _ _ _ _ _ _ _ _ _ (by omega) (by omega) (by omega) hf I (lv_sub hl [0, 1, 2, 3] rfl)
          · have hf := ifn c313 hf
            refine kx_iconst 712 C dL_law_712 ?_
            cases hf
        replace hf := ifn c300 hf
        by_cases c314 : x12 = 22
        · have hf := ifp c314 hf
          refine kx_tabIn 32 714 C 22 dL_law_32 (e13 ▸ c314) (by decide) rfl (by decide) ?_
          refine kx_aload_n 714 C dL_law_714 (lv_at hl 1 rfl) ?_
          refine kx_aload_n 715 C dL_law_715 (lv_at hl 0 rfl) ?_
          refine kx_iload_n 716 C dL_law_716 (lv_at hl 3 rfl) ?_
          refine kx_iconst 717 C dL_law_717 ?_
          refine kx_iadd 718 C dL_law_718 ?_
          obtain ⟨x315, h316, hf⟩ := ob hf
          refine kx_xld 719 C I hX hbl hbA hXX (by omega) h316 dL_law_719 ?_
          obtain ⟨h320, hf⟩ := ift hf
          obtain ⟨x319, S317, h318, hf⟩ := ob2 hf
          refine kx_callVi 720 C hl I (ci := 4) (As := [.int (iI x315)]) (rest := []) (c_X5_alike G l fu _ _ _ _ _ h318) (cwV 1 C.ts gL_law_X5_alike rfl rfl rfl nyV_X5_alike ⟨Nat.le_of_ble_eq_true rfl, Nat.le_of_ble_eq_true rfl⟩) rfl h320 rfl rfl (Nat.le_of_ble_eq_true rfl) dL_law_720 ⟨by show _ ≤ 600000; omega, by show _ ≤ 7302250; omega⟩ (fun H locs I => ?_)
          refine kx_aload_n 723 C dL_law_723 (lv_at hl 2 rfl) ?_
          refine kx_aload_n 724 C dL_law_724 (lv_at hl 0 rfl) ?_
          refine kx_iload_n 725 C dL_law_725 (lv_at hl 3 rfl) ?_
          refine kx_iconst 726 C dL_law_726 ?_
          refine kx_iadd 727 C dL_law_727 ?_
          obtain ⟨x321, h322, hf⟩ := ob hf
          refine kx_xld 728 C I hX hbl hbA hXX (by omega) h322 dL_law_728 ?_
          obtain ⟨h326, hf⟩ := ift hf
          obtain ⟨x325, S323, h324, hf⟩ := ob2 hf
          refine kx_callVi 729 C hl I (ci := 5) (As := [.int (iI x321)]) (rest := [.int (iI x319)]) (c_X6_alike G l fu _ _ _ _ _ h324) (cwV 1 C.ts gL_law_X6_alike rfl rfl rfl nyV_X6_alike ⟨Nat.le_of_ble_eq_true rfl, Nat.le_of_ble_eq_true rfl⟩) rfl h326 rfl rfl (Nat.le_of_ble_eq_true rfl) dL_law_729 ⟨by show _ ≤ 600000; omega, by show _ ≤ 7302250; omega⟩ (fun H locs I => ?_)
          refine kx_icmp_eq 732 1195 C dL_law_732 (by decide) (fun c327 => ?_) (fun c327 => ?_)
          · have hf := ifp c327 hf
            exact ih2 _ _ _ _ _ _ _ _ _ (by omega) (by omega) (by omega) hf I (lv_sub hl [0, 1, 2, 3] rfl)
          · have hf := ifn c327 hf
            refine kx_iconst 735 C dL_law_735 ?_
            cases hf
        replace hf := ifn c314 hf
        by_cases c328 : x12 = 23
        · have hf := ifp c328 hf
          refine kx_tabIn 32 737 C 23 dL_law_32 (e13 ▸ c328) (by decide) rfl (by decide) ?_
          refine kx_aload_n 737 C dL_law_737 (lv_at hl 1 rfl) ?_
          obtain ⟨h332, hf⟩ := ift hf
          obtain ⟨x331, S329, h330, hf⟩ := ob2 hf
          refine kx_callVi 738 C hl I (ci := 4) (As := []) (rest := []) (c_X5_even G l fu _ _ _ _ h330) (cwV 0 C.ts gL_law_X5_even rfl rfl rfl nyV_X5_even ⟨Nat.le_of_ble_eq_true rfl, Nat.le_of_ble_eq_true rfl⟩) rfl h332 rfl rfl (Nat.le_of_ble_eq_true rfl) dL_law_738 ⟨by show _ ≤ 600000; omega, by show _ ≤ 7302250; omega⟩ (fun H locs I => ?_)
          refine kx_aload_n 741 C dL_law_741 (lv_at hl 2 rfl) ?_
          obtain ⟨h336, hf⟩ := ift hf
          obtain ⟨x335, S333, h334, hf⟩ := ob2 hf
          refine kx_callVi 742 C hl I (ci := 5) (As := []) (rest := [.int (iI x331)]) (c_X6_even G l fu _ _ _ _ h334) (cwV 0 C.ts gL_law_X6_even rfl rfl rfl nyV_X6_even ⟨Nat.le_of_ble_eq_true rfl, Nat.le_of_ble_eq_true rfl⟩) rfl h336 rfl rfl (Nat.le_of_ble_eq_true rfl) dL_law_742 ⟨by show _ ≤ 600000; omega, by show _ ≤ 7302250; omega⟩ (fun H locs I => ?_)
          refine kx_icmp_eq 745 1195 C dL_law_745 (by decide) (fun c337 => ?_) (fun c337 => ?_)
          · have hf := ifp c337 hf
            exact ih2 _ _ _ _ _ _ _ _ _ (by omega) (by omega) (by omega) hf I (lv_sub hl [0, 1, 2, 3] rfl)
          · have hf := ifn c337 hf
            refine kx_iconst 748 C dL_law_748 ?_
            cases hf
        replace hf := ifn c328 hf
        by_cases c338 : x12 = 24
        · have hf := ifp c338 hf
          refine kx_tabIn 32 750 C 24 dL_law_32 (e13 ▸ c338) (by decide) rfl (by decide) ?_
          refine kx_aload_n 750 C dL_law_750 (lv_at hl 1 rfl) ?_
          refine kx_aload_n 751 C dL_law_751 (lv_at hl 0 rfl) ?_
          refine kx_iload_n 752 C dL_law_752 (lv_at hl 3 rfl) ?_
          refine kx_iconst 753 C dL_law_753 ?_
          refine kx_iadd 754 C dL_law_754 ?_
          obtain ⟨x339, h340, hf⟩ := ob hf
          refine kx_xld 755 C I hX hbl hbA hXX (by omega) h340 dL_law_755 ?_
          obtain ⟨h344, hf⟩ := ift hf
          obtain ⟨x343, S341, h342, hf⟩ := ob2 hf
          refine kx_callVi 756 C hl I (ci := 4) (As := [.int (iI x339)]) (rest := []) (c_X5_move G l fu _ _ _ _ _ h342) (cwV 1 C.ts gL_law_X5_move rfl rfl rfl nyV_X5_move ⟨Nat.le_of_ble_eq_true rfl, Nat.le_of_ble_eq_true rfl⟩) rfl h344 rfl rfl (Nat.le_of_ble_eq_true rfl) dL_law_756 ⟨by show _ ≤ 600000; omega, by show _ ≤ 7302250; omega⟩ (fun H locs I => ?_)
          refine kx_aload_n 759 C dL_law_759 (lv_at hl 2 rfl) ?_
          refine kx_aload_n 760 C dL_law_760 (lv_at hl 0 rfl) ?_
          refine kx_iload_n 761 C dL_law_761 (lv_at hl 3 rfl) ?_
          refine kx_iconst 762 C dL_law_762 ?_
          refine kx_iadd 763 C dL_law_763 ?_
          obtain ⟨x345, h346, hf⟩ := ob hf
          refine kx_xld 764 C I hX hbl hbA hXX (by omega) h346 dL_law_764 ?_
          obtain ⟨h350, hf⟩ := ift hf
          obtain ⟨x349, S347, h348, hf⟩ := ob2 hf
          refine kx_callVi 765 C hl I (ci := 5) (As := [.int (iI x345)]) (rest := [.int (iI x343)]) (c_X6_move G l fu _ _ _ _ _ h348) (cwV 1 C.ts gL_law_X6_move rfl rfl rfl nyV_X6_move ⟨Nat.le_of_ble_eq_true rfl, Nat.le_of_ble_eq_true rfl⟩) rfl h350 rfl rfl (Nat.le_of_ble_eq_true rfl) dL_law_765 ⟨by show _ ≤ 600000; omega, by show _ ≤ 7302250; omega⟩ (fun H locs I => ?_)
          refine kx_icmp_eq 768 1195 C dL_law_768 (by decide) (fun c351 => ?_) (fun c351 => ?_)
          · have hf := ifp c351 hf
            exact ih2 _ _ _ _ _ _ _ _ _ (by omega) (by omega) (by omega) hf I (lv_sub hl [0, 1, 2, 3] rfl)
          · have hf := ifn c351 hf
            refine kx_iconst 771 C dL_law_771 ?_
            cases hf
        replace hf := ifn c338 hf
        by_cases c352 : x12 = 25
        · have hf := ifp c352 hf
          refine kx_tabIn 32 773 C 25 dL_law_32 (e13 ▸ c352) (by decide) rfl (by decide) ?_
          refine kx_aload_n 773 C dL_law_773 (lv_at hl 1 rfl) ?_
          obtain ⟨h356, hf⟩ := ift hf
          obtain ⟨x355, S353, h354, hf⟩ := ob2 hf
          refine kx_callVi 774 C hl I (ci := 4) (As := []) (rest := []) (c_X5_drop G l fu _ _ _ _ h354) (cwV 0 C.ts gL_law_X5_drop rfl rfl rfl nyV_X5_drop ⟨Nat.le_of_ble_eq_true rfl, Nat.le_of_ble_eq_true rfl⟩) rfl h356 rfl rfl (Nat.le_of_ble_eq_true rfl) dL_law_774 ⟨by show _ ≤ 600000; omega, by show _ ≤ 7302250; omega⟩ (fun H locs I => ?_)
          refine kx_aload_n 777 C dL_law_777 (lv_at hl 2 rfl) ?_
          obtain ⟨h360, hf⟩ := ift hf
          obtain ⟨x359, S357, h358, hf⟩ := ob2 hf
          refine kx_callVi 778 C hl I (ci := 5) (As := []) (rest := [.int (iI x355)]) (c_X6_drop G l fu _ _ _ _ h358) (cwV 0 C.ts gL_law_X6_drop rfl rfl rfl nyV_X6_drop ⟨Nat.le_of_ble_eq_true rfl, Nat.le_of_ble_eq_true rfl⟩) rfl h360 rfl rfl (Nat.le_of_ble_eq_true rfl) dL_law_778 ⟨by show _ ≤ 600000; omega, by show _ ≤ 7302250; omega⟩ (fun H locs I => ?_)
          refine kx_icmp_eq 781 1195 C dL_law_781 (by decide) (fun c361 => ?_) (fun c361 => ?_)
          · have hf := ifp c361 hf
            exact ih2 _ _ _ _ _ _ _ _ _ (by omega) (by omega) (by omega) hf I (lv_sub hl [0, 1, 2, 3] rfl)
          · have hf := ifn c361 hf
            refine kx_iconst 784 C dL_law_784 ?_
            cases hf
        replace hf := ifn c352 hf
        by_cases c362 : x12 = 26
        · have hf := ifp c362 hf
          refine kx_tabIn 32 786 C 26 dL_law_32 (e13 ▸ c362) (by decide) rfl (by decide) ?_
          refine kx_aload_n 786 C dL_law_786 (lv_at hl 1 rfl) ?_
          refine kx_aload_n 787 C dL_law_787 (lv_at hl 0 rfl) ?_
          refine kx_iload_n 788 C dL_law_788 (lv_at hl 3 rfl) ?_
          refine kx_iconst 789 C dL_law_789 ?_
          refine kx_iadd 790 C dL_law_790 ?_
          obtain ⟨x363, h364, hf⟩ := ob hf
          refine kx_xld 791 C I hX hbl hbA hXX (by omega) h364 dL_law_791 ?_
          obtain ⟨h368, hf⟩ := ift hf
          obtain ⟨x367, S365, h366, hf⟩ := ob2 hf
          refine kx_callVi 792 C hl I (ci := 4) (As := [.int (iI x363)]) (rest := []) (c_X5_make G l fu _ _ _ _ _ h366) (cwV 1 C.ts gL_law_X5_make rfl rfl rfl nyV_X5_make ⟨Nat.le_of_ble_eq_true rfl, Nat.le_of_ble_eq_true rfl⟩) rfl h368 rfl rfl (Nat.le_of_ble_eq_true rfl) dL_law_792 ⟨by show _ ≤ 600000; omega, by show _ ≤ 7302250; omega⟩ (fun H locs I => ?_)
          refine kx_aload_n 795 C dL_law_795 (lv_at hl 2 rfl) ?_
          refine kx_aload_n 796 C dL_law_796 (lv_at hl 0 rfl) ?_
          refine kx_iload_n 797 C dL_law_797 (lv_at hl 3 rfl) ?_
          refine kx_iconst 798 C dL_law_798 ?_
          refine kx_iadd 799 C dL_law_799 ?_
          obtain ⟨x369, h370, hf⟩ := ob hf
          refine kx_xld 800 C I hX hbl hbA hXX (by omega) h370 dL_law_800 ?_
          obtain ⟨h374, hf⟩ := ift hf
          obtain ⟨x373, S371, h372, hf⟩ := ob2 hf
          refine kx_callVi 801 C hl I (ci := 5) (As := [.int (iI x369)]) (rest := [.int (iI x367)]) (c_X6_make G l fu _ _ _ _ _ h372) (cwV 1 C.ts gL_law_X6_make rfl rfl rfl nyV_X6_make ⟨Nat.le_of_ble_eq_true rfl, Nat.le_of_ble_eq_true rfl⟩) rfl h374 rfl rfl (Nat.le_of_ble_eq_true rfl) dL_law_801 ⟨by show _ ≤ 600000; omega, by show _ ≤ 7302250; omega⟩ (fun H locs I => ?_)
          refine kx_icmp_eq 804 1195 C dL_law_804 (by decide) (fun c375 => ?_) (fun c375 => ?_)
          · have hf := ifp c375 hf
            exact ih2 _ _ _ _ _ _ _ _ _ (by omega) (by omega) (by omega) hf I (lv_sub hl [0, 1, 2, 3] rfl)
          · have hf := ifn c375 hf
            refine kx_iconst 807 C dL_law_807 ?_
            cases hf
        replace hf := ifn c362 hf
        by_cases c376 : x12 = 27
        · have hf := ifp c376 hf
          refine kx_tabIn 32 809 C 27 dL_law_32 (e13 ▸ c376) (by decide) rfl (by decide) ?_
          refine kx_aload_n 809 C dL_law_809 (lv_at hl 1 rfl) ?_
          obtain ⟨h380, hf⟩ := ift hf
          obtain ⟨x379, S377, h378, hf⟩ := ob2 hf
          refine kx_callVi 810 C hl I (ci := 4) (As := []) (rest := []) (c_X5_group G l fu _ _ _ _ h378) (cwV 0 C.ts gL_law_X5_group rfl rfl rfl nyV_X5_group ⟨Nat.le_of_ble_eq_true rfl, Nat.le_of_ble_eq_true rfl⟩) rfl h380 rfl rfl (Nat.le_of_ble_eq_true rfl) dL_law_810 ⟨by show _ ≤ 600000; omega, by show _ ≤ 7302250; omega⟩ (fun H locs I => ?_)
          refine kx_aload_n 813 C dL_law_813 (lv_at hl 2 rfl) ?_
          obtain ⟨h384, hf⟩ := ift hf
          obtain ⟨x383, S381, h382, hf⟩ := ob2 hf
          refine kx_callVi 814 C hl I (ci := 5) (As := []) (rest := [.int (iI x379)]) (c_X6_group G l fu _ _ _ _ h382) (cwV 0 C.ts gL_law_X6_group rfl rfl rfl nyV_X6_group ⟨Nat.le_of_ble_eq_true rfl, Nat.le_of_ble_eq_true rfl⟩) rfl h384 rfl rfl (Nat.le_of_ble_eq_true rfl) dL_law_814 ⟨by show _ ≤ 600000; omega, by show _ ≤ 7302250; omega⟩ (fun H locs I => ?_)
          refine kx_icmp_eq 817 1195 C dL_law_817 (by decide) (fun c385 => ?_) (fun c385 => ?_)
          · have hf := ifp c385 hf
            exact ih2 _ _ _ _ _ _ _ _ _ (by omega) (by omega) (by omega) hf I (lv_sub hl [0, 1, 2, 3] rfl)
          · have hf := ifn c385 hf
            refine kx_iconst 820 C dL_law_820 ?_
            cases hf
        replace hf := ifn c376 hf
        by_cases c386 : x12 = 28
        · have hf := ifp c386 hf
          refine kx_tabIn 32 822 C 28 dL_law_32 (e13 ▸ c386) (by decide) rfl (by decide) ?_
          refine kx_aload_n 822 C dL_law_822 (lv_at hl 1 rfl) ?_
          refine kx_aload_n 823 C dL_law_823 (lv_at hl 0 rfl) ?_
          refine kx_iload_n 824 C dL_law_824 (lv_at hl 3 rfl) ?_
          refine kx_iconst 825 C dL_law_825 ?_
          refine kx_iadd 826 C dL_law_826 ?_
          obtain ⟨x387, h388, hf⟩ := ob hf
          refine kx_xld 827 C I hX hbl hbA hXX (by omega) h388 dL_law_827 ?_
          refine kx_aload_n 828 C dL_law_828 (lv_at hl 0 rfl) ?_
          refine kx_iload_n 829 C dL_law_829 (lv_at hl 3 rfl) ?_
          refine kx_iconst 830 C dL_law_830 ?_
          refine kx_iadd 831 C dL_law_831 ?_
          obtain ⟨x389, h390, hf⟩ := ob hf
          refine kx_xld 832 C I hX hbl hbA hXX (by omega) h390 dL_law_832 ?_
          obtain ⟨h394, hf⟩ := ift hf
          obtain ⟨x393, S391, h392, hf⟩ := ob2 hf
          refine kx_callVi 833 C hl I (ci := 4) (As := [.int (iI x387), .int (iI x389)]) (rest := []) (c_X5_fewest G l fu _ _ _ _ _ _ h392) (cwV 2 C.ts gL_law_X5_fewest rfl rfl rfl nyV_X5_fewest ⟨Nat.le_of_ble_eq_true rfl, Nat.le_of_ble_eq_true rfl⟩) rfl h394 rfl rfl (Nat.le_of_ble_eq_true rfl) dL_law_833 ⟨by show _ ≤ 600000; omega, by show _ ≤ 7302250; omega⟩ (fun H locs I => ?_)
          refine kx_aload_n 836 C dL_law_836 (lv_at hl 2 rfl) ?_
          refine kx_aload_n 837 C dL_law_837 (lv_at hl 0 rfl) ?_
          refine kx_iload_n 838 C dL_law_838 (lv_at hl 3 rfl) ?_
          refine kx_iconst 839 C dL_law_839 ?_
          refine kx_iadd 840 C dL_law_840 ?_
          obtain ⟨x395, h396, hf⟩ := ob hf
          refine kx_xld 841 C I hX hbl hbA hXX (by omega) h396 dL_law_841 ?_
          refine kx_aload_n 842 C dL_law_842 (lv_at hl 0 rfl) ?_
          refine kx_iload_n 843 C dL_law_843 (lv_at hl 3 rfl) ?_
          refine kx_iconst 844 C dL_law_844 ?_
          refine kx_iadd 845 C dL_law_845 ?_
          obtain ⟨x397, h398, hf⟩ := ob hf
          refine kx_xld 846 C I hX hbl hbA hXX (by omega) h398 dL_law_846 ?_
          obtain ⟨h402, hf⟩ := ift hf
          obtain ⟨x401, S399, h400, hf⟩ := ob2 hf
          refine kx_callVi 847 C hl I (ci := 5) (As := [.int (iI x395), .int (iI x397)]) (rest := [.int (iI x393)]) (c_X6_fewest G l fu _ _ _ _ _ _ h400) (cwV 2 C.ts gL_law_X6_fewest rfl rfl rfl nyV_X6_fewest ⟨Nat.le_of_ble_eq_true rfl, Nat.le_of_ble_eq_true rfl⟩) rfl h402 rfl rfl (Nat.le_of_ble_eq_true rfl) dL_law_847 ⟨by show _ ≤ 600000; omega, by show _ ≤ 7302250; omega⟩ (fun H locs I => ?_)
          refine kx_icmp_eq 850 1195 C dL_law_850 (by decide) (fun c403 => ?_) (fun c403 => ?_)
          · have hf := ifp c403 hf
            exact ih2 _ _ _ _ _ _ _ _ _ (by omega) (by omega) (by omega) hf I (lv_sub hl [0, 1, 2, 3] rfl)
          · have hf := ifn c403 hf
            refine kx_iconst 853 C dL_law_853 ?_
            cases hf
        replace hf := ifn c386 hf
        by_cases c404 : x12 = 29
        · have hf := ifp c404 hf
          refine kx_tabIn 32 855 C 29 dL_law_32 (e13 ▸ c404) (by decide) rfl (by decide) ?_
          refine kx_aload_n 855 C dL_law_855 (lv_at hl 1 rfl) ?_
          refine kx_aload_n 856 C dL_law_856 (lv_at hl 0 rfl) ?_
          refine kx_iload_n 857 C dL_law_857 (lv_at hl 3 rfl) ?_
          refine kx_iconst 858 C dL_law_858 ?_
          refine kx_iadd 859 C dL_law_859 ?_
          obtain ⟨x405, h406, hf⟩ := ob hf
          refine kx_xld 860 C I hX hbl hbA hXX (by omega) h406 dL_law_860 ?_
          obtain ⟨h410, hf⟩ := ift hf
          obtain ⟨x409, S407, h408, hf⟩ := ob2 hf
          refine kx_callVi 861 C hl I (ci := 4) (As := [.int (iI x405)]) (rest := []) (c_X5_till G l fu _ _ _ _ _ h408) (cwV 1 C.ts gL_law_X5_till rfl rfl rfl nyV_X5_till ⟨Nat.le_of_ble_eq_true rfl, Nat.le_of_ble_eq_true rfl⟩) rfl h410 rfl rfl (Nat.le_of_ble_eq_true rfl) dL_law_861 ⟨by show _ ≤ 600000; omega, by show _ ≤ 7302250; omega⟩ (fun H locs I => ?_)
          refine kx_aload_n 864 C dL_law_864 (lv_at hl 2 rfl) ?_
          refine kx_aload_n 865 C dL_law_865 (lv_at hl 0 rfl) ?_
          refine kx_iload_n 866 C dL_law_866 (lv_at hl 3 rfl) ?_
          refine kx_iconst 867 C dL_law_867 ?_
          refine kx_iadd 868 C dL_law_868 ?_
          obtain ⟨x411, h412, hf⟩ := ob hf
          refine kx_xld 869 C I hX hbl hbA hXX (by omega) h412 dL_law_869 ?_
          obtain ⟨h416, hf⟩ := ift hf
          obtain ⟨x415, S413, h414, hf⟩ := ob2 hf
          refine kx_callVi 870 C hl I (ci := 5) (As := [.int (iI x411)]) (rest := [.int (iI x409)]) (c_X6_till G l fu _ _ _ _ _ h414) (cwV 1 C.ts gL_law_X6_till rfl rfl rfl nyV_X6_till ⟨Nat.le_of_ble_eq_true rfl, Nat.le_of_ble_eq_true rfl⟩) rfl h416 rfl rfl (Nat.le_of_ble_eq_true rfl) dL_law_870 ⟨by show _ ≤ 600000; omega, by show _ ≤ 7302250; omega⟩ (fun H locs I => ?_)
          refine kx_icmp_eq 873 1195 C dL_law_873 (by decide) (fun c417 => ?_) (fun c417 => ?_)
          · have hf := ifp c417 hf
            exact ih2 _ _ _ _ _ _ _ _ _ (by omega) (by omega) (by omega) hf I (lv_sub hl [0, 1, 2, 3] rfl)
          · have hf := ifn c417 hf
            refine kx_iconst 876 C dL_law_876 ?_
            cases hf
        replace hf := ifn c404 hf
        by_cases c418 : x12 = 30
        · have hf := ifp c418 hf
          refine kx_tabIn 32 878 C 30 dL_law_32 (e13 ▸ c418) (by decide) rfl (by decide) ?_
          refine kx_aload_n 878 C dL_law_878 (lv_at hl 1 rfl) ?_
          refine kx_aload_n 879 C dL_law_879 (lv_at hl 0 rfl) ?_
          refine kx_iload_n 880 C dL_law_880 (lv_at hl 3 rfl) ?_
          refine kx_iconst 881 C dL_law_881 ?_
          refine kx_iadd 882 C dL_law_882 ?_
          obtain ⟨x419, h420, hf⟩ := ob hf
          refine kx_xld 883 C I hX hbl hbA hXX (by omega) h420 dL_law_883 ?_
          obtain ⟨h424, hf⟩ := ift hf
          obtain ⟨x423, S421, h422, hf⟩ := ob2 hf
          refine kx_callVi 884 C hl I (ci := 4) (As := [.int (iI x419)]) (rest := []) (c_X5_mayBe G l fu _ _ _ _ _ h422) (cwV 1 C.ts gL_law_X5_mayBe rfl rfl rfl nyV_X5_mayBe ⟨Nat.le_of_ble_eq_true rfl, Nat.le_of_ble_eq_true rfl⟩) rfl h424 rfl rfl (Nat.le_of_ble_eq_true rfl) dL_law_884 ⟨by show _ ≤ 600000; omega, by show _ ≤ 7302250; omega⟩ (fun H locs I => ?_)
          refine kx_aload_n 887 C dL_law_887 (lv_at hl 2 rfl) ?_
          refine kx_aload_n 888 C dL_law_888 (lv_at hl 0 rfl) ?_
          refine kx_iload_n 889 C dL_law_889 (lv_at hl 3 rfl) ?_
          refine kx_iconst 890 C dL_law_890 ?_
          refine kx_iadd 891 C dL_law_891 ?_
          obtain ⟨x425, h426, hf⟩ := ob hf
          refine kx_xld 892 C I hX hbl hbA hXX (by omega) h426 dL_law_892 ?_
          obtain ⟨h430, hf⟩ := ift hf
          obtain ⟨x429, S427, h428, hf⟩ := ob2 hf
          refine kx_callVi 893 C hl I (ci := 5) (As := [.int (iI x425)]) (rest := [.int (iI x423)]) (c_X6_mayBe G l fu _ _ _ _ _ h428) (cwV 1 C.ts gL_law_X6_mayBe rfl rfl rfl nyV_X6_mayBe ⟨Nat.le_of_ble_eq_true rfl, Nat.le_of_ble_eq_true rfl⟩) rfl h430 rfl rfl (Nat.le_of_ble_eq_true rfl) dL_law_893 ⟨by show _ ≤ 600000; omega, by show _ ≤ 7302250; omega⟩ (fun H locs I => ?_)
          refine kx_icmp_eq 896 1195 C dL_law_896 (by decide) (fun c431 => ?_) (fun c431 => ?_)
          · have hf := ifp c431 hf
            exact ih2 _ _ _ _ _ _ _ _ _ (by omega) (by omega) (by omega) hf I (lv_sub hl [0, 1, 2, 3] rfl)
          · have hf := ifn c431 hf
            refine kx_iconst 899 C dL_law_899 ?_
            cases hf
        replace hf := ifn c418 hf
        by_cases c432 : x12 = 31
        · have hf := ifp c432 hf
          refine kx_tabIn 32 901 C 31 dL_law_32 (e13 ▸ c432) (by decide) rfl (by decide) ?_
          refine kx_aload_n 901 C dL_law_901 (lv_at hl 1 rfl) ?_
          refine kx_aload_n 902 C dL_law_902 (lv_at hl 0 rfl) ?_
          refine kx_iload_n 903 C dL_law_903 (lv_at hl 3 rfl) ?_
          refine kx_iconst 904 C dL_law_904 ?_
          refine kx_iadd 905 C dL_law_905 ?_
          obtain ⟨x433, h434, hf⟩ := ob hf
          refine kx_xld 906 C I hX hbl hbA hXX (by omega) h434 dL_law_906 ?_
          obtain ⟨h438, hf⟩ := ift hf
          obtain ⟨x437, S435, h436, hf⟩ := ob2 hf
          refine kx_callVi 907 C hl I (ci := 4) (As := [.int (iI x433)]) (rest := []) (c_X5_chance G l fu _ _ _ _ _ h436) (cwV 1 C.ts gL_law_X5_chance rfl rfl rfl nyV_X5_chance ⟨Nat.le_of_ble_eq_true rfl, Nat.le_of_ble_eq_true rfl⟩) rfl h438 rfl rfl (Nat.le_of_ble_eq_true rfl) dL_law_907 ⟨by show _ ≤ 600000; omega, by show _ ≤ 7302250; omega⟩ (fun H locs I => ?_)
          refine kx_aload_n 910 C dL_law_910 (lv_at hl 2 rfl) ?_
          refine kx_aload_n 911 C dL_law_911 (lv_at hl 0 rfl) ?_
          refine kx_iload_n 912 C dL_law_912 (lv_at hl 3 rfl) ?_
          refine kx_iconst 913 C dL_law_913 ?_
          refine kx_iadd 914 C dL_law_914 ?_
          obtain ⟨x439, h440, hf⟩ := ob hf
          refine kx_xld 915 C I hX hbl hbA hXX (by omega) h440 dL_law_915 ?_
          obtain ⟨h444, hf⟩ := ift hf
          obtain ⟨x443, S441, h442, hf⟩ := ob2 hf
          refine kx_callVi 916 C hl I (ci := 5) (As := [.int (iI x439)]) (rest := [.int (iI x437)]) (c_X6_chance G l fu _ _ _ _ _ h442) (cwV 1 C.ts gL_law_X6_chance rfl rfl rfl nyV_X6_chance ⟨Nat.le_of_ble_eq_true rfl, Nat.le_of_ble_eq_true rfl⟩) rfl h444 rfl rfl (Nat.le_of_ble_eq_true rfl) dL_law_916 ⟨by show _ ≤ 600000; omega, by show _ ≤ 7302250; omega⟩ (fun H locs I => ?_)
          refine kx_icmp_eq 919 1195 C dL_law_919 (by decide) (fun c445 => ?_) (fun c445 => ?_)
          · have hf := ifp c445 hf
            exact ih2 _ _ _ _ _ _ _ _ _ (by omega) (by omega) (by omega) hf I (lv_sub hl [0, 1, 2, 3] rfl)
          · have hf := ifn c445 hf
            refine kx_iconst 922 C dL_law_922 ?_
            cases hf
        replace hf := ifn c432 hf
        by_cases c446 : x12 = 32
        · have hf := ifp c446 hf
          refine kx_tabIn 32 924 C 32 dL_law_32 (e13 ▸ c446) (by decide) rfl (by decide) ?_
          refine kx_aload_n 924 C dL_law_924 (lv_at hl 1 rfl) ?_
          obtain ⟨h450, hf⟩ := ift hf
          obtain ⟨x449, S447, h448, hf⟩ := ob2 hf
          refine kx_callVi 925 C hl I (ci := 4) (As := []) (rest := []) (c_X5_look G l fu _ _ _ _ h448) (cwV 0 C.ts gL_law_X5_look rfl rfl rfl nyV_X5_look ⟨Nat.le_of_ble_eq_true rfl, Nat.le_of_ble_eq_true rfl⟩) rfl h450 rfl rfl (Nat.le_of_ble_eq_true rfl) dL_law_925 ⟨by show _ ≤ 600000; omega, by show _ ≤ 7302250; omega⟩ (fun H locs I => ?_)
          refine kx_aload_n 928 C dL_law_928 (lv_at hl 2 rfl) ?_
          obtain ⟨h454, hf⟩ := ift hf
          obtain ⟨x453, S451, h452, hf⟩ := ob2 hf
          refine kx_callVi 929 C hl I (ci := 5) (As := []) (rest := [.int (iI x449)]) (c_X6_look G l fu _ _ _ _ h452) (cwV 0 C.ts gL_law_X6_look rfl rfl rfl nyV_X6_look ⟨Nat.le_of_ble_eq_true rfl, Nat.le_of_ble_eq_true rfl⟩) rfl h454 rfl rfl (Nat.le_of_ble_eq_true rfl) dL_law_929 ⟨by show _ ≤ 600000; omega, by show _ ≤ 7302250; omega⟩ (fun H locs I => ?_)
          refine kx_icmp_eq 932 1195 C dL_law_932 (by decide) (fun c455 => ?_) (fun c455 => ?_)
          · have hf := ifp c455 hf
            exact ih2 _ _ _ _ _ _ _ _ _ (by omega) (by omega) (by omega) hf I (lv_sub hl [0, 1, 2, 3] rfl)
          · have hf := ifn c455 hf
            refine kx_iconst 935 C dL_law_935 ?_
            cases hf
        replace hf := ifn c446 hf
        by_cases c456 : x12 = 33
        · have hf := ifp c456 hf
          refine kx_tabIn 32 937 C 33 dL_law_32 (e13 ▸ c456) (by decide) rfl (by decide) ?_
          refine kx_aload_n 937 C dL_law_937 (lv_at hl 1 rfl) ?_
          obtain ⟨h460, hf⟩ := ift hf
          obtain ⟨x459, S457, h458, hf⟩ := ob2 hf
          refine kx_callVi 938 C hl I (ci := 4) (As := []) (rest := []) (c_X5_advice G l fu _ _ _ _ h458) (cwV 0 C.ts gL_law_X5_advice rfl rfl rfl nyV_X5_advice ⟨Nat.le_of_ble_eq_true rfl, Nat.le_of_ble_eq_true rfl⟩) rfl h460 rfl rfl (Nat.le_of_ble_eq_true rfl) dL_law_938 ⟨by show _ ≤ 600000; omega, by show _ ≤ 7302250; omega⟩ (fun H locs I => ?_)
          refine kx_aload_n 941 C dL_law_941 (lv_at hl 2 rfl) ?_
          obtain ⟨h464, hf⟩ := ift hf
          obtain ⟨x463, S461, h462, hf⟩ := ob2 hf
          refine kx_callVi 942 C hl I (ci := 5) (As := []) (rest := [.int (iI x459)]) (c_X6_advice G l fu _ _ _ _ h462) (cwV 0 C.ts gL_law_X6_advice rfl rfl rfl nyV_X6_advice ⟨Nat.le_of_ble_eq_true rfl, Nat.le_of_ble_eq_true rfl⟩) rfl h464 rfl rfl (Nat.le_of_ble_eq_true rfl) dL_law_942 ⟨by show _ ≤ 600000; omega, by show _ ≤ 7302250; omega⟩ (fun H locs I => ?_)
          refine kx_icmp_eq 945 1195 C dL_law_945 (by decide) (fun c465 => ?_) (fun c465 => ?_)
          · have hf := ifp c465 hf
            exact ih2 _ _ _ _ _ _ _ _ _ (by omega) (by omega) (by omega) hf I (lv_sub hl [0, 1, 2, 3] rfl)
          · have hf := ifn c465 hf
            refine kx_iconst 948 C dL_law_948 ?_
            cases hf
        replace hf := ifn c456 hf
        by_cases c466 : x12 = 34
        · have hf := ifp c466 hf
          refine kx_tabIn 32 950 C 34 dL_law_32 (e13 ▸ c466) (by decide) rfl (by decide) ?_
          refine kx_aload_n 950 C dL_law_950 (lv_at hl 1 rfl) ?_
          refine kx_aload_n 951 C dL_law_951 (lv_at hl 0 rfl) ?_
          refine kx_iload_n 952 C dL_law_952 (lv_at hl 3 rfl) ?_
          refine kx_iconst 953 C dL_law_953 ?_
          refine kx_iadd 954 C dL_law_954 ?_
          obtain ⟨x467, h468, hf⟩ := ob hf
          refine kx_xld 955 C I hX hbl hbA hXX (by omega) h468 dL_law_955 ?_
          obtain ⟨h472, hf⟩ := ift hf
          obtain ⟨x471, S469, h470, hf⟩ := ob2 hf
          refine kx_callVi 956 C hl I (ci := 4) (As := [.int (iI x467)]) (rest := []) (c_X5_worst G l fu _ _ _ _ _ h470) (cwV 1 C.ts gL_law_X5_worst rfl rfl rfl nyV_X5_worst ⟨Nat.le_of_ble_eq_true rfl, Nat.le_of_ble_eq_true rfl⟩) rfl h472 rfl rfl (Nat.le_of_ble_eq_true rfl) dL_law_956 ⟨by show _ ≤ 600000; omega, by show _ ≤ 7302250; omega⟩ (fun H locs I => ?_)
          refine kx_aload_n 959 C dL_law_959 (lv_at hl 2 rfl) ?_
          refine kx_aload_n 960 C dL_law_960 (lv_at hl 0 rfl) ?_
          refine kx_iload_n 961 C dL_law_961 (lv_at hl 3 rfl) ?_
          refine kx_iconst 962 C dL_law_962 ?_
          refine kx_iadd 963 C dL_law_963 ?_
          obtain ⟨x473, h474, hf⟩ := ob hf
          refine kx_xld 964 C I hX hbl hbA hXX (by omega) h474 dL_law_964 ?_
          obtain ⟨h478, hf⟩ := ift hf
          obtain ⟨x477, S475, h476, hf⟩ := ob2 hf
          refine kx_callVi 965 C hl I (ci := 5) (As := [.int (iI x473)]) (rest := [.int (iI x471)]) (c_X6_worst G l fu _ _ _ _ _ h476) (cwV 1 C.ts gL_law_X6_worst rfl rfl rfl nyV_X6_worst ⟨Nat.le_of_ble_eq_true rfl, Nat.le_of_ble_eq_true rfl⟩) rfl h478 rfl rfl (Nat.le_of_ble_eq_true rfl) dL_law_965 ⟨by show _ ≤ 600000; omega, by show _ ≤ 7302250; omega⟩ (fun H locs I => ?_)
          refine kx_icmp_eq 968 1195 C dL_law_968 (by decide) (fun c479 => ?_) (fun c479 => ?_)
          · have hf := ifp c479 hf
            exact ih2 _ _ _ _ _ _ _ _ _ (by omega) (by omega) (by omega) hf I (lv_sub hl [0, 1, 2, 3] rfl)
          · have hf := ifn c479 hf
            refine kx_iconst 971 C dL_law_971 ?_
            cases hf
        replace hf := ifn c466 hf
        by_cases c480 : x12 = 35
        · have hf := ifp c480 hf
          refine kx_tabIn 32 973 C 35 dL_law_32 (e13 ▸ c480) (by decide) rfl (by decide) ?_
          refine kx_aload_n 973 C dL_law_973 (lv_at hl 1 rfl) ?_
          obtain ⟨h484, hf⟩ := ift hf
          obtain ⟨x483, S481, h482, hf⟩ := ob2 hf
          refine kx_callVi 974 C hl I (ci := 4) (As := []) (rest := []) (c_X5_mended G l fu _ _ _ _ h482) (cwV 0 C.ts gL_law_X5_mended rfl rfl rfl nyV_X5_mended ⟨Nat.le_of_ble_eq_true rfl, Nat.le_of_ble_eq_true rfl⟩) rfl h484 rfl rfl (Nat.le_of_ble_eq_true rfl) dL_law_974 ⟨by show _ ≤ 600000; omega, by show _ ≤ 7302250; omega⟩ (fun H locs I => ?_)
          refine kx_aload_n 977 C dL_law_977 (lv_at hl 2 rfl) ?_
          obtain ⟨h488, hf⟩ := ift hf
          obtain ⟨x487, S485, h486, hf⟩ := ob2 hf
          refine kx_callVi 978 C hl I (ci := 5) (As := []) (rest := [.int (iI x483)]) (c_X6_mended G l fu _ _ _ _ h486) (cwV 0 C.ts gL_law_X6_mended rfl rfl rfl nyV_X6_mended ⟨Nat.le_of_ble_eq_true rfl, Nat.le_of_ble_eq_true rfl⟩) rfl h488 rfl rfl (Nat.le_of_ble_eq_true rfl) dL_law_978 ⟨by show _ ≤ 600000; omega, by show _ ≤ 7302250; omega⟩ (fun H locs I => ?_)
          refine kx_icmp_eq 981 1195 C dL_law_981 (by decide) (fun c489 => ?_) (fun c489 => ?_)
          · have hf := ifp c489 hf
            exact ih2 _ _ _ _ _ _ _ _ _ (by omega) (by omega) (by omega) hf I (lv_sub hl [0, 1, 2, 3] rfl)
          · have hf := ifn c489 hf
            refine kx_iconst 984 C dL_law_984 ?_
            cases hf
        replace hf := ifn c480 hf
        by_cases c490 : x12 = 36
        · have hf := ifp c490 hf
          refine kx_tabIn 32 986 C 36 dL_law_32 (e13 ▸ c490) (by decide) rfl (by decide) ?_
          refine kx_aload_n 986 C dL_law_986 (lv_at hl 1 rfl) ?_
          refine kx_aload_n 987 C dL_law_987 (lv_at hl 0 rfl) ?_
          refine kx_iload_n 988 C dL_law_988 (lv_at hl 3 rfl) ?_
          refine kx_iconst 989 C dL_law_989 ?_
          refine kx_iadd 990 C dL_law_990 ?_
          obtain ⟨x491, h492, hf⟩ := ob hf
          refine kx_xld 991 C I hX hbl hbA hXX (by omega) h492 dL_law_991 ?_
          obtain ⟨h496, hf⟩ := ift hf
          obtain ⟨x495, S493, h494, hf⟩ := ob2 hf
          refine kx_callVi 992 C hl I (ci := 4) (As := [.int (iI x491)]) (rest := []) (c_X5_third G l fu _ _ _ _ _ h494) (cwV 1 C.ts gL_law_X5_third rfl rfl rfl nyV_X5_third ⟨Nat.le_of_ble_eq_true rfl, Nat.le_of_ble_eq_true rfl⟩) rfl h496 rfl rfl (Nat.le_of_ble_eq_true rfl) dL_law_992 ⟨by show _ ≤ 600000; omega, by show _ ≤ 7302250; omega⟩ (fun H locs I => ?_)
          refine kx_aload_n 995 C dL_law_995 (lv_at hl 2 rfl) ?_
          refine kx_aload_n 996 C dL_law_996 (lv_at hl 0 rfl) ?_
          refine kx_iload_n 997 C dL_law_997 (lv_at hl 3 rfl) ?_
          refine kx_iconst 998 C dL_law_998 ?_
          refine kx_iadd 999 C dL_law_999 ?_
          obtain ⟨x497, h498, hf⟩ := ob hf
          refine kx_xld 1000 C I hX hbl hbA hXX (by omega) h498 dL_law_1000 ?_
          obtain ⟨h502, hf⟩ := ift hf
          obtain ⟨x501, S499, h500, hf⟩ := ob2 hf
          refine kx_callVi 1001 C hl I (ci := 5) (As := [.int (iI x497)]) (rest := [.int (iI x495)]) (c_X6_third G l fu _ _ _ _ _ h500) (cwV 1 C.ts gL_law_X6_third rfl rfl rfl nyV_X6_third ⟨Nat.le_of_ble_eq_true rfl, Nat.le_of_ble_eq_true rfl⟩) rfl h502 rfl rfl (Nat.le_of_ble_eq_true rfl) dL_law_1001 ⟨by show _ ≤ 600000; omega, by show _ ≤ 7302250; omega⟩ (fun H locs I => ?_)
          refine kx_icmp_eq 1004 1195 C dL_law_1004 (by decide) (fun c503 => ?_) (fun c503 => ?_)
          · have hf := ifp c503 hf
            exact ih2 _ _ _ _ _ _ _ _ _ (by omega) (by omega) (by omega) hf I (lv_sub hl [0, 1, 2, 3] rfl)
          · have hf := ifn c503 hf
            refine kx_iconst 1007 C dL_law_1007 ?_
            cases hf
        replace hf := ifn c490 hf
        by_cases c504 : x12 = 37
        · have hf := ifp c504 hf
          refine kx_tabIn 32 1009 C 37 dL_law_32 (e13 ▸ c504) (by decide) rfl (by decide) ?_
          refine kx_aload_n 1009 C dL_law_1009 (lv_at hl 1 rfl) ?_
          refine kx_aload_n 1010 C dL_law_1010 (lv_at hl 0 rfl) ?_
          refine kx_iload_n 1011 C dL_law_1011 (lv_at hl 3 rfl) ?_
          refine kx_iconst 1012 C dL_law_1012 ?_
          refine kx_iadd 1013 C dL_law_1013 ?_
          obtain ⟨x505, h506, hf⟩ := ob hf
          refine kx_xld 1014 C I hX hbl hbA hXX (by omega) h506 dL_law_1014 ?_
          obtain ⟨h510, hf⟩ := ift hf
          obtain ⟨x509, S507, h508, hf⟩ := ob2 hf
          refine kx_callVi 1015 C hl I (ci := 4) (As := [.int (iI x505)]) (rest := []) (c_X5_laid G l fu _ _ _ _ _ h508) (cwV 1 C.ts gL_law_X5_laid rfl rfl rfl nyV_X5_laid ⟨Nat.le_of_ble_eq_true rfl, Nat.le_of_ble_eq_true rfl⟩) rfl h510 rfl rfl (Nat.le_of_ble_eq_true rfl) dL_law_1015 ⟨by show _ ≤ 600000; omega, by show _ ≤ 7302250; omega⟩ (fun H locs I => ?_)
          refine kx_aload_n 1018 C dL_law_1018 (lv_at hl 2 rfl) ?_
          refine kx_aload_n 1019 C dL_law_1019 (lv_at hl 0 rfl) ?_
          refine kx_iload_n 1020 C dL_law_1020 (lv_at hl 3 rfl) ?_
          refine kx_iconst 1021 C dL_law_1021 ?_
          refine kx_iadd 1022 C dL_law_1022 ?_
          obtain ⟨x511, h512, hf⟩ := ob hf
          refine kx_xld 1023 C I hX hbl hbA hXX (by omega) h512 dL_law_1023 ?_
          obtain ⟨h516, hf⟩ := ift hf
          obtain ⟨x515, S513, h514, hf⟩ := ob2 hf
          refine kx_callVi 1024 C hl I (ci := 5) (As := [.int (iI x511)]) (rest := [.int (iI x509)]) (c_X6_laid G l fu _ _ _ _ _ h514) (cwV 1 C.ts gL_law_X6_laid rfl rfl rfl nyV_X6_laid ⟨Nat.le_of_ble_eq_true rfl, Nat.le_of_ble_eq_true rfl⟩) rfl h516 rfl rfl (Nat.le_of_ble_eq_true rfl) dL_law_1024 ⟨by show _ ≤ 600000; omega, by show _ ≤ 7302250; omega⟩ (fun H locs I => ?_)
          refine kx_icmp_eq 1027 1195 C dL_law_1027 (by decide) (fun c517 => ?_) (fun c517 => ?_)
          · have hf := ifp c517 hf
            exact ih2 _ _ _ _ _ _ _ _ _ (by omega) (by omega) (by omega) hf I (lv_sub hl [0, 1, 2, 3] rfl)
          · have hf := ifn c517 hf
            refine kx_iconst 1030 C dL_law_1030 ?_
            cases hf
        replace hf := ifn c504 hf
        by_cases c518 : x12 = 38
        · have hf := ifp c518 hf
          refine kx_tabIn 32 1032 C 38 dL_law_32 (e13 ▸ c518) (by decide) rfl (by decide) ?_
          refine kx_aload_n 1032 C dL_law_1032 (lv_at hl 1 rfl) ?_
          refine kx_aload_n 1033 C dL_law_1033 (lv_at hl 0 rfl) ?_
          refine kx_iload_n 1034 C dL_law_1034 (lv_at hl 3 rfl) ?_
          refine kx_iconst 1035 C dL_law_1035 ?_
          refine kx_iadd 1036 C dL_law_1036 ?_
          obtain ⟨x519, h520, hf⟩ := ob hf
          refine kx_xld 1037 C I hX hbl hbA hXX (by omega) h520 dL_law_1037 ?_
          refine kx_aload_n 1038 C dL_law_1038 (lv_at hl 0 rfl) ?_
          refine kx_iload_n 1039 C dL_law_1039 (lv_at hl 3 rfl) ?_
          refine kx_iconst 1040 C dL_law_1040 ?_
          refine kx_iadd 1041 C dL_law_1041 ?_
          obtain ⟨x521, h522, hf⟩ := ob hf
          refine kx_xld 1042 C I hX hbl hbA hXX (by omega) h522 dL_law_1042 ?_
          obtain ⟨h526, hf⟩ := ift hf
          obtain ⟨x525, S523, h524, hf⟩ := ob2 hf
          refine kx_callVi 1043 C hl I (ci := 4) (As := [.int (iI x519), .int (iI x521)]) (rest := []) (c_X5_lucky G l fu _ _ _ _ _ _ h524) (cwV 2 C.ts gL_law_X5_lucky rfl rfl rfl nyV_X5_lucky ⟨Nat.le_of_ble_eq_true rfl, Nat.le_of_ble_eq_true rfl⟩) rfl h526 rfl rfl (Nat.le_of_ble_eq_true rfl) dL_law_1043 ⟨by show _ ≤ 600000; omega, by show _ ≤ 7302250; omega⟩ (fun H locs I => ?_)
          refine kx_aload_n 1046 C dL_law_1046 (lv_at hl 2 rfl) ?_
          refine kx_aload_n 1047 C dL_law_1047 (lv_at hl 0 rfl) ?_
          refine kx_iload_n 1048 C dL_law_1048 (lv_at hl 3 rfl) ?_
          refine kx_iconst 1049 C dL_law_1049 ?_
          refine kx_iadd 1050 C dL_law_1050 ?_
          obtain ⟨x527, h528, hf⟩ := ob hf
          refine kx_xld 1051 C I hX hbl hbA hXX (by omega) h528 dL_law_1051 ?_
          refine kx_aload_n 1052 C dL_law_1052 (lv_at hl 0 rfl) ?_
          refine kx_iload_n 1053 C dL_law_1053 (lv_at hl 3 rfl) ?_
          refine kx_iconst 1054 C dL_law_1054 ?_
          refine kx_iadd 1055 C dL_law_1055 ?_
          obtain ⟨x529, h530, hf⟩ := ob hf
          refine kx_xld 1056 C I hX hbl hbA hXX (by omega) h530 dL_law_1056 ?_
          obtain ⟨h534, hf⟩ := ift hf
          obtain ⟨x533, S531, h532, hf⟩ := ob2 hf
          refine kx_callVi 1057 C hl I (ci := 5) (As := [.int (iI x527), .int (iI x529)]) (rest := [.int (iI x525)]) (c_X6_lucky G l fu _ _ _ _ _ _ h532) (cwV 2 C.ts gL_law_X6_lucky rfl rfl rfl nyV_X6_lucky ⟨Nat.le_of_ble_eq_true rfl, Nat.le_of_ble_eq_true rfl⟩) rfl h534 rfl rfl (Nat.le_of_ble_eq_true rfl) dL_law_1057 ⟨by show _ ≤ 600000; omega, by show _ ≤ 7302250; omega⟩ (fun H locs I => ?_)
          refine kx_icmp_eq 1060 1195 C dL_law_1060 (by decide) (fun c535 => ?_) (fun c535 => ?_)
          · have hf := ifp c535 hf
            exact ih2 _ _ _ _ _ _ _ _ _ (by omega) (by omega) (by omega) hf I (lv_sub hl [0, 1, 2, 3] rfl)
          · have hf := ifn c535 hf
            refine kx_iconst 1063 C dL_law_1063 ?_
            cases hf
        replace hf := ifn c518 hf
        by_cases c536 : x12 = 39
        · have hf := ifp c536 hf
          refine kx_tabIn 32 1065 C 39 dL_law_32 (e13 ▸ c536) (by decide) rfl (by decide) ?_
          refine kx_aload_n 1065 C dL_law_1065 (lv_at hl 1 rfl) ?_
          refine kx_aload_n 1066 C dL_law_1066 (lv_at hl 0 rfl) ?_
          refine kx_iload_n 1067 C dL_law_1067 (lv_at hl 3 rfl) ?_
          refine kx_iconst 1068 C dL_law_1068 ?_
          refine kx_iadd 1069 C dL_law_1069 ?_
          obtain ⟨x537, h538, hf⟩ := ob hf
          refine kx_xld 1070 C I hX hbl hbA hXX (by omega) h538 dL_law_1070 ?_
          obtain ⟨h542, hf⟩ := ift hf
          obtain ⟨x541, S539, h540, hf⟩ := ob2 hf
          refine kx_callVl 1071 C hl I (ci := 4) (As := [.int (iI x537)]) (rest := []) (c_X5_part G l fu _ _ _ _ _ h540) (cwV 1 C.ts gL_law_X5_part rfl rfl rfl nyV_X5_part ⟨Nat.le_of_ble_eq_true rfl, Nat.le_of_ble_eq_true rfl⟩) rfl h542 rfl rfl (Nat.le_of_ble_eq_true rfl) dL_law_1071 ⟨by show _ ≤ 600000; omega, by show _ ≤ 7302250; omega⟩ (fun H locs I => ?_)
          refine kx_aload_n 1074 C dL_law_1074 (lv_at hl 2 rfl) ?_
          refine kx_aload_n 1075 C dL_law_1075 (lv_at hl 0 rfl) ?_
          refine kx_iload_n 1076 C dL_law_1076 (lv_at hl 3 rfl) ?_
          refine kx_iconst 1077 C dL_law_1077 ?_
          refine kx_iadd 1078 C dL_law_1078 ?_
          obtain ⟨x543, h544, hf⟩ := ob hf
          refine kx_xld 1079 C I hX hbl hbA hXX (by omega) h544 dL_law_1079 ?_
          obtain ⟨h548, hf⟩ := ift hf
          obtain ⟨x547, S545, h546, hf⟩ := ob2 hf
          refine kx_callVl 1080 C hl I (ci := 5) (As := [.int (iI x543)]) (rest := [.long (lI x541)]) (c_X6_part G l fu _ _ _ _ _ h546) (cwV 1 C.ts gL_law_X6_part rfl rfl rfl nyV_X6_part ⟨Nat.le_of_ble_eq_true rfl, Nat.le_of_ble_eq_true rfl⟩) rfl h548 rfl rfl (Nat.le_of_ble_eq_true rfl) dL_law_1080 ⟨by show _ ≤ 600000; omega, by show _ ≤ 7302250; omega⟩ (fun H locs I => ?_)
          refine kx_lcmp 1083 C dL_law_1083 ?_
          refine kx_if_eq 1084 1195 C dL_law_1084 (by decide) (fun c549 => ?_) (fun c549 => ?_)
          · have hf := ifp c549 hf
            exact ih2 _ _ _ _ _ _ _ _ _ (by omega) (by omega) (by omega) hf I (lv_sub hl [0, 1, 2, 3] rfl)
          · have hf := ifn c549 hf
            refine kx_iconst 1087 C dL_law_1087 ?_
            cases hf
        replace hf := ifn c536 hf
        by_cases c550 : x12 = 40
        · have hf := ifp c550 hf
          refine kx_tabIn 32 1089 C 40 dL_law_32 (e13 ▸ c550) (by decide) rfl (by decide) ?_
          refine kx_aload_n 1089 C dL_law_1089 (lv_at hl 1 rfl) ?_
          refine kx_aload_n 1090 C dL_law_1090 (lv_at hl 0 rfl) ?_
          refine kx_iload_n 1091 C dL_law_1091 (lv_at hl 3 rfl) ?_
          refine kx_iconst 1092 C dL_law_1092 ?_
          refine kx_iadd 1093 C dL_law_1093 ?_
          obtain ⟨x551, h552, hf⟩ := ob hf
          refine kx_xld 1094 C I hX hbl hbA hXX (by omega) h552 dL_law_1094 ?_
          obtain ⟨h556, hf⟩ := ift hf
          obtain ⟨x555, S553, h554, hf⟩ := ob2 hf
          refine kx_callVi 1095 C hl I (ci := 4) (As := [.int (iI x551)]) (rest := []) (c_X5_image G l fu _ _ _ _ _ h554) (cwV 1 C.ts gL_law_X5_image rfl rfl rfl nyV_X5_image ⟨Nat.le_of_ble_eq_true rfl, Nat.le_of_ble_eq_true rfl⟩) rfl h556 rfl rfl (Nat.le_of_ble_eq_true rfl) dL_law_1095 ⟨by show _ ≤ 600000; omega, by show _ ≤ 7302250; omega⟩ (fun H locs I => ?_)
          refine kx_aload_n 1098 C dL_law_1098 (lv_at hl 2 rfl) ?_
          refine kx_aload_n 1099 C dL_law_1099 (lv_at hl 0 rfl) ?_
          refine kx_iload_n 1100 C dL_law_1100 (lv_at hl 3 rfl) ?_
          refine kx_iconst 1101 C dL_law_1101 ?_
          refine kx_iadd 1102 C dL_law_1102 ?_
          obtain ⟨x557, h558, hf⟩ := ob hf
          refine kx_xld 1103 C I hX hbl hbA hXX (by omega) h558 dL_law_1103 ?_
          obtain ⟨h562, hf⟩ := ift hf
          obtain ⟨x561, S559, h560, hf⟩ := ob2 hf
          refine kx_callVi 1104 C hl I (ci := 5) (As := [.int (iI x557)]) (rest := [.int (iI x555)]) (c_X6_image G l fu _ _ _ _ _ h560) (cwV 1 C.ts gL_law_X6_image rfl rfl rfl nyV_X6_image ⟨Nat.le_of_ble_eq_true rfl, Nat.le_of_ble_eq_true rfl⟩) rfl h562 rfl rfl (Nat.le_of_ble_eq_true rfl) dL_law_1104 ⟨by show _ ≤ 600000; omega, by show _ ≤ 7302250; omega⟩ (fun H locs I => ?_)
          refine kx_icmp_eq 1107 1195 C dL_law_1107 (by decide) (fun c563 => ?_) (fun c563 => ?_)
          · have hf := ifp c563 hf
            exact ih2 _ _ _ _ _ _ _ _ _ (by omega) (by omega) (by omega) hf I (lv_sub hl [0, 1, 2, 3] rfl)
          · have hf := ifn c563 hf
            refine kx_iconst 1110 C dL_law_1110 ?_
            cases hf
        replace hf := ifn c550 hf
        by_cases c564 : x12 = 41
        · have hf := ifp c564 hf
          refine kx_tabIn 32 1112 C 41 dL_law_32 (e13 ▸ c564) (by decide) rfl (by decide) ?_
          refine kx_aload_n 1112 C dL_law_1112 (lv_at hl 1 rfl) ?_
          refine kx_aload_n 1113 C dL_law_1113 (lv_at hl 0 rfl) ?_
          refine kx_iload_n 1114 C dL_law_1114 (lv_at hl 3 rfl) ?_
          refine kx_iconst 1115 C dL_law_1115 ?_
          refine kx_iadd 1116 C dL_law_1116 ?_
          obtain ⟨x565, h566, hf⟩ := ob hf
          refine kx_xld 1117 C I hX hbl hbA hXX (by omega) h566 dL_law_1117 ?_
          obtain ⟨h570, hf⟩ := ift hf
          obtain ⟨x569, S567, h568, hf⟩ := ob2 hf
          refine kx_callVi 1118 C hl I (ci := 4) (As := [.int (iI x565)]) (rest := []) (c_X5_from G l fu _ _ _ _ _ h568) (cwV 1 C.ts gL_law_X5_from rfl rfl rfl nyV_X5_from ⟨Nat.le_of_ble_eq_true rfl, Nat.le_of_ble_eq_true rfl⟩) rfl h570 rfl rfl (Nat.le_of_ble_eq_true rfl) dL_law_1118 ⟨by show _ ≤ 600000; omega, by show _ ≤ 7302250; omega⟩ (fun H locs I => ?_)
          refine kx_aload_n 1121 C dL_law_1121 (lv_at hl 2 rfl) ?_
          refine kx_aload_n 1122 C dL_law_1122 (lv_at hl 0 rfl) ?_
          refine kx_iload_n 1123 C dL_law_1123 (lv_at hl 3 rfl) ?_
          refine kx_iconst 1124 C dL_law_1124 ?_
          refine kx_iadd 1125 C dL_law_1125 ?_
          obtain ⟨x571, h572, hf⟩ := ob hf
          refine kx_xld 1126 C I hX hbl hbA hXX (by omega) h572 dL_law_1126 ?_
          obtain ⟨h576, hf⟩ := ift hf
          obtain ⟨x575, S573, h574, hf⟩ := ob2 hf
          refine kx_callVi 1127 C hl I (ci := 5) (As := [.int (iI x571)]) (rest := [.int (iI x569)]) (c_X6_from G l fu _ _ _ _ _ h574) (cwV 1 C.ts gL_law_X6_from rfl rfl rfl nyV_X6_from ⟨Nat.le_of_ble_eq_true rfl, Nat.le_of_ble_eq_true rfl⟩) rfl h576 rfl rfl (Nat.le_of_ble_eq_true rfl) dL_law_1127 ⟨by show _ ≤ 600000; omega, by show _ ≤ 7302250; omega⟩ (fun H locs I => ?_)
          refine kx_icmp_eq 1130 1195 C dL_law_1130 (by decide) (fun c577 => ?_) (fun c577 => ?_)
          · have hf := ifp c577 hf
            exact ih2 _ _ _ _ _ _ _ _ _ (by omega) (by omega) (by omega) hf I (lv_sub hl [0, 1, 2, 3] rfl)
          · have hf := ifn c577 hf
            refine kx_iconst 1133 C dL_law_1133 ?_
            cases hf
        replace hf := ifn c564 hf
        by_cases c578 : x12 = 42
        · have hf := ifp c578 hf
          refine kx_tabIn 32 1135 C 42 dL_law_32 (e13 ▸ c578) (by decide) rfl (by decide) ?_
          refine kx_aload_n 1135 C dL_law_1135 (lv_at hl 1 rfl) ?_
          refine kx_aload_n 1136 C dL_law_1136 (lv_at hl 0 rfl) ?_
          refine kx_iload_n 1137 C dL_law_1137 (lv_at hl 3 rfl) ?_
          refine kx_iconst 1138 C dL_law_1138 ?_
          refine kx_iadd 1139 C dL_law_1139 ?_
          obtain ⟨x579, h580, hf⟩ := ob hf
          refine kx_xld 1140 C I hX hbl hbA hXX (by omega) h580 dL_law_1140 ?_
          obtain ⟨h584, hf⟩ := ift hf
          obtain ⟨x583, S581, h582, hf⟩ := ob2 hf
          refine kx_callVi 1141 C hl I (ci := 4) (As := [.int (iI x579)]) (rest := []) (c_X5_status G l fu _ _ _ _ _ h582) (cwV 1 C.ts gL_law_X5_status rfl rfl rfl nyV_X5_status ⟨Nat.le_of_ble_eq_true rfl, Nat.le_of_ble_eq_true rfl⟩) rfl h584 rfl rfl (Nat.le_of_ble_eq_true rfl) dL_law_1141 ⟨by show _ ≤ 600000; omega, by show _ ≤ 7302250; omega⟩ (fun H locs I => ?_)
          refine kx_aload_n 1144 C dL_law_1144 (lv_at hl 2 rfl) ?_
          refine kx_aload_n 1145 C dL_law_1145 (lv_at hl 0 rfl) ?_
          refine kx_iload_n 1146 C dL_law_1146 (lv_at hl 3 rfl) ?_
          refine kx_iconst 1147 C dL_law_1147 ?_
          refine kx_iadd 1148 C dL_law_1148 ?_
          obtain ⟨x585, h586, hf⟩ := ob hf
          refine kx_xld 1149 C I hX hbl hbA hXX (by omega) h586 dL_law_1149 ?_
          obtain ⟨h590, hf⟩ := ift hf
          obtain ⟨x589, S587, h588, hf⟩ := ob2 hf
          refine kx_callVi 1150 C hl I (ci := 5) (As := [.int (iI x585)]) (rest := [.int (iI x583)]) (c_X6_status G l fu _ _ _ _ _ h588) (cwV 1 C.ts gL_law_X6_status rfl rfl rfl nyV_X6_status ⟨Nat.le_of_ble_eq_true rfl, Nat.le_of_ble_eq_true rfl⟩) rfl h590 rfl rfl (Nat.le_of_ble_eq_true rfl) dL_law_1150 ⟨by show _ ≤ 600000; omega, by show _ ≤ 7302250; omega⟩ (fun H locs I => ?_)
          refine kx_icmp_eq 1153 1195 C dL_law_1153 (by decide) (fun c591 => ?_) (fun c591 => ?_)
          · have hf := ifp c591 hf
            exact ih2 _ _ _ _ _ _ _ _ _ (by omega) (by omega) (by omega) hf I (lv_sub hl [0, 1, 2, 3] rfl)
          · have hf := ifn c591 hf
            refine kx_iconst 1156 C dL_law_1156 ?_
            cases hf
        replace hf := ifn c578 hf
        by_cases c592 : x12 = 43
        · have hf := ifp c592 hf
          refine kx_tabIn 32 1158 C 43 dL_law_32 (e13 ▸ c592) (by decide) rfl (by decide) ?_
          refine kx_aload_n 1158 C dL_law_1158 (lv_at hl 1 rfl) ?_
          refine kx_aload_n 1159 C dL_law_1159 (lv_at hl 0 rfl) ?_
          refine kx_iload_n 1160 C dL_law_1160 (lv_at hl 3 rfl) ?_
          refine kx_iconst 1161 C dL_law_1161 ?_
          refine kx_iadd 1162 C dL_law_1162 ?_
          obtain ⟨x593, h594, hf⟩ := ob hf
          refine kx_xld 1163 C I hX hbl hbA hXX (by omega) h594 dL_law_1163 ?_
          obtain ⟨h598, hf⟩ := ift hf
          obtain ⟨x597, S595, h596, hf⟩ := ob2 hf
          refine kx_callVi 1164 C hl I (ci := 4) (As := [.int (iI x593)]) (rest := []) (c_X5_count G l fu _ _ _ _ _ h596) (cwV 1 C.ts gL_law_X5_count rfl rfl rfl nyV_X5_count ⟨Nat.le_of_ble_eq_true rfl, Nat.le_of_ble_eq_true rfl⟩) rfl h598 rfl rfl (Nat.le_of_ble_eq_true rfl) dL_law_1164 ⟨by show _ ≤ 600000; omega, by show _ ≤ 7302250; omega⟩ (fun H locs I => ?_)
          refine kx_aload_n 1167 C dL_law_1167 (lv_at hl 2 rfl) ?_
          refine kx_aload_n 1168 C dL_law_1168 (lv_at hl 0 rfl) ?_
          refine kx_iload_n 1169 C dL_law_1169 (lv_at hl 3 rfl) ?_
          refine kx_iconst 1170 C dL_law_1170 ?_
          refine kx_iadd 1171 C dL_law_1171 ?_
          obtain ⟨x599, h600, hf⟩ := ob hf
          refine kx_xld 1172 C I hX hbl hbA hXX (by omega) h600 dL_law_1172 ?_
          obtain ⟨h604, hf⟩ := ift hf
          obtain ⟨x603, S601, h602, hf⟩ := ob2 hf
          refine kx_callVi 1173 C hl I (ci := 5) (As := [.int (iI x599)]) (rest := [.int (iI x597)]) (c_X6_count G l fu _ _ _ _ _ h602) (cwV 1 C.ts gL_law_X6_count rfl rfl rfl nyV_X6_count ⟨Nat.le_of_ble_eq_true rfl, Nat.le_of_ble_eq_true rfl⟩) rfl h604 rfl rfl (Nat.le_of_ble_eq_true rfl) dL_law_1173 ⟨by show _ ≤ 600000; omega, by show _ ≤ 7302250; omega⟩ (fun H locs I => ?_)
          refine kx_icmp_eq 1176 1195 C dL_law_1176 (by decide) (fun c605 => ?_) (fun c605 => ?_)
          · have hf := ifp c605 hf
            exact ih2 _ _ _ _ _ _ _ _ _ (by omega) (by omega) (by omega) hf I (lv_sub hl [0, 1, 2, 3] rfl)
          · have hf := ifn c605 hf
            refine kx_iconst 1179 C dL_law_1179 ?_
            cases hf
        replace hf := ifn c592 hf
        by_cases c606 : x12 = 44
        · have hf := ifp c606 hf
          refine kx_tabIn 32 1181 C 44 dL_law_32 (e13 ▸ c606) (by decide) rfl (by decide) ?_
          refine kx_aload_n 1181 C dL_law_1181 (lv_at hl 1 rfl) ?_
          obtain ⟨h610, hf⟩ := ift hf
          obtain ⟨x609, S607, h608, hf⟩ := ob2 hf
          refine kx_callVl 1182 C hl I (ci := 4) (As := []) (rest := []) (c_X5_digest G l fu _ _ _ _ h608) (cwV 0 C.ts gL_law_X5_digest rfl rfl rfl nyV_X5_digest ⟨Nat.le_of_ble_eq_true rfl, Nat.le_of_ble_eq_true rfl⟩) rfl h610 rfl rfl (Nat.le_of_ble_eq_true rfl) dL_law_1182 ⟨by show _ ≤ 600000; omega, by show _ ≤ 7302250; omega⟩ (fun H locs I => ?_)
          refine kx_aload_n 1185 C dL_law_1185 (lv_at hl 2 rfl) ?_
          obtain ⟨h614, hf⟩ := ift hf
          obtain ⟨x613, S611, h612, hf⟩ := ob2 hf
          refine kx_callVl 1186 C hl I (ci := 5) (As := []) (rest := [.long (lI x609)]) (c_X6_digest G l fu _ _ _ _ h612) (cwV 0 C.ts gL_law_X6_digest rfl rfl rfl nyV_X6_digest ⟨Nat.le_of_ble_eq_true rfl, Nat.le_of_ble_eq_true rfl⟩) rfl h614 rfl rfl (Nat.le_of_ble_eq_true rfl) dL_law_1186 ⟨by show _ ≤ 600000; omega, by show _ ≤ 7302250; omega⟩ (fun H locs I => ?_)
          refine kx_lcmp 1189 C dL_law_1189 ?_
          refine kx_if_eq 1190 1195 C dL_law_1190 (by decide) (fun c615 => ?_) (fun c615 => ?_)
          · have hf := ifp c615 hf
            exact ih2 _ _ _ _ _ _ _ _ _ (by omega) (by omega) (by omega) hf I (lv_sub hl [0, 1, 2, 3] rfl)
          · have hf := ifn c615 hf
            refine kx_iconst 1193 C dL_law_1193 ?_
            cases hf
        replace hf := ifn c606 hf
        refine kx_tabOut 32 1195 C dL_law_32 (e13 ▸ (by omega)) (by decide) ?_
        exact ih2 _ _ _ _ _ _ _ _ _ (by omega) (by omega) (by omega) hf I (lv_sub hl [0, 1, 2, 3] rfl)
    · intro S p0 p1 i0 H locs ls cells slots hv hc hs hf I hl
      replace hf : b_law_2 X (g_law X fu) fu S p0 p1 i0 = some (1, S') := hf
      unfold b_law_2 at hf
      obtain ⟨x616, e617, hf⟩ := nmx_e hf
      refine kx_iinc 1195 C (lv' := [(3, .int (iI x616)), (0, .ref b), (1, .ref (xB G + p0)), (2, .ref (xB G + p1))]) dL_law_1195 hl 3 rfl e617 (by decide) rfl (fun ls hl => ?_)
      refine kx_goto 1198 18 C dL_law_1198 (by decide) ?_
      exact ih1 _ _ _ _ _ _ _ _ _ (by omega) (by omega) (by omega) hf I (lv_sub hl [1, 2, 3, 0] rfl)
