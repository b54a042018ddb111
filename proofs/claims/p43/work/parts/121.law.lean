set_option maxRecDepth 20000 in
theorem hin_L_law_RX5 : ∀ w ∈ wsX50, w ∈ wsL_law := inlX5
set_option maxRecDepth 20000 in
theorem hin_L_law_RX6 : ∀ w ∈ wsX60, w ∈ wsL_law := inlX6
theorem mw_L_law_0 : Cond.classLink RL 7 RX5 ∈ wsL_law := mq_1_0
theorem mw_L_law_1 : Cond.instantiable RX5 13 ∈ wsL_law := mq_1_1
theorem mw_L_law_2 : Cond.initialized RX5 ∈ wsL_law := mq_1_2
theorem mw_L_law_3 : Cond.methodLink RL 9 yX5_init ∈ wsL_law := mq_1_6
theorem mw_L_law_4 : Cond.instanceMethod yX5_init ∈ wsL_law := mq_1_7
theorem mw_L_law_5 : Cond.classLink RL 10 RX6 ∈ wsL_law := mq_1_3
theorem mw_L_law_6 : Cond.instantiable RX6 30 ∈ wsL_law := mq_1_4
theorem mw_L_law_7 : Cond.initialized RX6 ∈ wsL_law := mq_1_5
theorem mw_L_law_8 : Cond.methodLink RL 12 yX6_init ∈ wsL_law := mq_4_12
theorem mw_L_law_9 : Cond.instanceMethod yX6_init ∈ wsL_law := mq_4_13
set_option maxHeartbeats 40000000 in
set_option maxRecDepth 100000 in
theorem w_law {G : xG} {p : Program} {l : Launch} {e : Env} {s : State} {m : MethodId} {below : List Frame} {meth : Method} {c : Code} {b L : Nat} {xs : Nat → Int32} {X : List Int} (C : xK G p s m #[Value.ref b] meth c cL_law 4 wsL_law RL ret) (hX : va_X b L xs s s.heap) (hbl : b < s.heap.size) (hbA : ¬ xA G b) (hBB : xB G = s.heap.size) (hL : L ≤ 192) (hXX : X = (List.range L).map (fun j => (xs j).toInt)) (S' : xS) : ∀ k : Nat,
  (∀ (S : xS) (p0 p1 : Nat) (i0 : Int) (H : Heap) (locs : List Loc) (ls : Array Slot) (cells slots : Nat), i0 = 0 → cells = 0 → slots = 0 → g_law X k 0 S p0 p1 i0 = some (1, S') → xI G S s H locs → lv_has ls 4 [(0, .ref b)] → W p l e room_1 s m #[Value.ref b] below meth c H locs cells slots (lw_Z below #[Value.ref b] s) (F0 m 0 ls [])) ∧
  (∀ (S : xS) (p0 p1 : Nat) (i0 : Int) (H : Heap) (locs : List Loc) (ls : Array Slot) (cells slots : Nat), 0 ≤ i0 ∧ i0 ≤ 195 → cells ≤ 200 + 40 * i0.toNat → slots ≤ 60000 + 30000 * i0.toNat → g_law X k 1 S p0 p1 i0 = some (1, S') → xI G S s H locs → lv_has ls 4 [(0, .ref b), (1, .ref (xB G + p0)), (2, .ref (xB G + p1)), (3, .int (iI i0))] → W p l e room_1 s m #[Value.ref b] below meth c H locs cells slots (lw_Z below #[Value.ref b] s) (F0 m 18 ls [])) ∧
  (∀ (S : xS) (p0 p1 : Nat) (i0 : Int) (H : Heap) (locs : List Loc) (ls : Array Slot) (cells slots : Nat), 0 ≤ i0 ∧ i0 ≤ 189 → cells ≤ 320 + 40 * i0.toNat → slots ≤ 150000 + 30000 * i0.toNat → g_law X k 2 S p0 p1 i0 = some (1, S') → xI G S s H locs → lv_has ls 4 [(0, .ref b), (1, .ref (xB G + p0)), (2, .ref (xB G + p1)), (3, .int (iI i0))] → W p l e room_1 s m #[Value.ref b] below meth c H locs cells slots (lw_Z below #[Value.ref b] s) (F0 m 1193 ls [])) := by
  have hXL : X.length = L := by rw [hXX, List.length_map, List.length_range]
  intro k
  induction k with
  | zero => exact ⟨fun _ _ _ _ _ _ _ _ _ _ _ _ hf => (by cases hf), fun _ _ _ _ _ _ _ _ _ _ _ _ hf => (by cases hf), fun _ _ _ _ _ _ _ _ _ _ _ _ hf => (by cases hf)⟩
  | succ fu ih =>
    obtain ⟨ih0, ih1, ih2⟩ := ih
    refine ⟨?_, ?_, ?_⟩
    · intro S p0 p1 i0 H locs ls cells slots hv hc hs hf I hl
      subst hc
      subst hs
      replace hf : b_law_0 X (g_law X fu) fu S p0 p1 i0 = some (1, S') := hf
      unfold b_law_0 at hf
      obtain ⟨S1, eS1, hf⟩ := nmx_e hf
      refine kx_new 0 C I (ci := 4) (N := 13) xNew_X5 tyX5 rfl hin_L_law_RX5 mw_L_law_0 mw_L_law_1 mw_L_law_2 tyX5_ok xNew_X5_ok ⟨by show _ ≤ 600000; omega, by show _ ≤ 7302250; omega⟩ dL_law_0 (fun H I => ?_)
      rw [← eS1] at I
      refine kx_dup 3 C dL_law_3 rfl ?_
      obtain ⟨x4, S2, h3, hf⟩ := ob2 hf
      refine kx_callI 4 C hl I (As := []) (rest := [.ref (xB G + S.length)]) (c_X5_init G l fu _ _ _ _ h3) (cwI 0 C.ts gL_law_X5_init rfl rfl rfl (C.ts _ mw_L_law_2) (C.ts _ mw_L_law_3) (C.ts _ mw_L_law_4) rfl nyS_X5_init ⟨Nat.le_of_ble_eq_true rfl, Nat.le_of_ble_eq_true rfl⟩) rfl rfl (Nat.le_of_ble_eq_true rfl) dL_law_4 ⟨by show _ ≤ 600000; omega, by show _ ≤ 7302250; omega⟩ (fun H locs I => ?_)
      refine kx_astore_n 7 C (lv' := [(1, .ref (xB G + S.length)), (0, .ref b)]) dL_law_7 hl (by decide) rfl (fun ls hl => ?_)
      obtain ⟨S5, eS5, hf⟩ := nmx_e hf
      refine kx_new 8 C I (ci := 5) (N := 30) xNew_X6 tyX6 rfl hin_L_law_RX6 mw_L_law_5 mw_L_law_6 mw_L_law_7 tyX6_ok xNew_X6_ok ⟨by show _ ≤ 600000; omega, by show _ ≤ 7302250; omega⟩ dL_law_8 (fun H I => ?_)
      rw [← eS5] at I
      refine kx_dup 11 C dL_law_11 rfl ?_
      obtain ⟨x8, S6, h7, hf⟩ := ob2 hf
      refine kx_callI 12 C hl I (As := []) (rest := [.ref (xB G + S2.length)]) (c_X6_init G l fu _ _ _ _ h7) (cwI 0 C.ts gL_law_X6_init rfl rfl rfl (C.ts _ mw_L_law_7) (C.ts _ mw_L_law_8) (C.ts _ mw_L_law_9) rfl nyS_X6_init ⟨Nat.le_of_ble_eq_true rfl, Nat.le_of_ble_eq_true rfl⟩) rfl rfl (Nat.le_of_ble_eq_true rfl) dL_law_12 ⟨by show _ ≤ 600000; omega, by show _ ≤ 7302250; omega⟩ (fun H locs I => ?_)
      refine kx_astore_n 15 C (lv' := [(2, .ref (xB G + S2.length)), (1, .ref (xB G + S.length)), (0, .ref b)]) dL_law_15 hl (by decide) rfl (fun ls hl => ?_)
      refine kx_iconst 16 C dL_law_16 ?_
      refine kx_istore_n 17 C (lv' := [(3, .int (iI 0)), (2, .ref (xB G + S2.length)), (1, .ref (xB G + S.length)), (0, .ref b)]) dL_law_17 hl (by decide) rfl rfl (fun ls hl => ?_)
      exact ih1 _ _ _ _ _ _ _ _ _ (by omega) (by omega) (by omega) hf I (lv_sub hl [3, 2, 1, 0] rfl)
    · intro S p0 p1 i0 H locs ls cells slots hv hc hs hf I hl
      replace hf : b_law_1 X (g_law X fu) fu S p0 p1 i0 = some (1, S') := hf
      unfold b_law_1 at hf
      refine kx_iload_n 18 C dL_law_18 (lv_at hl 3 rfl) ?_
      refine kx_aload_n 19 C dL_law_19 (lv_at hl 0 rfl) ?_
      refine kx_xlen 20 C I hX hbl hbA hXX dL_law_20 ?_
      refine kx_iconst 21 C dL_law_21 ?_
      refine kx_isub 22 C dL_law_22 ?_
      refine kx_icmp_gt 23 1199 C dL_law_23 (by decide) (fun c9 => ?_) (fun c9 => ?_)
      · have hf := ifp c9 hf
        refine kx_iconst 1199 C dL_law_1199 ?_
        refine va_forget (fun q hq => by rw [← hBB]; exact I.2.2.2 q hq) ?_
        refine W.widen (k := 600000) (n := 7302250) (by omega) (by omega) ?_
        exact lw_ret C.x C.b C.r C.lk dL_law_1200
      · have hf := ifn c9 hf
        have hle : i0 ≤ 189 := by rw [wI_id (by omega) (by omega), wI_id (by omega) (by omega)] at c9; omega
        refine kx_aload_n 26 C dL_law_26 (lv_at hl 0 rfl) ?_
        refine kx_iload_n 27 C dL_law_27 (lv_at hl 3 rfl) ?_
        obtain ⟨x10, h11, hf⟩ := ob hf
        refine kx_xld 28 C I hX hbl hbA hXX (by omega) h11 dL_law_28 ?_
        refine kx_bipush 29 C dL_law_29 (by decide) ?_
        refine kx_iand 31 C dL_law_31 ?_
        obtain ⟨x12, e13, hf⟩ := nmx_e hf
        by_cases c14 : x12 = 0
        · have hf := ifp c14 hf
          refine kx_tabIn 32 228 C 0 dL_law_32 (e13 ▸ c14) (by decide) rfl (by decide) ?_
          refine kx_aload_n 228 C dL_law_228 (lv_at hl 1 rfl) ?_
          refine kx_aload_n 229 C dL_law_229 (lv_at hl 0 rfl) ?_
          refine kx_iload_n 230 C dL_law_230 (lv_at hl 3 rfl) ?_
          refine kx_iconst 231 C dL_law_231 ?_
          refine kx_iadd 232 C dL_law_232 ?_
          obtain ⟨x15, h16, hf⟩ := ob hf
          refine kx_xld 233 C I hX hbl hbA hXX (by omega) h16 dL_law_233 ?_
          obtain ⟨h20, hf⟩ := ift hf
          obtain ⟨x19, S17, h18, hf⟩ := ob2 hf
          refine kx_callVi 234 C hl I (ci := 4) (As := [.int (iI x15)]) (rest := []) (c_X5_boxes G l fu _ _ _ _ _ h18) (cwV 1 C.ts gL_law_X5_boxes rfl rfl rfl nyV_X5_boxes ⟨Nat.le_of_ble_eq_true rfl, Nat.le_of_ble_eq_true rfl⟩) rfl h20 rfl rfl (Nat.le_of_ble_eq_true rfl) dL_law_234 ⟨by show _ ≤ 600000; omega, by show _ ≤ 7302250; omega⟩ (fun H locs I => ?_)
          refine kx_pop 237 C dL_law_237 rfl ?_
          refine kx_aload_n 238 C dL_law_238 (lv_at hl 2 rfl) ?_
          refine kx_aload_n 239 C dL_law_239 (lv_at hl 0 rfl) ?_
          refine kx_iload_n 240 C dL_law_240 (lv_at hl 3 rfl) ?_
          refine kx_iconst 241 C dL_law_241 ?_
          refine kx_iadd 242 C dL_law_242 ?_
          obtain ⟨x21, h22, hf⟩ := ob hf
          refine kx_xld 243 C I hX hbl hbA hXX (by omega) h22 dL_law_243 ?_
          obtain ⟨h26, hf⟩ := ift hf
          obtain ⟨x25, S23, h24, hf⟩ := ob2 hf
          refine kx_callVi 244 C hl I (ci := 5) (As := [.int (iI x21)]) (rest := []) (c_X6_boxes G l fu _ _ _ _ _ h24) (cwV 1 C.ts gL_law_X6_boxes rfl rfl rfl nyV_X6_boxes ⟨Nat.le_of_ble_eq_true rfl, Nat.le_of_ble_eq_true rfl⟩) rfl h26 rfl rfl (Nat.le_of_ble_eq_true rfl) dL_law_244 ⟨by show _ ≤ 600000; omega, by show _ ≤ 7302250; omega⟩ (fun H locs I => ?_)
          refine kx_pop 247 C dL_law_247 rfl ?_
          refine kx_goto 248 1193 C dL_law_248 (by decide) ?_
          exact ih2 _ _ _ _ _ _ _ _ _ (by omega) (by omega) (by omega) hf I (lv_sub hl [0, 1, 2, 3] rfl)
        replace hf := ifn c14 hf
        by_cases c27 : x12 = 1
        · have hf := ifp c27 hf
          refine kx_tabIn 32 251 C 1 dL_law_32 (e13 ▸ c27) (by decide) rfl (by decide) ?_
          refine kx_aload_n 251 C dL_law_251 (lv_at hl 1 rfl) ?_
          refine kx_aload_n 252 C dL_law_252 (lv_at hl 0 rfl) ?_
          refine kx_iload_n 253 C dL_law_253 (lv_at hl 3 rfl) ?_
          refine kx_iconst 254 C dL_law_254 ?_
          refine kx_iadd 255 C dL_law_255 ?_
          obtain ⟨x28, h29, hf⟩ := ob hf
          refine kx_xld 256 C I hX hbl hbA hXX (by omega) h29 dL_law_256 ?_
          refine kx_aload_n 257 C dL_law_257 (lv_at hl 0 rfl) ?_
          refine kx_iload_n 258 C dL_law_258 (lv_at hl 3 rfl) ?_
          refine kx_iconst 259 C dL_law_259 ?_
          refine kx_iadd 260 C dL_law_260 ?_
          obtain ⟨x30, h31, hf⟩ := ob hf
          refine kx_xld 261 C I hX hbl hbA hXX (by omega) h31 dL_law_261 ?_
          obtain ⟨h35, hf⟩ := ift hf
          obtain ⟨x34, S32, h33, hf⟩ := ob2 hf
          refine kx_callVi 262 C hl I (ci := 4) (As := [.int (iI x28), .int (iI x30)]) (rest := []) (c_X5_put G l fu _ _ _ _ _ _ h33) (cwV 2 C.ts gL_law_X5_put rfl rfl rfl nyV_X5_put ⟨Nat.le_of_ble_eq_true rfl, Nat.le_of_ble_eq_true rfl⟩) rfl h35 rfl rfl (Nat.le_of_ble_eq_true rfl) dL_law_262 ⟨by show _ ≤ 600000; omega, by show _ ≤ 7302250; omega⟩ (fun H locs I => ?_)
          refine kx_pop 265 C dL_law_265 rfl ?_
          refine kx_aload_n 266 C dL_law_266 (lv_at hl 2 rfl) ?_
          refine kx_aload_n 267 C dL_law_267 (lv_at hl 0 rfl) ?_
          refine kx_iload_n 268 C dL_law_268 (lv_at hl 3 rfl) ?_
          refine kx_iconst 269 C dL_law_269 ?_
          refine kx_iadd 270 C dL_law_270 ?_
          obtain ⟨x36, h37, hf⟩ := ob hf
          refine kx_xld 271 C I hX hbl hbA hXX (by omega) h37 dL_law_271 ?_
          refine kx_aload_n 272 C dL_law_272 (lv_at hl 0 rfl) ?_
          refine kx_iload_n 273 C dL_law_273 (lv_at hl 3 rfl) ?_
          refine kx_iconst 274 C dL_law_274 ?_
          refine kx_iadd 275 C dL_law_275 ?_
          obtain ⟨x38, h39, hf⟩ := ob hf
          refine kx_xld 276 C I hX hbl hbA hXX (by omega) h39 dL_law_276 ?_
          obtain ⟨h43, hf⟩ := ift hf
          obtain ⟨x42, S40, h41, hf⟩ := ob2 hf
          refine kx_callVi 277 C hl I (ci := 5) (As := [.int (iI x36), .int (iI x38)]) (rest := []) (c_X6_put G l fu _ _ _ _ _ _ h41) (cwV 2 C.ts gL_law_X6_put rfl rfl rfl nyV_X6_put ⟨Nat.le_of_ble_eq_true rfl, Nat.le_of_ble_eq_true rfl⟩) rfl h43 rfl rfl (Nat.le_of_ble_eq_true rfl) dL_law_277 ⟨by show _ ≤ 600000; omega, by show _ ≤ 7302250; omega⟩ (fun H locs I => ?_)
          refine kx_pop 280 C dL_law_280 rfl ?_
          refine kx_goto 281 1193 C dL_law_281 (by decide) ?_
          exact ih2 _ _ _ _ _ _ _ _ _ (by omega) (by omega) (by omega) hf I (lv_sub hl [0, 1, 2, 3] rfl)
        replace hf := ifn c27 hf
        by_cases c44 : x12 = 2
        · have hf := ifp c44 hf
          refine kx_tabIn 32 284 C 2 dL_law_32 (e13 ▸ c44) (by decide) rfl (by decide) ?_
          refine kx_aload_n 284 C dL_law_284 (lv_at hl 1 rfl) ?_
          refine kx_aload_n 285 C dL_law_285 (lv_at hl 0 rfl) ?_
          refine kx_iload_n 286 C dL_law_286 (lv_at hl 3 rfl) ?_
          refine kx_iconst 287 C dL_law_287 ?_
          refine kx_iadd 288 C dL_law_288 ?_
          obtain ⟨x45, h46, hf⟩ := ob hf
          refine kx_xld 289 C I hX hbl hbA hXX (by omega) h46 dL_law_289 ?_
          refine kx_aload_n 290 C dL_law_290 (lv_at hl 0 rfl) ?_
          refine kx_iload_n 291 C dL_law_291 (lv_at hl 3 rfl) ?_
          refine kx_iconst 292 C dL_law_292 ?_
          refine kx_iadd 293 C dL_law_293 ?_
          obtain ⟨x47, h48, hf⟩ := ob hf
          refine kx_xld 294 C I hX hbl hbA hXX (by omega) h48 dL_law_294 ?_
          obtain ⟨h52, hf⟩ := ift hf
          obtain ⟨x51, S49, h50, hf⟩ := ob2 hf
          refine kx_callVi 295 C hl I (ci := 4) (As := [.int (iI x45), .int (iI x47)]) (rest := []) (c_X5_rule G l fu _ _ _ _ _ _ h50) (cwV 2 C.ts gL_law_X5_rule rfl rfl rfl nyV_X5_rule ⟨Nat.le_of_ble_eq_true rfl, Nat.le_of_ble_eq_true rfl⟩) rfl h52 rfl rfl (Nat.le_of_ble_eq_true rfl) dL_law_295 ⟨by show _ ≤ 600000; omega, by show _ ≤ 7302250; omega⟩ (fun H locs I => ?_)
          refine kx_pop 298 C dL_law_298 rfl ?_
          refine kx_aload_n 299 C dL_law_299 (lv_at hl 2 rfl) ?_
          refine kx_aload_n 300 C dL_law_300 (lv_at hl 0 rfl) ?_
          refine kx_iload_n 301 C dL_law_301 (lv_at hl 3 rfl) ?_
          refine kx_iconst 302 C dL_law_302 ?_
          refine kx_iadd 303 C dL_law_303 ?_
          obtain ⟨x53, h54, hf⟩ := ob hf
          refine kx_xld 304 C I hX hbl hbA hXX (by omega) h54 dL_law_304 ?_
          refine kx_aload_n 305 C dL_law_305 (lv_at hl 0 rfl) ?_
          refine kx_iload_n 306 C dL_law_306 (lv_at hl 3 rfl) ?_
          refine kx_iconst 307 C dL_law_307 ?_
          refine kx_iadd 308 C dL_law_308 ?_
          obtain ⟨x55, h56, hf⟩ := ob hf
          refine kx_xld 309 C I hX hbl hbA hXX (by omega) h56 dL_law_309 ?_
          obtain ⟨h60, hf⟩ := ift hf
          obtain ⟨x59, S57, h58, hf⟩ := ob2 hf
          refine kx_callVi 310 C hl I (ci := 5) (As := [.int (iI x53), .int (iI x55)]) (rest := []) (c_X6_rule G l fu _ _ _ _ _ _ h58) (cwV 2 C.ts gL_law_X6_rule rfl rfl rfl nyV_X6_rule ⟨Nat.le_of_ble_eq_true rfl, Nat.le_of_ble_eq_true rfl⟩) rfl h60 rfl rfl (Nat.le_of_ble_eq_true rfl) dL_law_310 ⟨by show _ ≤ 600000; omega, by show _ ≤ 7302250; omega⟩ (fun H locs I => ?_)
          refine kx_pop 313 C dL_law_313 rfl ?_
          refine kx_goto 314 1193 C dL_law_314 (by decide) ?_
          exact ih2 _ _ _ _ _ _ _ _ _ (by omega) (by omega) (by omega) hf I (lv_sub hl [0, 1, 2, 3] rfl)
        replace hf := ifn c44 hf
        by_cases c61 : x12 = 3
        · have hf := ifp c61 hf
          refine kx_tabIn 32 317 C 3 dL_law_32 (e13 ▸ c61) (by decide) rfl (by decide) ?_
          refine kx_aload_n 317 C dL_law_317 (lv_at hl 1 rfl) ?_
          refine kx_aload_n 318 C dL_law_318 (lv_at hl 0 rfl) ?_
          refine kx_iload_n 319 C dL_law_319 (lv_at hl 3 rfl) ?_
          refine kx_iconst 320 C dL_law_320 ?_
          refine kx_iadd 321 C dL_law_321 ?_
          obtain ⟨x62, h63, hf⟩ := ob hf
          refine kx_xld 322 C I hX hbl hbA hXX (by omega) h63 dL_law_322 ?_
          refine kx_aload_n 323 C dL_law_323 (lv_at hl 0 rfl) ?_
          refine kx_iload_n 324 C dL_law_324 (lv_at hl 3 rfl) ?_
          refine kx_iconst 325 C dL_law_325 ?_
          refine kx_iadd 326 C dL_law_326 ?_
          obtain ⟨x64, h65, hf⟩ := ob hf
          refine kx_xld 327 C I hX hbl hbA hXX (by omega) h65 dL_law_327 ?_
          obtain ⟨h69, hf⟩ := ift hf
          obtain ⟨x68, S66, h67, hf⟩ := ob2 hf
          refine kx_callVi 328 C hl I (ci := 4) (As := [.int (iI x62), .int (iI x64)]) (rest := []) (c_X5_swap G l fu _ _ _ _ _ _ h67) (cwV 2 C.ts gL_law_X5_swap rfl rfl rfl nyV_X5_swap ⟨Nat.le_of_ble_eq_true rfl, Nat.le_of_ble_eq_true rfl⟩) rfl h69 rfl rfl (Nat.le_of_ble_eq_true rfl) dL_law_328 ⟨by show _ ≤ 600000; omega, by show _ ≤ 7302250; omega⟩ (fun H locs I => ?_)
          refine kx_pop 331 C dL_law_331 rfl ?_
          refine kx_aload_n 332 C dL_law_332 (lv_at hl 2 rfl) ?_
          refine kx_aload_n 333 C dL_law_333 (lv_at hl 0 rfl) ?_
          refine kx_iload_n 334 C dL_law_334 (lv_at hl 3 rfl) ?_
          refine kx_iconst 335 C dL_law_335 ?_
          refine kx_iadd 336 C dL_law_336 ?_
          obtain ⟨x70, h71, hf⟩ := ob hf
          refine kx_xld 337 C I hX hbl hbA hXX (by omega) h71 dL_law_337 ?_
          refine kx_aload_n 338 C dL_law_338 (lv_at hl 0 rfl) ?_
          refine kx_iload_n 339 C dL_law_339 (lv_at hl 3 rfl) ?_
          refine kx_iconst 340 C dL_law_340 ?_
          refine kx_iadd 341 C dL_law_341 ?_
          obtain ⟨x72, h73, hf⟩ := ob hf
          refine kx_xld 342 C I hX hbl hbA hXX (by omega) h73 dL_law_342 ?_
          obtain ⟨h77, hf⟩ := ift hf
          obtain ⟨x76, S74, h75, hf⟩ := ob2 hf
          refine kx_callVi 343 C hl I (ci := 5) (As := [.int (iI x70), .int (iI x72)]) (rest := []) (c_X6_swap G l fu _ _ _ _ _ _ h75) (cwV 2 C.ts gL_law_X6_swap rfl rfl rfl nyV_X6_swap ⟨Nat.le_of_ble_eq_true rfl, Nat.le_of_ble_eq_true rfl⟩) rfl h77 rfl rfl (Nat.le_of_ble_eq_true rfl) dL_law_343 ⟨by show _ ≤ 600000; omega, by show _ ≤ 7302250; omega⟩ (fun H locs I => ?_)
          refine kx_pop 346 C dL_law_346 rfl ?_
          refine kx_goto 347 1193 C dL_law_347 (by decide) ?_
          exact ih2 _ _ _ _ _ _ _ _ _ (by omega) (by omega) (by omega) hf I (lv_sub hl [0, 1, 2, 3] rfl)
        replace hf := ifn c61 hf
        by_cases c78 : x12 = 4
        · have hf := ifp c78 hf
          refine kx_tabIn 32 350 C 4 dL_law_32 (e13 ▸ c78) (by decide) rfl (by decide) ?_
          refine kx_aload_n 350 C dL_law_350 (lv_at hl 1 rfl) ?_
          refine kx_aload_n 351 C dL_law_351 (lv_at hl 0 rfl) ?_
          refine kx_iload_n 352 C dL_law_352 (lv_at hl 3 rfl) ?_
          refine kx_iconst 353 C dL_law_353 ?_
          refine kx_iadd 354 C dL_law_354 ?_
          obtain ⟨x79, h80, hf⟩ := ob hf
          refine kx_xld 355 C I hX hbl hbA hXX (by omega) h80 dL_law_355 ?_
          obtain ⟨h84, hf⟩ := ift hf
          obtain ⟨x83, S81, h82, hf⟩ := ob2 hf
          refine kx_callVi 356 C hl I (ci := 4) (As := [.int (iI x79)]) (rest := []) (c_X5_lay G l fu _ _ _ _ _ h82) (cwV 1 C.ts gL_law_X5_lay rfl rfl rfl nyV_X5_lay ⟨Nat.le_of_ble_eq_true rfl, Nat.le_of_ble_eq_true rfl⟩) rfl h84 rfl rfl (Nat.le_of_ble_eq_true rfl) dL_law_356 ⟨by show _ ≤ 600000; omega, by show _ ≤ 7302250; omega⟩ (fun H locs I => ?_)
          refine kx_pop 359 C dL_law_359 rfl ?_
          refine kx_aload_n 360 C dL_law_360 (lv_at hl 2 rfl) ?_
          refine kx_aload_n 361 C dL_law_361 (lv_at hl 0 rfl) ?_
          refine kx_iload_n 362 C dL_law_362 (lv_at hl 3 rfl) ?_
          refine kx_iconst 363 C dL_law_363 ?_
          refine kx_iadd 364 C dL_law_364 ?_
          obtain ⟨x85, h86, hf⟩ := ob hf
          refine kx_xld 365 C I hX hbl hbA hXX (by omega) h86 dL_law_365 ?_
          obtain ⟨h90, hf⟩ := ift hf
          obtain ⟨x89, S87, h88, hf⟩ := ob2 hf
          refine kx_callVi 366 C hl I (ci := 5) (As := [.int (iI x85)]) (rest := []) (c_X6_lay G l fu _ _ _ _ _ h88) (cwV 1 C.ts gL_law_X6_lay rfl rfl rfl nyV_X6_lay ⟨Nat.le_of_ble_eq_true rfl, Nat.le_of_ble_eq_true rfl⟩) rfl h90 rfl rfl (Nat.le_of_ble_eq_true rfl) dL_law_366 ⟨by show _ ≤ 600000; omega, by show _ ≤ 7302250; omega⟩ (fun H locs I => ?_)
          refine kx_pop 369 C dL_law_369 rfl ?_
          refine kx_goto 370 1193 C dL_law_370 (by decide) ?_
          exact ih2 _ _ _ _ _ _ _ _ _ (by omega) (by omega) (by omega) hf I (lv_sub hl [0, 1, 2, 3] rfl)
        replace hf := ifn c78 hf
        by_cases c91 : x12 = 5
        · have hf := ifp c91 hf
          refine kx_tabIn 32 373 C 5 dL_law_32 (e13 ▸ c91) (by decide) rfl (by decide) ?_
          refine kx_aload_n 373 C dL_law_373 (lv_at hl 1 rfl) ?_
          obtain ⟨h95, hf⟩ := ift hf
          obtain ⟨x94, S92, h93, hf⟩ := ob2 hf
          refine kx_callVi 374 C hl I (ci := 4) (As := []) (rest := []) (c_X5_undo G l fu _ _ _ _ h93) (cwV 0 C.ts gL_law_X5_undo rfl rfl rfl nyV_X5_undo ⟨Nat.le_of_ble_eq_true rfl, Nat.le_of_ble_eq_true rfl⟩) rfl h95 rfl rfl (Nat.le_of_ble_eq_true rfl) dL_law_374 ⟨by show _ ≤ 600000; omega, by show _ ≤ 7302250; omega⟩ (fun H locs I => ?_)
          refine kx_pop 377 C dL_law_377 rfl ?_
          refine kx_aload_n 378 C dL_law_378 (lv_at hl 2 rfl) ?_
          obtain ⟨h99, hf⟩ := ift hf
          obtain ⟨x98, S96, h97, hf⟩ := ob2 hf
          refine kx_callVi 379 C hl I (ci := 5) (As := []) (rest := []) (c_X6_undo G l fu _ _ _ _ h97) (cwV 0 C.ts gL_law_X6_undo rfl rfl rfl nyV_X6_undo ⟨Nat.le_of_ble_eq_true rfl, Nat.le_of_ble_eq_true rfl⟩) rfl h99 rfl rfl (Nat.le_of_ble_eq_true rfl) dL_law_379 ⟨by show _ ≤ 600000; omega, by show _ ≤ 7302250; omega⟩ (fun H locs I => ?_)
          refine kx_pop 382 C dL_law_382 rfl ?_
          refine kx_goto 383 1193 C dL_law_383 (by decide) ?_
          exact ih2 _ _ _ _ _ _ _ _ _ (by omega) (by omega) (by omega) hf I (lv_sub hl [0, 1, 2, 3] rfl)
        replace hf := ifn c91 hf
        by_cases c100 : x12 = 6
        · have hf := ifp c100 hf
          refine kx_tabIn 32 386 C 6 dL_law_32 (e13 ▸ c100) (by decide) rfl (by decide) ?_
          refine kx_aload_n 386 C dL_law_386 (lv_at hl 1 rfl) ?_
          refine kx_aload_n 387 C dL_law_387 (lv_at hl 0 rfl) ?_
          refine kx_iload_n 388 C dL_law_388 (lv_at hl 3 rfl) ?_
          refine kx_iconst 389 C dL_law_389 ?_
          refine kx_iadd 390 C dL_law_390 ?_
          obtain ⟨x101, h102, hf⟩ := ob hf
          refine kx_xld 391 C I hX hbl hbA hXX (by omega) h102 dL_law_391 ?_
          refine kx_aload_n 392 C dL_law_392 (lv_at hl 0 rfl) ?_
          refine kx_iload_n 393 C dL_law_393 (lv_at hl 3 rfl) ?_
          refine kx_iconst 394 C dL_law_394 ?_
          refine kx_iadd 395 C dL_law_395 ?_
          obtain ⟨x103, h104, hf⟩ := ob hf
          refine kx_xld 396 C I hX hbl hbA hXX (by omega) h104 dL_law_396 ?_
          obtain ⟨h108, hf⟩ := ift hf
          obtain ⟨x107, S105, h106, hf⟩ := ob2 hf
          refine kx_callVi 397 C hl I (ci := 4) (As := [.int (iI x101), .int (iI x103)]) (rest := []) (c_X5_know G l fu _ _ _ _ _ _ h106) (cwV 2 C.ts gL_law_X5_know rfl rfl rfl nyV_X5_know ⟨Nat.le_of_ble_eq_true rfl, Nat.le_of_ble_eq_true rfl⟩) rfl h108 rfl rfl (Nat.le_of_ble_eq_true rfl) dL_law_397 ⟨by show _ ≤ 600000; omega, by show _ ≤ 7302250; omega⟩ (fun H locs I => ?_)
          refine kx_pop 400 C dL_law_400 rfl ?_
          refine kx_aload_n 401 C dL_law_401 (lv_at hl 2 rfl) ?_
          refine kx_aload_n 402 C dL_law_402 (lv_at hl 0 rfl) ?_
          refine kx_iload_n 403 C dL_law_403 (lv_at hl 3 rfl) ?_
          refine kx_iconst 404 C dL_law_404 ?_
          refine kx_iadd 405 C dL_law_405 ?_
          obtain ⟨x109, h110, hf⟩ := ob hf
          refine kx_xld 406 C I hX hbl hbA hXX (by omega) h110 dL_law_406 ?_
          refine kx_aload_n 407 C dL_law_407 (lv_at hl 0 rfl) ?_
          refine kx_iload_n 408 C dL_law_408 (lv_at hl 3 rfl) ?_
          refine kx_iconst 409 C dL_law_409 ?_
          refine kx_iadd 410 C dL_law_410 ?_
          obtain ⟨x111, h112, hf⟩ := ob hf
          refine kx_xld 411 C I hX hbl hbA hXX (by omega) h112 dL_law_411 ?_
          obtain ⟨h116, hf⟩ := ift hf
          obtain ⟨x115, S113, h114, hf⟩ := ob2 hf
          refine kx_callVi 412 C hl I (ci := 5) (As := [.int (iI x109), .int (iI x111)]) (rest := []) (c_X6_know G l fu _ _ _ _ _ _ h114) (cwV 2 C.ts gL_law_X6_know rfl rfl rfl nyV_X6_know ⟨Nat.le_of_ble_eq_true rfl, Nat.le_of_ble_eq_true rfl⟩) rfl h116 rfl rfl (Nat.le_of_ble_eq_true rfl) dL_law_412 ⟨by show _ ≤ 600000; omega, by show _ ≤ 7302250; omega⟩ (fun H locs I => ?_)
          refine kx_pop 415 C dL_law_415 rfl ?_
          refine kx_goto 416 1193 C dL_law_416 (by decide) ?_
          exact ih2 _ _ _ _ _ _ _ _ _ (by omega) (by omega) (by omega) hf I (lv_sub hl [0, 1, 2, 3] rfl)
        replace hf := ifn c100 hf
        by_cases c117 : x12 = 7
        · have hf := ifp c117 hf
          refine kx_tabIn 32 419 C 7 dL_law_32 (e13 ▸ c117) (by decide) rfl (by decide) ?_
          refine kx_aload_n 419 C dL_law_419 (lv_at hl 1 rfl) ?_
          refine kx_aload_n 420 C dL_law_420 (lv_at hl 0 rfl) ?_
          refine kx_iload_n 421 C dL_law_421 (lv_at hl 3 rfl) ?_
          refine kx_iconst 422 C dL_law_422 ?_
          refine kx_iadd 423 C dL_law_423 ?_
          obtain ⟨x118, h119, hf⟩ := ob hf
          refine kx_xld 424 C I hX hbl hbA hXX (by omega) h119 dL_law_424 ?_
          refine kx_aload_n 425 C dL_law_425 (lv_at hl 0 rfl) ?_
          refine kx_iload_n 426 C dL_law_426 (lv_at hl 3 rfl) ?_
          refine kx_iconst 427 C dL_law_427 ?_
          refine kx_iadd 428 C dL_law_428 ?_
          obtain ⟨x120, h121, hf⟩ := ob hf
          refine kx_xld 429 C I hX hbl hbA hXX (by omega) h121 dL_law_429 ?_
          obtain ⟨h125, hf⟩ := ift hf
          obtain ⟨x124, S122, h123, hf⟩ := ob2 hf
          refine kx_callVi 430 C hl I (ci := 4) (As := [.int (iI x118), .int (iI x120)]) (rest := []) (c_X5_report G l fu _ _ _ _ _ _ h123) (cwV 2 C.ts gL_law_X5_report rfl rfl rfl nyV_X5_report ⟨Nat.le_of_ble_eq_true rfl, Nat.le_of_ble_eq_true rfl⟩) rfl h125 rfl rfl (Nat.le_of_ble_eq_true rfl) dL_law_430 ⟨by show _ ≤ 600000; omega, by show _ ≤ 7302250; omega⟩ (fun H locs I => ?_)
          refine kx_pop 433 C dL_law_433 rfl ?_
          refine kx_aload_n 434 C dL_law_434 (lv_at hl 2 rfl) ?_
          refine kx_aload_n 435 C dL_law_435 (lv_at hl 0 rfl) ?_
          refine kx_iload_n 436 C dL_law_436 (lv_at hl 3 rfl) ?_
          refine kx_iconst 437 C dL_law_437 ?_
          refine kx_iadd 438 C dL_law_438 ?_
          obtain ⟨x126, h127, hf⟩ := ob hf
          refine kx_xld 439 C I hX hbl hbA hXX (by omega) h127 dL_law_439 ?_
          refine kx_aload_n 440 C dL_law_440 (lv_at hl 0 rfl) ?_
          refine kx_iload_n 441 C dL_law_441 (lv_at hl 3 rfl) ?_
          refine kx_iconst 442 C dL_law_442 ?_
          refine kx_iadd 443 C dL_law_443 ?_
          obtain ⟨x128, h129, hf⟩ := ob hf
          refine kx_xld 444 C I hX hbl hbA hXX (by omega) h129 dL_law_444 ?_
          obtain ⟨h133, hf⟩ := ift hf
          obtain ⟨x132, S130, h131, hf⟩ := ob2 hf
          refine kx_callVi 445 C hl I (ci := 5) (As := [.int (iI x126), .int (iI x128)]) (rest := []) (c_X6_report G l fu _ _ _ _ _ _ h131) (cwV 2 C.ts gL_law_X6_report rfl rfl rfl nyV_X6_report ⟨Nat.le_of_ble_eq_true rfl, Nat.le_of_ble_eq_true rfl⟩) rfl h133 rfl rfl (Nat.le_of_ble_eq_true rfl) dL_law_445 ⟨by show _ ≤ 600000; omega, by show _ ≤ 7302250; omega⟩ (fun H locs I => ?_)
          refine kx_pop 448 C dL_law_448 rfl ?_
          refine kx_goto 449 1193 C dL_law_449 (by decide) ?_
          exact ih2 _ _ _ _ _ _ _ _ _ (by omega) (by omega) (by omega) hf I (lv_sub hl [0, 1, 2, 3] rfl)
        replace hf := ifn c117 hf
        by_cases c134 : x12 = 8
        · have hf := ifp c134 hf
          refine kx_tabIn 32 452 C 8 dL_law_32 (e13 ▸ c134) (by decide) rfl (by decide) ?_
          refine kx_aload_n 452 C dL_law_452 (lv_at hl 1 rfl) ?_
          refine kx_aload_n 453 C dL_law_453 (lv_at hl 0 rfl) ?_
          refine kx_iload_n 454 C dL_law_454 (lv_at hl 3 rfl) ?_
          refine kx_iconst 455 C dL_law_455 ?_
          refine kx_iadd 456 C dL_law_456 ?_
          obtain ⟨x135, h136, hf⟩ := ob hf
          refine kx_xld 457 C I hX hbl hbA hXX (by omega) h136 dL_law_457 ?_
          obtain ⟨h140, hf⟩ := ift hf
          obtain ⟨x139, S137, h138, hf⟩ := ob2 hf
          refine kx_callVi 458 C hl I (ci := 4) (As := [.int (iI x135)]) (rest := []) (c_X5_forget G l fu _ _ _ _ _ h138) (cwV 1 C.ts gL_law_X5_forget rfl rfl rfl nyV_X5_forget ⟨Nat.le_of_ble_eq_true rfl, Nat.le_of_ble_eq_true rfl⟩) rfl h140 rfl rfl (Nat.le_of_ble_eq_true rfl) dL_law_458 ⟨by show _ ≤ 600000; omega, by show _ ≤ 7302250; omega⟩ (fun H locs I => ?_)
          refine kx_pop 461 C dL_law_461 rfl ?_
          refine kx_aload_n 462 C dL_law_462 (lv_at hl 2 rfl) ?_
          refine kx_aload_n 463 C dL_law_463 (lv_at hl 0 rfl) ?_
          refine kx_iload_n 464 C dL_law_464 (lv_at hl 3 rfl) ?_
          refine kx_iconst 465 C dL_law_465 ?_
          refine kx_iadd 466 C dL_law_466 ?_
          obtain ⟨x141, h142, hf⟩ := ob hf
          refine kx_xld 467 C I hX hbl hbA hXX (by omega) h142 dL_law_467 ?_
          obtain ⟨h146, hf⟩ := ift hf
          obtain ⟨x145, S143, h144, hf⟩ := ob2 hf
          refine kx_callVi 468 C hl I (ci := 5) (As := [.int (iI x141)]) (rest := []) (c_X6_forget G l fu _ _ _ _ _ h144) (cwV 1 C.ts gL_law_X6_forget rfl rfl rfl nyV_X6_forget ⟨Nat.le_of_ble_eq_true rfl, Nat.le_of_ble_eq_true rfl⟩) rfl h146 rfl rfl (Nat.le_of_ble_eq_true rfl) dL_law_468 ⟨by show _ ≤ 600000; omega, by show _ ≤ 7302250; omega⟩ (fun H locs I => ?_)
          refine kx_pop 471 C dL_law_471 rfl ?_
          refine kx_goto 472 1193 C dL_law_472 (by decide) ?_
          exact ih2 _ _ _ _ _ _ _ _ _ (by omega) (by omega) (by omega) hf I (lv_sub hl [0, 1, 2, 3] rfl)
        replace hf := ifn c134 hf
        by_cases c147 : x12 = 9
        · have hf := ifp c147 hf
          refine kx_tabIn 32 475 C 9 dL_law_32 (e13 ▸ c147) (by decide) rfl (by decide) ?_
          refine kx_aload_n 475 C dL_law_475 (lv_at hl 1 rfl) ?_
          refine kx_aload_n 476 C dL_law_476 (lv_at hl 0 rfl) ?_
          refine kx_iload_n 477 C dL_law_477 (lv_at hl 3 rfl) ?_
          refine kx_iconst 478 C dL_law_478 ?_
          refine kx_iadd 479 C dL_law_479 ?_
          obtain ⟨x148, h149, hf⟩ := ob hf
          refine kx_xld 480 C I hX hbl hbA hXX (by omega) h149 dL_law_480 ?_
          obtain ⟨h153, hf⟩ := ift hf
          obtain ⟨x152, S150, h151, hf⟩ := ob2 hf
          refine kx_callVi 481 C hl I (ci := 4) (As := [.int (iI x148)]) (rest := []) (c_X5_type G l fu _ _ _ _ _ h151) (cwV 1 C.ts gL_law_X5_type rfl rfl rfl nyV_X5_type ⟨Nat.le_of_ble_eq_true rfl, Nat.le_of_ble_eq_true rfl⟩) rfl h153 rfl rfl (Nat.le_of_ble_eq_true rfl) dL_law_481 ⟨by show _ ≤ 600000; omega, by show _ ≤ 7302250; omega⟩ (fun H locs I => ?_)
          refine kx_pop 484 C dL_law_484 rfl ?_
          refine kx_aload_n 485 C dL_law_485 (lv_at hl 2 rfl) ?_
          refine kx_aload_n 486 C dL_law_486 (lv_at hl 0 rfl) ?_
          refine kx_iload_n 487 C dL_law_487 (lv_at hl 3 rfl) ?_
          refine kx_iconst 488 C dL_law_488 ?_
          refine kx_iadd 489 C dL_law_489 ?_
          obtain ⟨x154, h155, hf⟩ := ob hf
          refine kx_xld 490 C I hX hbl hbA hXX (by omega) h155 dL_law_490 ?_
          obtain ⟨h159, hf⟩ := ift hf
          obtain ⟨x158, S156, h157, hf⟩ := ob2 hf
          refine kx_callVi 491 C hl I (ci := 5) (As := [.int (iI x154)]) (rest := []) (c_X6_type G l fu _ _ _ _ _ h157) (cwV 1 C.ts gL_law_X6_type rfl rfl rfl nyV_X6_type ⟨Nat.le_of_ble_eq_true rfl, Nat.le_of_ble_eq_true rfl⟩) rfl h159 rfl rfl (Nat.le_of_ble_eq_true rfl) dL_law_491 ⟨by show _ ≤ 600000; omega, by show _ ≤ 7302250; omega⟩ (fun H locs I => ?_)
          refine kx_pop 494 C dL_law_494 rfl ?_
          refine kx_goto 495 1193 C dL_law_495 (by decide) ?_
          exact ih2 _ _ _ _ _ _ _ _ _ (by omega) (by omega) (by omega) hf I (lv_sub hl [0, 1, 2, 3] rfl)
        replace hf := ifn c147 hf
        by_cases c160 : x12 = 10
        · have hf := ifp c160 hf
          refine kx_tabIn 32 498 C 10 dL_law_32 (e13 ▸ c160) (by decide) rfl (by decide) ?_
          refine kx_aload_n 498 C dL_law_498 (lv_at hl 1 rfl) ?_
          obtain ⟨h164, hf⟩ := ift hf
          obtain ⟨x163, S161, h162, hf⟩ := ob2 hf
          refine kx_callVi 499 C hl I (ci := 4) (As := []) (rest := []) (c_X5_clear G l fu _ _ _ _ h162) (cwV 0 C.ts gL_law_X5_clear rfl rfl rfl nyV_X5_clear ⟨Nat.le_of_ble_eq_true rfl, Nat.le_of_ble_eq_true rfl⟩) rfl h164 rfl rfl (Nat.le_of_ble_eq_true rfl) dL_law_499 ⟨by show _ ≤ 600000; omega, by show _ ≤ 7302250; omega⟩ (fun H locs I => ?_)
          refine kx_pop 502 C dL_law_502 rfl ?_
          refine kx_aload_n 503 C dL_law_503 (lv_at hl 2 rfl) ?_
          obtain ⟨h168, hf⟩ := ift hf
          obtain ⟨x167, S165, h166, hf⟩ := ob2 hf
          refine kx_callVi 504 C hl I (ci := 5) (As := []) (rest := []) (c_X6_clear G l fu _ _ _ _ h166) (cwV 0 C.ts gL_law_X6_clear rfl rfl rfl nyV_X6_clear ⟨Nat.le_of_ble_eq_true rfl, Nat.le_of_ble_eq_true rfl⟩) rfl h168 rfl rfl (Nat.le_of_ble_eq_true rfl) dL_law_504 ⟨by show _ ≤ 600000; omega, by show _ ≤ 7302250; omega⟩ (fun H locs I => ?_)
          refine kx_pop 507 C dL_law_507 rfl ?_
          refine kx_goto 508 1193 C dL_law_508 (by decide) ?_
          exact ih2 _ _ _ _ _ _ _ _ _ (by omega) (by omega) (by omega) hf I (lv_sub hl [0, 1, 2, 3] rfl)
        replace hf := ifn c160 hf
        by_cases c169 : x12 = 11
        · have hf := ifp c169 hf
          refine kx_tabIn 32 511 C 11 dL_law_32 (e13 ▸ c169) (by decide) rfl (by decide) ?_
          refine kx_aload_n 511 C dL_law_511 (lv_at hl 1 rfl) ?_
          obtain ⟨h173, hf⟩ := ift hf
          obtain ⟨x172, S170, h171, hf⟩ := ob2 hf
          refine kx_callVi 512 C hl I (ci := 4) (As := []) (rest := []) (c_X5_read G l fu _ _ _ _ h171) (cwV 0 C.ts gL_law_X5_read rfl rfl rfl nyV_X5_read ⟨Nat.le_of_ble_eq_true rfl, Nat.le_of_ble_eq_true rfl⟩) rfl h173 rfl rfl (Nat.le_of_ble_eq_true rfl) dL_law_512 ⟨by show _ ≤ 600000; omega, by show _ ≤ 7302250; omega⟩ (fun H locs I => ?_)
          refine kx_pop 515 C dL_law_515 rfl ?_
          refine kx_aload_n 516 C dL_law_516 (lv_at hl 2 rfl) ?_
          obtain ⟨h177, hf⟩ := ift hf
          obtain ⟨x176, S174, h175, hf⟩ := ob2 hf
          refine kx_callVi 517 C hl I (ci := 5) (As := []) (rest := []) (c_X6_read G l fu _ _ _ _ h175) (cwV 0 C.ts gL_law_X6_read rfl rfl rfl nyV_X6_read ⟨Nat.le_of_ble_eq_true rfl, Nat.le_of_ble_eq_true rfl⟩) rfl h177 rfl rfl (Nat.le_of_ble_eq_true rfl) dL_law_517 ⟨by show _ ≤ 600000; omega, by show _ ≤ 7302250; omega⟩ (fun H locs I => ?_)
          refine kx_pop 520 C dL_law_520 rfl ?_
          refine kx_goto 521 1193 C dL_law_521 (by decide) ?_
          exact ih2 _ _ _ _ _ _ _ _ _ (by omega) (by omega) (by omega) hf I (lv_sub hl [0, 1, 2, 3] rfl)
        replace hf := ifn c169 hf
        by_cases c178 : x12 = 12
        · have hf := ifp c178 hf
          refine kx_tabIn 32 524 C 12 dL_law_32 (e13 ▸ c178) (by decide) rfl (by decide) ?_
          refine kx_aload_n 524 C dL_law_524 (lv_at hl 1 rfl) ?_
          refine kx_aload_n 525 C dL_law_525 (lv_at hl 0 rfl) ?_
          refine kx_iload_n 526 C dL_law_526 (lv_at hl 3 rfl) ?_
          refine kx_iconst 527 C dL_law_527 ?_
          refine kx_iadd 528 C dL_law_528 ?_
          obtain ⟨x179, h180, hf⟩ := ob hf
          refine kx_xld 529 C I hX hbl hbA hXX (by omega) h180 dL_law_529 ?_
          obtain ⟨h184, hf⟩ := ift hf
          obtain ⟨x183, S181, h182, hf⟩ := ob2 hf
          refine kx_callVi 530 C hl I (ci := 4) (As := [.int (iI x179)]) (rest := []) (c_X5_slip G l fu _ _ _ _ _ h182) (cwV 1 C.ts gL_law_X5_slip rfl rfl rfl nyV_X5_slip ⟨Nat.le_of_ble_eq_true rfl, Nat.le_of_ble_eq_true rfl⟩) rfl h184 rfl rfl (Nat.le_of_ble_eq_true rfl) dL_law_530 ⟨by show _ ≤ 600000; omega, by show _ ≤ 7302250; omega⟩ (fun H locs I => ?_)
          refine kx_pop 533 C dL_law_533 rfl ?_
          refine kx_aload_n 534 C dL_law_534 (lv_at hl 2 rfl) ?_
          refine kx_aload_n 535 C dL_law_535 (lv_at hl 0 rfl) ?_
          refine kx_iload_n 536 C dL_law_536 (lv_at hl 3 rfl) ?_
          refine kx_iconst 537 C dL_law_537 ?_
          refine kx_iadd 538 C dL_law_538 ?_
          obtain ⟨x185, h186, hf⟩ := ob hf
          refine kx_xld 539 C I hX hbl hbA hXX (by omega) h186 dL_law_539 ?_
          obtain ⟨h190, hf⟩ := ift hf
          obtain ⟨x189, S187, h188, hf⟩ := ob2 hf
          refine kx_callVi 540 C hl I (ci := 5) (As := [.int (iI x185)]) (rest := []) (c_X6_slip G l fu _ _ _ _ _ h188) (cwV 1 C.ts gL_law_X6_slip rfl rfl rfl nyV_X6_slip ⟨Nat.le_of_ble_eq_true rfl, Nat.le_of_ble_eq_true rfl⟩) rfl h190 rfl rfl (Nat.le_of_ble_eq_true rfl) dL_law_540 ⟨by show _ ≤ 600000; omega, by show _ ≤ 7302250; omega⟩ (fun H locs I => ?_)
          refine kx_pop 543 C dL_law_543 rfl ?_
          refine kx_goto 544 1193 C dL_law_544 (by decide) ?_
          exact ih2 _ _ _ _ _ _ _ _ _ (by omega) (by omega) (by omega) hf I (lv_sub hl [0, 1, 2, 3] rfl)
        replace hf := ifn c178 hf
        by_cases c191 : x12 = 13
        · have hf := ifp c191 hf
          refine kx_tabIn 32 547 C 13 dL_law_32 (e13 ▸ c191) (by decide) rfl (by decide) ?_
          refine kx_aload_n 547 C dL_law_547 (lv_at hl 1 rfl) ?_
          obtain ⟨h195, hf⟩ := ift hf
          obtain ⟨x194, S192, h193, hf⟩ := ob2 hf
          refine kx_callVi 548 C hl I (ci := 4) (As := []) (rest := []) (c_X5_rank G l fu _ _ _ _ h193) (cwV 0 C.ts gL_law_X5_rank rfl rfl rfl nyV_X5_rank ⟨Nat.le_of_ble_eq_true rfl, Nat.le_of_ble_eq_true rfl⟩) rfl h195 rfl rfl (Nat.le_of_ble_eq_true rfl) dL_law_548 ⟨by show _ ≤ 600000; omega, by show _ ≤ 7302250; omega⟩ (fun H locs I => ?_)
          refine kx_pop 551 C dL_law_551 rfl ?_
          refine kx_aload_n 552 C dL_law_552 (lv_at hl 2 rfl) ?_
          obtain ⟨h199, hf⟩ := ift hf
          obtain ⟨x198, S196, h197, hf⟩ := ob2 hf
          refine kx_callVi 553 C hl I (ci := 5) (As := []) (rest := []) (c_X6_rank G l fu _ _ _ _ h197) (cwV 0 C.ts gL_law_X6_rank rfl rfl rfl nyV_X6_rank ⟨Nat.le_of_ble_eq_true rfl, Nat.le_of_ble_eq_true rfl⟩) rfl h199 rfl rfl (Nat.le_of_ble_eq_true rfl) dL_law_553 ⟨by show _ ≤ 600000; omega, by show _ ≤ 7302250; omega⟩ (fun H locs I => ?_)
          refine kx_pop 556 C dL_law_556 rfl ?_
          refine kx_goto 557 1193 C dL_law_557 (by decide) ?_
          exact ih2 _ _ _ _ _ _ _ _ _ (by omega) (by omega) (by omega) hf I (lv_sub hl [0, 1, 2, 3] rfl)
        replace hf := ifn c191 hf
        by_cases c200 : x12 = 14
        · have hf := ifp c200 hf
          refine kx_tabIn 32 560 C 14 dL_law_32 (e13 ▸ c200) (by decide) rfl (by decide) ?_
          refine kx_aload_n 560 C dL_law_560 (lv_at hl 1 rfl) ?_
          refine kx_aload_n 561 C dL_law_561 (lv_at hl 0 rfl) ?_
          refine kx_iload_n 562 C dL_law_562 (lv_at hl 3 rfl) ?_
          refine kx_iconst 563 C dL_law_563 ?_
          refine kx_iadd 564 C dL_law_564 ?_
          obtain ⟨x201, h202, hf⟩ := ob hf
          refine kx_xld 565 C I hX hbl hbA hXX (by omega) h202 dL_law_565 ?_
          obtain ⟨h206, hf⟩ := ift hf
          obtain ⟨x205, S203, h204, hf⟩ := ob2 hf
          refine kx_callVi 566 C hl I (ci := 4) (As := [.int (iI x201)]) (rest := []) (c_X5_rings G l fu _ _ _ _ _ h204) (cwV 1 C.ts gL_law_X5_rings rfl rfl rfl nyV_X5_rings ⟨Nat.le_of_ble_eq_true rfl, Nat.le_of_ble_eq_true rfl⟩) rfl h206 rfl rfl (Nat.le_of_ble_eq_true rfl) dL_law_566 ⟨by show _ ≤ 600000; omega, by show _ ≤ 7302250; omega⟩ (fun H locs I => ?_)
          refine kx_pop 569 C dL_law_569 rfl ?_
          refine kx_aload_n 570 C dL_law_570 (lv_at hl 2 rfl) ?_
          refine kx_aload_n 571 C dL_law_571 (lv_at hl 0 rfl) ?_
          refine kx_iload_n 572 C dL_law_572 (lv_at hl 3 rfl) ?_
          refine kx_iconst 573 C dL_law_573 ?_
          refine kx_iadd 574 C dL_law_574 ?_
          obtain ⟨x207, h208, hf⟩ := ob hf
          refine kx_xld 575 C I hX hbl hbA hXX (by omega) h208 dL_law_575 ?_
          obtain ⟨h212, hf⟩ := ift hf
          obtain ⟨x211, S209, h210, hf⟩ := ob2 hf
          refine kx_callVi 576 C hl I (ci := 5) (As := [.int (iI x207)]) (rest := []) (c_X6_rings G l fu _ _ _ _ _ h210) (cwV 1 C.ts gL_law_X6_rings rfl rfl rfl nyV_X6_rings ⟨Nat.le_of_ble_eq_true rfl, Nat.le_of_ble_eq_true rfl⟩) rfl h212 rfl rfl (Nat.le_of_ble_eq_true rfl) dL_law_576 ⟨by show _ ≤ 600000; omega, by show _ ≤ 7302250; omega⟩ (fun H locs I => ?_)
          refine kx_pop 579 C dL_law_579 rfl ?_
          refine kx_goto 580 1193 C dL_law_580 (by decide) ?_
          exact ih2 _ _ _ _ _ _ _ _ _ (by omega) (by omega) (by omega) hf I (lv_sub hl [0, 1, 2, 3] rfl)
        replace hf := ifn c200 hf
        by_cases c213 : x12 = 15
        · have hf := ifp c213 hf
          refine kx_tabIn 32 583 C 15 dL_law_32 (e13 ▸ c213) (by decide) rfl (by decide) ?_
          refine kx_aload_n 583 C dL_law_583 (lv_at hl 1 rfl) ?_
          refine kx_aload_n 584 C dL_law_584 (lv_at hl 0 rfl) ?_
          refine kx_iload_n 585 C dL_law_585 (lv_at hl 3 rfl) ?_
          refine kx_iconst 586 C dL_law_586 ?_
          refine kx_iadd 587 C dL_law_587 ?_
          obtain ⟨x214, h215, hf⟩ := ob hf
          refine kx_xld 588 C I hX hbl hbA hXX (by omega) h215 dL_law_588 ?_
          refine kx_aload_n 589 C dL_law_589 (lv_at hl 0 rfl) ?_
          refine kx_iload_n 590 C dL_law_590 (lv_at hl 3 rfl) ?_
          refine kx_iconst 591 C dL_law_591 ?_
          refine kx_iadd 592 C dL_law_592 ?_
          obtain ⟨x216, h217, hf⟩ := ob hf
          refine kx_xld 593 C I hX hbl hbA hXX (by omega) h217 dL_law_593 ?_
          obtain ⟨h221, hf⟩ := ift hf
          obtain ⟨x220, S218, h219, hf⟩ := ob2 hf
          refine kx_callVi 594 C hl I (ci := 4) (As := [.int (iI x214), .int (iI x216)]) (rest := []) (c_X5_opened G l fu _ _ _ _ _ _ h219) (cwV 2 C.ts gL_law_X5_opened rfl rfl rfl nyV_X5_opened ⟨Nat.le_of_ble_eq_true rfl, Nat.le_of_ble_eq_true rfl⟩) rfl h221 rfl rfl (Nat.le_of_ble_eq_true rfl) dL_law_594 ⟨by show _ ≤ 600000; omega, by show _ ≤ 7302250; omega⟩ (fun H locs I => ?_)
          refine kx_pop 597 C dL_law_597 rfl ?_
          refine kx_aload_n 598 C dL_law_598 (lv_at hl 2 rfl) ?_
          refine kx_aload_n 599 C dL_law_599 (lv_at hl 0 rfl) ?_
          refine kx_iload_n 600 C dL_law_600 (lv_at hl 3 rfl) ?_
          refine kx_iconst 601 C dL_law_601 ?_
          refine kx_iadd 602 C dL_law_602 ?_
          obtain ⟨x222, h223, hf⟩ := ob hf
          refine kx_xld 603 C I hX hbl hbA hXX (by omega) h223 dL_law_603 ?_
          refine kx_aload_n 604 C dL_law_604 (lv_at hl 0 rfl) ?_
          refine kx_iload_n 605 C dL_law_605 (lv_at hl 3 rfl) ?_
          refine kx_iconst 606 C dL_law_606 ?_
          refine kx_iadd 607 C dL_law_607 ?_
          obtain ⟨x224, h225, hf⟩ := ob hf
          refine kx_xld 608 C I hX hbl hbA hXX (by omega) h225 dL_law_608 ?_
          obtain ⟨h229, hf⟩ := ift hf
          obtain ⟨x228, S226, h227, hf⟩ := ob2 hf
          refine kx_callVi 609 C hl I (ci := 5) (As := [.int (iI x222), .int (iI x224)]) (rest := []) (c_X6_opened G l fu _ _ _ _ _ _ h227) (cwV 2 C.ts gL_law_X6_opened rfl rfl rfl nyV_X6_opened ⟨Nat.le_of_ble_eq_true rfl, Nat.le_of_ble_eq_true rfl⟩) rfl h229 rfl rfl (Nat.le_of_ble_eq_true rfl) dL_law_609 ⟨by show _ ≤ 600000; omega, by show _ ≤ 7302250; omega⟩ (fun H locs I => ?_)
          refine kx_pop 612 C dL_law_612 rfl ?_
          refine kx_goto 613 1193 C dL_law_613 (by decide) ?_
          exact ih2 _ _ _ _ _ _ _ _ _ (by omega) (by omega) (by omega) hf I (lv_sub hl [0, 1, 2, 3] rfl)
        replace hf := ifn c213 hf
        by_cases c230 : x12 = 16
        · have hf := ifp c230 hf
          refine kx_tabIn 32 616 C 16 dL_law_32 (e13 ▸ c230) (by decide) rfl (by decide) ?_
          refine kx_aload_n 616 C dL_law_616 (lv_at hl 1 rfl) ?_
          obtain ⟨h234, hf⟩ := ift hf
          obtain ⟨x233, S231, h232, hf⟩ := ob2 hf
          refine kx_callVi 617 C hl I (ci := 4) (As := []) (rest := []) (c_X5_finds G l fu _ _ _ _ h232) (cwV 0 C.ts gL_law_X5_finds rfl rfl rfl nyV_X5_finds ⟨Nat.le_of_ble_eq_true rfl, Nat.le_of_ble_eq_true rfl⟩) rfl h234 rfl rfl (Nat.le_of_ble_eq_true rfl) dL_law_617 ⟨by show _ ≤ 600000; omega, by show _ ≤ 7302250; omega⟩ (fun H locs I => ?_)
          refine kx_pop 620 C dL_law_620 rfl ?_
          refine kx_aload_n 621 C dL_law_621 (lv_at hl 2 rfl) ?_
          obtain ⟨h238, hf⟩ := ift hf
          obtain ⟨x237, S235, h236, hf⟩ := ob2 hf
          refine kx_callVi 622 C hl I (ci := 5) (As := []) (rest := []) (c_X6_finds G l fu _ _ _ _ h236) (cwV 0 C.ts gL_law_X6_finds rfl rfl rfl nyV_X6_finds ⟨Nat.le_of_ble_eq_true rfl, Nat.le_of_ble_eq_true rfl⟩) rfl h238 rfl rfl (Nat.le_of_ble_eq_true rfl) dL_law_622 ⟨by show _ ≤ 600000; omega, by show _ ≤ 7302250; omega⟩ (fun H locs I => ?_)
          refine kx_pop 625 C dL_law_625 rfl ?_
          refine kx_goto 626 1193 C dL_law_626 (by decide) ?_
          exact ih2 _ _ _ _ _ _ _ _ _ (by omega) (by omega) (by omega) hf I (lv_sub hl [0, 1, 2, 3] rfl)
        replace hf := ifn c230 hf
        by_cases c239 : x12 = 17
        · have hf := ifp c239 hf
          refine kx_tabIn 32 629 C 17 dL_law_32 (e13 ▸ c239) (by decide) rfl (by decide) ?_
          refine kx_aload_n 629 C dL_law_629 (lv_at hl 1 rfl) ?_
          refine kx_aload_n 630 C dL_law_630 (lv_at hl 0 rfl) ?_
          refine kx_iload_n 631 C dL_law_631 (lv_at hl 3 rfl) ?_
          refine kx_iconst 632 C dL_law_632 ?_
          refine kx_iadd 633 C dL_law_633 ?_
          obtain ⟨x240, h241, hf⟩ := ob hf
          refine kx_xld 634 C I hX hbl hbA hXX (by omega) h241 dL_law_634 ?_
          obtain ⟨h245, hf⟩ := ift hf
          obtain ⟨x244, S242, h243, hf⟩ := ob2 hf
          refine kx_callVi 635 C hl I (ci := 4) (As := [.int (iI x240)]) (rest := []) (c_X5_worked G l fu _ _ _ _ _ h243) (cwV 1 C.ts gL_law_X5_worked rfl rfl rfl nyV_X5_worked ⟨Nat.le_of_ble_eq_true rfl, Nat.le_of_ble_eq_true rfl⟩) rfl h245 rfl rfl (Nat.le_of_ble_eq_true rfl) dL_law_635 ⟨by show _ ≤ 600000; omega, by show _ ≤ 7302250; omega⟩ (fun H locs I => ?_)
          refine kx_pop 638 C dL_law_638 rfl ?_
          refine kx_aload_n 639 C dL_law_639 (lv_at hl 2 rfl) ?_
          refine kx_aload_n 640 C dL_law_640 (lv_at hl 0 rfl) ?_
          refine kx_iload_n 641 C dL_law_641 (lv_at hl 3 rfl) ?_
          refine kx_iconst 642 C dL_law_642 ?_
          refine kx_iadd 643 C dL_law_643 ?_
          obtain ⟨x246, h247, hf⟩ := ob hf
          refine kx_xld 644 C I hX hbl hbA hXX (by omega) h247 dL_law_644 ?_
          obtain ⟨h251, hf⟩ := ift hf
          obtain ⟨x250, S248, h249, hf⟩ := ob2 hf
          refine kx_callVi 645 C hl I (ci := 5) (As := [.int (iI x246)]) (rest := []) (c_X6_worked G l fu _ _ _ _ _ h249) (cwV 1 C.ts gL_law_X6_worked rfl rfl rfl nyV_X6_worked ⟨Nat.le_of_ble_eq_true rfl, Nat.le_of_ble_eq_true rfl⟩) rfl h251 rfl rfl (Nat.le_of_ble_eq_true rfl) dL_law_645 ⟨by show _ ≤ 600000; omega, by show _ ≤ 7302250; omega⟩ (fun H locs I => ?_)
          refine kx_pop 648 C dL_law_648 rfl ?_
          refine kx_goto 649 1193 C dL_law_649 (by decide) ?_
          exact ih2 _ _ _ _ _ _ _ _ _ (by omega) (by omega) (by omega) hf I (lv_sub hl [0, 1, 2, 3] rfl)
        replace hf := ifn c239 hf
        by_cases c252 : x12 = 18
        · have hf := ifp c252 hf
          refine kx_tabIn 32 652 C 18 dL_law_32 (e13 ▸ c252) (by decide) rfl (by decide) ?_
          refine kx_aload_n 652 C dL_law_652 (lv_at hl 1 rfl) ?_
          obtain ⟨h256, hf⟩ := ift hf
          obtain ⟨x255, S253, h254, hf⟩ := ob2 hf
          refine kx_callVi 653 C hl I (ci := 4) (As := []) (rest := []) (c_X5_back G l fu _ _ _ _ h254) (cwV 0 C.ts gL_law_X5_back rfl rfl rfl nyV_X5_back ⟨Nat.le_of_ble_eq_true rfl, Nat.le_of_ble_eq_true rfl⟩) rfl h256 rfl rfl (Nat.le_of_ble_eq_true rfl) dL_law_653 ⟨by show _ ≤ 600000; omega, by show _ ≤ 7302250; omega⟩ (fun H locs I => ?_)
          refine kx_pop 656 C dL_law_656 rfl ?_
          refine kx_aload_n 657 C dL_law_657 (lv_at hl 2 rfl) ?_
          obtain ⟨h260, hf⟩ := ift hf
          obtain ⟨x259, S257, h258, hf⟩ := ob2 hf
          refine kx_callVi 658 C hl I (ci := 5) (As := []) (rest := []) (c_X6_back G l fu _ _ _ _ h258) (cwV 0 C.ts gL_law_X6_back rfl rfl rfl nyV_X6_back ⟨Nat.le_of_ble_eq_true rfl, Nat.le_of_ble_eq_true rfl⟩) rfl h260 rfl rfl (Nat.le_of_ble_eq_true rfl) dL_law_658 ⟨by show _ ≤ 600000; omega, by show _ ≤ 7302250; omega⟩ (fun H locs I => ?_)
          refine kx_pop 661 C dL_law_661 rfl ?_
          refine kx_goto 662 1193 C dL_law_662 (by decide) ?_
          exact ih2 _ _ _ _ _ _ _ _ _ (by omega) (by omega) (by omega) hf I (lv_sub hl [0, 1, 2, 3] rfl)
        replace hf := ifn c252 hf
        by_cases c261 : x12 = 19
        · have hf := ifp c261 hf
          refine kx_tabIn 32 665 C 19 dL_law_32 (e13 ▸ c261) (by decide) rfl (by decide) ?_
          refine kx_aload_n 665 C dL_law_665 (lv_at hl 1 rfl) ?_
          obtain ⟨h265, hf⟩ := ift hf
          obtain ⟨x264, S262, h263, hf⟩ := ob2 hf
          refine kx_callVi 666 C hl I (ci := 4) (As := []) (rest := []) (c_X5_undoes G l fu _ _ _ _ h263) (cwV 0 C.ts gL_law_X5_undoes rfl rfl rfl nyV_X5_undoes ⟨Nat.le_of_ble_eq_true rfl, Nat.le_of_ble_eq_true rfl⟩) rfl h265 rfl rfl (Nat.le_of_ble_eq_true rfl) dL_law_666 ⟨by show _ ≤ 600000; omega, by show _ ≤ 7302250; omega⟩ (fun H locs I => ?_)
          refine kx_pop 669 C dL_law_669 rfl ?_
          refine kx_aload_n 670 C dL_law_670 (lv_at hl 2 rfl) ?_
          obtain ⟨h269, hf⟩ := ift hf
          obtain ⟨x268, S266, h267, hf⟩ := ob2 hf
          refine kx_callVi 671 C hl I (ci := 5) (As := []) (rest := []) (c_X6_undoes G l fu _ _ _ _ h267) (cwV 0 C.ts gL_law_X6_undoes rfl rfl rfl nyV_X6_undoes ⟨Nat.le_of_ble_eq_true rfl, Nat.le_of_ble_eq_true rfl⟩) rfl h269 rfl rfl (Nat.le_of_ble_eq_true rfl) dL_law_671 ⟨by show _ ≤ 600000; omega, by show _ ≤ 7302250; omega⟩ (fun H locs I => ?_)
          refine kx_pop 674 C dL_law_674 rfl ?_
          refine kx_goto 675 1193 C dL_law_675 (by decide) ?_
          exact ih2 _ _ _ _ _ _ _ _ _ (by omega) (by omega) (by omega) hf I (lv_sub hl [0, 1, 2, 3] rfl)
        replace hf := ifn c261 hf
        by_cases c270 : x12 = 20
        · have hf := ifp c270 hf
          refine kx_tabIn 32 678 C 20 dL_law_32 (e13 ▸ c270) (by decide) rfl (by decide) ?_
          refine kx_aload_n 678 C dL_law_678 (lv_at hl 1 rfl) ?_
          obtain ⟨h274, hf⟩ := ift hf
          obtain ⟨x273, S271, h272, hf⟩ := ob2 hf
          refine kx_callVi 679 C hl I (ci := 4) (As := []) (rest := []) (c_X5_goesWith G l fu _ _ _ _ h272) (cwV 0 C.ts gL_law_X5_goesWith rfl rfl rfl nyV_X5_goesWith ⟨Nat.le_of_ble_eq_true rfl, Nat.le_of_ble_eq_true rfl⟩) rfl h274 rfl rfl (Nat.le_of_ble_eq_true rfl) dL_law_679 ⟨by show _ ≤ 600000; omega, by show _ ≤ 7302250; omega⟩ (fun H locs I => ?_)
          refine kx_pop 682 C dL_law_682 rfl ?_
          refine kx_aload_n 683 C dL_law_683 (lv_at hl 2 rfl) ?_
          obtain ⟨h278, hf⟩ := ift hf
          obtain ⟨x277, S275, h276, hf⟩ := ob2 hf
          refine kx_callVi 684 C hl I (ci := 5) (As := []) (rest := []) (c_X6_goesWith G l fu _ _ _ _ h276) (cwV 0 C.ts gL_law_X6_goesWith rfl rfl rfl nyV_X6_goesWith ⟨Nat.le_of_ble_eq_true rfl, Nat.le_of_ble_eq_true rfl⟩) rfl h278 rfl rfl (Nat.le_of_ble_eq_true rfl) dL_law_684 ⟨by show _ ≤ 600000; omega, by show _ ≤ 7302250; omega⟩ (fun H locs I => ?_)
          refine kx_pop 687 C dL_law_687 rfl ?_
          refine kx_goto 688 1193 C dL_law_688 (by decide) ?_
          exact ih2 _ _ _ _ _ _ _ _ _ (by omega) (by omega) (by omega) hf I (lv_sub hl [0, 1, 2, 3] rfl)
        replace hf := ifn c270 hf
        by_cases c279 : x12 = 21
        · have hf := ifp c279 hf
          refine kx_tabIn 32 691 C 21 dL_law_32 (e13 ▸ c279) (by decide) rfl (by decide) ?_
          refine kx_aload_n 691 C dL_law_691 (lv_at hl 1 rfl) ?_
          refine kx_aload_n 692 C dL_law_692 (lv_at hl 0 rfl) ?_
          refine kx_iload_n 693 C dL_law_693 (lv_at hl 3 rfl) ?_
          refine kx_iconst 694 C dL_law_694 ?_
          refine kx_iadd 695 C dL_law_695 ?_
          obtain ⟨x280, h281, hf⟩ := ob hf
          refine kx_xld 696 C I hX hbl hbA hXX (by omega) h281 dL_law_696 ?_
          obtain ⟨h285, hf⟩ := ift hf
          obtain ⟨x284, S282, h283, hf⟩ := ob2 hf
          refine kx_callVi 697 C hl I (ci := 4) (As := [.int (iI x280)]) (rest := []) (c_X5_roots G l fu _ _ _ _ _ h283) (cwV 1 C.ts gL_law_X5_roots rfl rfl rfl nyV_X5_roots ⟨Nat.le_of_ble_eq_true rfl, Nat.le_of_ble_eq_true rfl⟩) rfl h285 rfl rfl (Nat.le_of_ble_eq_true rfl) dL_law_697 ⟨by show _ ≤ 600000; omega, by show _ ≤ 7302250; omega⟩ (fun H locs I => ?_)
          refine kx_pop 700 C dL_law_700 rfl ?_
          refine kx_aload_n 701 C dL_law_701 (lv_at hl 2 rfl) ?_
          refine kx_aload_n 702 C dL_law_702 (lv_at hl 0 rfl) ?_
          refine kx_iload_n 703 C dL_law_703 (lv_at hl 3 rfl) ?_
          refine kx_iconst 704 C dL_law_704 ?_
          refine kx_iadd 705 C dL_law_705 ?_
          obtain ⟨x286, h287, hf⟩ := ob hf
          refine kx_xld 706 C I hX hbl hbA hXX (by omega) h287 dL_law_706 ?_
          obtain ⟨h291, hf⟩ := ift hf
          obtain ⟨x290, S288, h289, hf⟩ := ob2 hf
          refine kx_callVi 707 C hl I (ci := 5) (As := [.int (iI x286)]) (rest := []) (c_X6_roots G l fu _ _ _ _ _ h289) (cwV 1 C.ts gL_law_X6_roots rfl rfl rfl nyV_X6_roots ⟨Nat.le_of_ble_eq_true rfl, Nat.le_of_ble_eq_true rfl⟩) rfl h291 rfl rfl (Nat.le_of_ble_eq_true rfl) dL_law_707 ⟨by show _ ≤ 600000; omega, by show _ ≤ 7302250; omega⟩ (fun H locs I => ?_)
          refine kx_pop 710 C dL_law_710 rfl ?_
          refine kx_goto 711 1193 C dL_law_711 (by decide) ?_
          exact ih2 _ _ _ _ _ _ _ _ _ (by omega) (by omega) (by omega) hf I (lv_sub hl [0, 1, 2, 3] rfl)
        replace hf := ifn c279 hf
        by_cases c292 : x12 = 22
        · have hf := ifp c292 hf
          refine kx_tabIn 32 714 C 22 dL_law_32 (e13 ▸ c292) (by decide) rfl (by decide) ?_
          refine kx_aload_n 714 C dL_law_714 (lv_at hl 1 rfl) ?_
          refine kx_aload_n 715 C dL_law_715 (lv_at hl 0 rfl) ?_
          refine kx_iload_n 716 C dL_law_716 (lv_at hl 3 rfl) ?_
          refine kx_iconst 717 C dL_law_717 ?_
          refine kx_iadd 718 C dL_law_718 ?_
          obtain ⟨x293, h294, hf⟩ := ob hf
          refine kx_xld 719 C I hX hbl hbA hXX (by omega) h294 dL_law_719 ?_
          obtain ⟨h298, hf⟩ := ift hf
          obtain ⟨x297, S295, h296, hf⟩ := ob2 hf
          refine kx_callVi 720 C hl I (ci := 4) (As := [.int (iI x293)]) (rest := []) (c_X5_alike G l fu _ _ _ _ _ h296) (cwV 1 C.ts gL_law_X5_alike rfl rfl rfl nyV_X5_alike ⟨Nat.le_of_ble_eq_true rfl, Nat.le_of_ble_eq_true rfl⟩) rfl h298 rfl rfl (Nat.le_of_ble_eq_true rfl) dL_law_720 ⟨by show _ ≤ 600000; omega, by show _ ≤ 7302250; omega⟩ (fun H locs I => ?_)
          refine kx_pop 723 C dL_law_723 rfl ?_
          refine kx_aload_n 724 C dL_law_724 (lv_at hl 2 rfl) ?_
          refine kx_aload_n 725 C dL_law_725 (lv_at hl 0 rfl) ?_
          refine kx_iload_n 726 C dL_law_726 (lv_at hl 3 rfl) ?_
          refine kx_iconst 727 C dL_law_727 ?_
          refine kx_iadd 728 C dL_law_728 ?_
          obtain ⟨x299, h300, hf⟩ := ob hf
          refine kx_xld 729 C I hX hbl hbA hXX (by omega) h300 dL_law_729 ?_
          obtain ⟨h304, hf⟩ := ift hf
          obtain ⟨x303, S301, h302, hf⟩ := ob2 hf
          refine kx_callVi 730 C hl I (ci := 5) (As := [.int (iI x299)]) (rest := []) (c_X6_alike G l fu _ _ _ _ _ h302) (cwV 1 C.ts gL_law_X6_alike rfl rfl rfl nyV_X6_alike ⟨Nat.le_of_ble_eq_true rfl, Nat.le_of_ble_eq_true rfl⟩) rfl h304 rfl rfl (Nat.le_of_ble_eq_true rfl) dL_law_730 ⟨by show _ ≤ 600000; omega, by show _ ≤ 7302250; omega⟩ (fun H locs I => ?_)
          refine kx_pop 733 C dL_law_733 rfl ?_
          refine kx_goto 734 1193 C dL_law_734 (by decide) ?_
          exact ih2 _ _ _ _ _ _ _ _ _ (by omega) (by omega) (by omega) hf I (lv_sub hl [0, 1, 2, 3] rfl)
        replace hf := ifn c292 hf
        by_cases c305 : x12 = 23
        · have hf := ifp c305 hf
          refine kx_tabIn 32 737 C 23 dL_law_32 (e13 ▸ c305) (by decide) rfl (by decide) ?_
          refine kx_aload_n 737 C dL_law_737 (lv_at hl 1 rfl) ?_
          obtain ⟨h309, hf⟩ := ift hf
          obtain ⟨x308, S306, h307, hf⟩ := ob2 hf
          refine kx_callVi 738 C hl I (ci := 4) (As := []) (rest := []) (c_X5_even G l fu _ _ _ _ h307) (cwV 0 C.ts gL_law_X5_even rfl rfl rfl nyV_X5_even ⟨Nat.le_of_ble_eq_true rfl, Nat.le_of_ble_eq_true rfl⟩) rfl h309 rfl rfl (Nat.le_of_ble_eq_true rfl) dL_law_738 ⟨by show _ ≤ 600000; omega, by show _ ≤ 7302250; omega⟩ (fun H locs I => ?_)
          refine kx_pop 741 C dL_law_741 rfl ?_
          refine kx_aload_n 742 C dL_law_742 (lv_at hl 2 rfl) ?_
          obtain ⟨h313, hf⟩ := ift hf
          obtain ⟨x312, S310, h311, hf⟩ := ob2 hf
          refine kx_callVi 743 C hl I (ci := 5) (As := []) (rest := []) (c_X6_even G l fu _ _ _ _ h311) (cwV 0 C.ts gL_law_X6_even rfl rfl rfl nyV_X6_even ⟨Nat.le_of_ble_eq_true rfl, Nat.le_of_ble_eq_true rfl⟩) rfl h313 rfl rfl (Nat.le_of_ble_eq_true rfl) dL_law_743 ⟨by show _ ≤ 600000; omega, by show _ ≤ 7302250; omega⟩ (fun H locs I => ?_)
          refine kx_pop 746 C dL_law_746 rfl ?_
          refine kx_goto 747 1193 C dL_law_747 (by decide) ?_
          exact ih2 _ _ _ _ _ _ _ _ _ (by omega) (by omega) (by omega) hf I (lv_sub hl [0, 1, 2, 3] rfl)
        replace hf := ifn c305 hf
        by_cases c314 : x12 = 24
        · have hf := ifp c314 hf
          refine kx_tabIn 32 750 C 24 dL_law_32 (e13 ▸ c314) (by decide) rfl (by decide) ?_
          refine kx_aload_n 750 C dL_law_750 (lv_at hl 1 rfl) ?_
          refine kx_aload_n 751 C dL_law_751 (lv_at hl 0 rfl) ?_
          refine kx_iload_n 752 C dL_law_752 (lv_at hl 3 rfl) ?_
          refine kx_iconst 753 C dL_law_753 ?_
          refine kx_iadd 754 C dL_law_754 ?_
          obtain ⟨x315, h316, hf⟩ := ob hf
          refine kx_xld 755 C I hX hbl hbA hXX (by omega) h316 dL_law_755 ?_
          obtain ⟨h320, hf⟩ := ift hf
          obtain ⟨x319, S317, h318, hf⟩ := ob2 hf
          refine kx_callVi 756 C hl I (ci := 4) (As := [.int (iI x315)]) (rest := []) (c_X5_move G l fu _ _ _ _ _ h318) (cwV 1 C.ts gL_law_X5_move rfl rfl rfl nyV_X5_move ⟨Nat.le_of_ble_eq_true rfl, Nat.le_of_ble_eq_true rfl⟩) rfl h320 rfl rfl (Nat.le_of_ble_eq_true rfl) dL_law_756 ⟨by show _ ≤ 600000; omega, by show _ ≤ 7302250; omega⟩ (fun H locs I => ?_)
          refine kx_pop 759 C dL_law_759 rfl ?_
          refine kx_aload_n 760 C dL_law_760 (lv_at hl 2 rfl) ?_
          refine kx_aload_n 761 C dL_law_761 (lv_at hl 0 rfl) ?_
          refine kx_iload_n 762 C dL_law_762 (lv_at hl 3 rfl) ?_
          refine kx_iconst 763 C dL_law_763 ?_
          refine kx_iadd 764 C dL_law_764 ?_
          obtain ⟨x321, h322, hf⟩ := ob hf
          refine kx_xld 765 C I hX hbl hbA hXX (by omega) h322 dL_law_765 ?_
          obtain ⟨h326, hf⟩ := ift hf
          obtain ⟨x325, S323, h324, hf⟩ := ob2 hf
          refine kx_callVi 766 C hl I (ci := 5) (As := [.int (iI x321)]) (rest := []) (c_X6_move G l fu _ _ _ _ _ h324) (cwV 1 C.ts gL_law_X6_move rfl rfl rfl nyV_X6_move ⟨Nat.le_of_ble_eq_true rfl, Nat.le_of_ble_eq_true rfl⟩) rfl h326 rfl rfl (Nat.le_of_ble_eq_true rfl) dL_law_766 ⟨by show _ ≤ 600000; omega, by show _ ≤ 7302250; omega⟩ (fun H locs I => ?_)
          refine kx_pop 769 C dL_law_769 rfl ?_
          refine kx_goto 770 1193 C dL_law_770 (by decide) ?_
          exact ih2 _ _ _ _ _ _ _ _ _ (by omega) (by omega) (by omega) hf I (lv_sub hl [0, 1, 2, 3] rfl)
        replace hf := ifn c314 hf
        by_cases c327 : x12 = 25
        · have hf := ifp c327 hf
          refine kx_tabIn 32 773 C 25 dL_law_32 (e13 ▸ c327) (by decide) rfl (by decide) ?_
          refine kx_aload_n 773 C dL_law_773 (lv_at hl 1 rfl) ?_
          obtain ⟨h331, hf⟩ := ift hf
          obtain ⟨x330, S328, h329, hf⟩ := ob2 hf
          refine kx_callVi 774 C hl I (ci := 4) (As := []) (rest := []) (c_X5_drop G l fu _ _ _ _ h329) (cwV 0 C.ts gL_law_X5_drop rfl rfl rfl nyV_X5_drop ⟨Nat.le_of_ble_eq_true rfl, Nat.le_of_ble_eq_true rfl⟩) rfl h331 rfl rfl (Nat.le_of_ble_eq_true rfl) dL_law_774 ⟨by show _ ≤ 600000; omega, by show _ ≤ 7302250; omega⟩ (fun H locs I => ?_)
          refine kx_pop 777 C dL_law_777 rfl ?_
          refine kx_aload_n 778 C dL_law_778 (lv_at hl 2 rfl) ?_
          obtain ⟨h335, hf⟩ := ift hf
          obtain ⟨x334, S332, h333, hf⟩ := ob2 hf
          refine kx_callVi 779 C hl I (ci := 5) (As := []) (rest := []) (c_X6_drop G l fu _ _ _ _ h333) (cwV 0 C.ts gL_law_X6_drop rfl rfl rfl nyV_X6_drop ⟨Nat.le_of_ble_eq_true rfl, Nat.le_of_ble_eq_true rfl⟩) rfl h335 rfl rfl (Nat.le_of_ble_eq_true rfl) dL_law_779 ⟨by show _ ≤ 600000; omega, by show _ ≤ 7302250; omega⟩ (fun H locs I => ?_)
          refine kx_pop 782 C dL_law_782 rfl ?_
          refine kx_goto 783 1193 C dL_law_783 (by decide) ?_
          exact ih2 _ _ _ _ _ _ _ _ _ (by omega) (by omega) (by omega) hf I (lv_sub hl [0, 1, 2, 3] rfl)
        replace hf := ifn c327 hf
        by_cases c336 : x12 = 26
        · have hf := ifp c336 hf
          refine kx_tabIn 32 786 C 26 dL_law_32 (e13 ▸ c336) (by decide) rfl (by decide) ?_
          refine kx_aload_n 786 C dL_law_786 (lv_at hl 1 rfl) ?_
          refine kx_aload_n 787 C dL_law_787 (lv_at hl 0 rfl) ?_
          refine kx_iload_n 788 C dL_law_788 (lv_at hl 3 rfl) ?_
          refine kx_iconst 789 C dL_law_789 ?_
          refine kx_iadd 790 C dL_law_790 ?_
          obtain ⟨x337, h338, hf⟩ := ob hf
          refine kx_xld 791 C I hX hbl hbA hXX (by omega) h338 dL_law_791 ?_
          obtain ⟨h342, hf⟩ := ift hf
          obtain ⟨x341, S339, h340, hf⟩ := ob2 hf
          refine kx_callVi 792 C hl I (ci := 4) (As := [.int (iI x337)]) (rest := []) (c_X5_make G l fu _ _ _ _ _ h340) (cwV 1 C.ts gL_law_X5_make rfl rfl rfl nyV_X5_make ⟨Nat.le_of_ble_eq_true rfl, Nat.le_of_ble_eq_true rfl⟩) rfl h342 rfl rfl (Nat.le_of_ble_eq_true rfl) dL_law_792 ⟨by show _ ≤ 600000; omega, by show _ ≤ 7302250; omega⟩ (fun H locs I => ?_)
          refine kx_pop 795 C dL_law_795 rfl ?_
          refine kx_aload_n 796 C dL_law_796 (lv_at hl 2 rfl) ?_
          refine kx_aload_n 797 C dL_law_797 (lv_at hl 0 rfl) ?_
          refine kx_iload_n 798 C dL_law_798 (lv_at hl 3 rfl) ?_
          refine kx_iconst 799 C dL_law_799 ?_
          refine kx_iadd 800 C dL_law_800 ?_
          obtain ⟨x343, h344, hf⟩ := ob hf
          refine kx_xld 801 C I hX hbl hbA hXX (by omega) h344 dL_law_801 ?_
          obtain ⟨h348, hf⟩ := ift hf
          obtain ⟨x347, S345, h346, hf⟩ := ob2 hf
          refine kx_callVi 802 C hl I (ci := 5) (As := [.int (iI x343)]) (rest := []) (c_X6_make G l fu _ _ _ _ _ h346) (cwV 1 C.ts gL_law_X6_make rfl rfl rfl nyV_X6_make ⟨Nat.le_of_ble_eq_true rfl, Nat.le_of_ble_eq_true rfl⟩) rfl h348 rfl rfl (Nat.le_of_ble_eq_true rfl) dL_law_802 ⟨by show _ ≤ 600000; omega, by show _ ≤ 7302250; omega⟩ (fun H locs I => ?_)
          refine kx_pop 805 C dL_law_805 rfl ?_
          refine kx_goto 806 1193 C dL_law_806 (by decide) ?_
          exact ih2 _ _ _ _ _ _ _ _ _ (by omega) (by omega) (by omega) hf I (lv_sub hl [0, 1, 2, 3] rfl)
        replace hf := ifn c336 hf
        by_cases c349 : x12 = 27
        · have hf := ifp c349 hf
          refine kx_tabIn 32 809 C 27 dL_law_32 (e13 ▸ c349) (by decide) rfl (by decide) ?_
          refine kx_aload_n 809 C dL_law_809 (lv_at hl 1 rfl) ?_
          obtain ⟨h353, hf⟩ := ift hf
          obtain ⟨x352, S350, h351, hf⟩ := ob2 hf
          refine kx_callVi 810 C hl I (ci := 4) (As := []) (rest := []) (c_X5_group G l fu _ _ _ _ h351) (cwV 0 C.ts gL_law_X5_group rfl rfl rfl nyV_X5_group ⟨Nat.le_of_ble_eq_true rfl, Nat.le_of_ble_eq_true rfl⟩) rfl h353 rfl rfl (Nat.le_of_ble_eq_true rfl) dL_law_810 ⟨by show _ ≤ 600000; omega, by show _ ≤ 7302250; omega⟩ (fun H locs I => ?_)
          refine kx_pop 813 C dL_law_813 rfl ?_
          refine kx_aload_n 814 C dL_law_814 (lv_at hl 2 rfl) ?_
          obtain ⟨h357, hf⟩ := ift hf
          obtain ⟨x356, S354, h355, hf⟩ := ob2 hf
          refine kx_callVi 815 C hl I (ci := 5) (As := []) (rest := []) (c_X6_group G l fu _ _ _ _ h355) (cwV 0 C.ts gL_law_X6_group rfl rfl rfl nyV_X6_group ⟨Nat.le_of_ble_eq_true rfl, Nat.le_of_ble_eq_true rfl⟩) rfl h357 rfl rfl (Nat.le_of_ble_eq_true rfl) dL_law_815 ⟨by show _ ≤ 600000; omega, by show _ ≤ 7302250; omega⟩ (fun H locs I => ?_)
          refine kx_pop 818 C dL_law_818 rfl ?_
          refine kx_goto 819 1193 C dL_law_819 (by decide) ?_
          exact ih2 _ _ _ _ _ _ _ _ _ (by omega) (by omega) (by omega) hf I (lv_sub hl [0, 1, 2, 3] rfl)
        replace hf := ifn c349 hf
        by_cases c358 : x12 = 28
        · have hf := ifp c358 hf
          refine kx_tabIn 32 822 C 28 dL_law_32 (e13 ▸ c358) (by decide) rfl (by decide) ?_
          refine kx_aload_n 822 C dL_law_822 (lv_at hl 1 rfl) ?_
          refine kx_aload_n 823 C dL_law_823 (lv_at hl 0 rfl) ?_
          refine kx_iload_n 824 C dL_law_824 (lv_at hl 3 rfl) ?_
          refine kx_iconst 825 C dL_law_825 ?_
          refine kx_iadd 826 C dL_law_826 ?_
          obtain ⟨x359, h360, hf⟩ := ob hf
          refine kx_xld 827 C I hX hbl hbA hXX (by omega) h360 dL_law_827 ?_
          refine kx_aload_n 828 C dL_law_828 (lv_at hl 0 rfl) ?_
          refine kx_iload_n 829 C dL_law_829 (lv_at hl 3 rfl) ?_
          refine kx_iconst 830 C dL_law_830 ?_
          refine kx_iadd 831 C dL_law_831 ?_
          obtain ⟨x361, h362, hf⟩ := ob hf
          refine kx_xld 832 C I hX hbl hbA hXX (by omega) h362 dL_law_832 ?_
          obtain ⟨h366, hf⟩ := ift hf
          obtain ⟨x365, S363, h364, hf⟩ := ob2 hf
          refine kx_callVi 833 C hl I (ci := 4) (As := [.int (iI x359), .int (iI x361)]) (rest := []) (c_X5_fewest G l fu _ _ _ _ _ _ h364) (cwV 2 C.ts gL_law_X5_fewest rfl rfl rfl nyV_X5_fewest ⟨Nat.le_of_ble_eq_true rfl, Nat.le_of_ble_eq_true rfl⟩) rfl h366 rfl rfl (Nat.le_of_ble_eq_true rfl) dL_law_833 ⟨by show _ ≤ 600000; omega, by show _ ≤ 7302250; omega⟩ (fun H locs I => ?_)
          refine kx_pop 836 C dL_law_836 rfl ?_
          refine kx_aload_n 837 C dL_law_837 (lv_at hl 2 rfl) ?_
          refine kx_aload_n 838 C dL_law_838 (lv_at hl 0 rfl) ?_
          refine kx_iload_n 839 C dL_law_839 (lv_at hl 3 rfl) ?_
          refine kx_iconst 840 C dL_law_840 ?_
          refine kx_iadd 841 C dL_law_841 ?_
          obtain ⟨x367, h368, hf⟩ := ob hf
          refine kx_xld 842 C I hX hbl hbA hXX (by omega) h368 dL_law_842 ?_
          refine kx_aload_n 843 C dL_law_843 (lv_at hl 0 rfl) ?_
          refine kx_iload_n 844 C dL_law_844 (lv_at hl 3 rfl) ?_
          refine kx_iconst 845 C dL_law_845 ?_
          refine kx_iadd 846 C dL_law_846 ?_
          obtain ⟨x369, h370, hf⟩ := ob hf
          refine kx_xld 847 C I hX hbl hbA hXX (by omega) h370 dL_law_847 ?_
          obtain ⟨h374, hf⟩ := ift hf
          obtain ⟨x373, S371, h372, hf⟩ := ob2 hf
          refine kx_callVi 848 C hl I (ci := 5) (As := [.int (iI x367), .int (iI x369)]) (rest := []) (c_X6_fewest G l fu _ _ _ _ _ _ h372) (cwV 2 C.ts gL_law_X6_fewest rfl rfl rfl nyV_X6_fewest ⟨Nat.le_of_ble_eq_true rfl, Nat.le_of_ble_eq_true rfl⟩) rfl h374 rfl rfl (Nat.le_of_ble_eq_true rfl) dL_law_848 ⟨by show _ ≤ 600000; omega, by show _ ≤ 7302250; omega⟩ (fun H locs I => ?_)
          refine kx_pop 851 C dL_law_851 rfl ?_
          refine kx_goto 852 1193 C dL_law_852 (by decide) ?_
          exact ih2 _ _ _ _ _ _ _ _ _ (by omega) (by omega) (by omega) hf I (lv_sub hl [0, 1, 2, 3] rfl)
        replace hf := ifn c358 hf
        by_cases c375 : x12 = 29
        · have hf := ifp c375 hf
          refine kx_tabIn 32 855 C 29 dL_law_32 (e13 ▸ c375) (by decide) rfl (by decide) ?_
          refine kx_aload_n 855 C dL_law_855 (lv_at hl 1 rfl) ?_
          refine kx_aload_n 856 C dL_law_856 (lv_at hl 0 rfl) ?_
          refine kx_iload_n 857 C dL_law_857 (lv_at hl 3 rfl) ?_
          refine kx_iconst 858 C dL_law_858 ?_
          refine kx_iadd 859 C dL_law_859 ?_
          obtain ⟨x376, h377, hf⟩ := ob hf
          refine kx_xld 860 C I hX hbl hbA hXX (by omega) h377 dL_law_860 ?_
          obtain ⟨h381, hf⟩ := ift hf
          obtain ⟨x380, S378, h379, hf⟩ := ob2 hf
          refine kx_callVi 861 C hl I (ci := 4) (As := [.int (iI x376)]) (rest := []) (c_X5_till G l fu _ _ _ _ _ h379) (cwV 1 C.ts gL_law_X5_till rfl rfl rfl nyV_X5_till ⟨Nat.le_of_ble_eq_true rfl, Nat.le_of_ble_eq_true rfl⟩) rfl h381 rfl rfl (Nat.le_of_ble_eq_true rfl) dL_law_861 ⟨by show _ ≤ 600000; omega, by show _ ≤ 7302250; omega⟩ (fun H locs I => ?_)
          refine kx_pop 864 C dL_law_864 rfl ?_
          refine kx_aload_n 865 C dL_law_865 (lv_at hl 2 rfl) ?_
          refine kx_aload_n 866 C dL_law_866 (lv_at hl 0 rfl) ?_
          refine kx_iload_n 867 C dL_law_867 (lv_at hl 3 rfl) ?_
          refine kx_iconst 868 C dL_law_868 ?_
          refine kx_iadd 869 C dL_law_869 ?_
          obtain ⟨x382, h383, hf⟩ := ob hf
          refine kx_xld 870 C I hX hbl hbA hXX (by omega) h383 dL_law_870 ?_
          obtain ⟨h387, hf⟩ := ift hf
          obtain ⟨x386, S384, h385, hf⟩ := ob2 hf
          refine kx_callVi 871 C hl I (ci := 5) (As := [.int (iI x382)]) (rest := []) (c_X6_till G l fu _ _ _ _ _ h385) (cwV 1 C.ts gL_law_X6_till rfl rfl rfl nyV_X6_till ⟨Nat.le_of_ble_eq_true rfl, Nat.le_of_ble_eq_true rfl⟩) rfl h387 rfl rfl (Nat.le_of_ble_eq_true rfl) dL_law_871 ⟨by show _ ≤ 600000; omega, by show _ ≤ 7302250; omega⟩ (fun H locs I => ?_)
          refine kx_pop 874 C dL_law_874 rfl ?_
          refine kx_goto 875 1193 C dL_law_875 (by decide) ?_
          exact ih2 _ _ _ _ _ _ _ _ _ (by omega) (by omega) (by omega) hf I (lv_sub hl [0, 1, 2, 3] rfl)
        replace hf := ifn c375 hf
        by_cases c388 : x12 = 30
        · have hf := ifp c388 hf
          refine kx_tabIn 32 878 C 30 dL_law_32 (e13 ▸ c388) (by decide) rfl (by decide) ?_
          refine kx_aload_n 878 C dL_law_878 (lv_at hl 1 rfl) ?_
          refine kx_aload_n 879 C dL_law_879 (lv_at hl 0 rfl) ?_
          refine kx_iload_n 880 C dL_law_880 (lv_at hl 3 rfl) ?_
          refine kx_iconst 881 C dL_law_881 ?_
          refine kx_iadd 882 C dL_law_882 ?_
          obtain ⟨x389, h390, hf⟩ := ob hf
          refine kx_xld 883 C I hX hbl hbA hXX (by omega) h390 dL_law_883 ?_
          obtain ⟨h394, hf⟩ := ift hf
          obtain ⟨x393, S391, h392, hf⟩ := ob2 hf
          refine kx_callVi 884 C hl I (ci := 4) (As := [.int (iI x389)]) (rest := []) (c_X5_mayBe G l fu _ _ _ _ _ h392) (cwV 1 C.ts gL_law_X5_mayBe rfl rfl rfl nyV_X5_mayBe ⟨Nat.le_of_ble_eq_true rfl, Nat.le_of_ble_eq_true rfl⟩) rfl h394 rfl rfl (Nat.le_of_ble_eq_true rfl) dL_law_884 ⟨by show _ ≤ 600000; omega, by show _ ≤ 7302250; omega⟩ (fun H locs I => ?_)
          refine kx_pop 887 C dL_law_887 rfl ?_
          refine kx_aload_n 888 C dL_law_888 (lv_at hl 2 rfl) ?_
          refine kx_aload_n 889 C dL_law_889 (lv_at hl 0 rfl) ?_
          refine kx_iload_n 890 C dL_law_890 (lv_at hl 3 rfl) ?_
          refine kx_iconst 891 C dL_law_891 ?_
          refine kx_iadd 892 C dL_law_892 ?_
          obtain ⟨x395, h396, hf⟩ := ob hf
          refine kx_xld 893 C I hX hbl hbA hXX (by omega) h396 dL_law_893 ?_
          obtain ⟨h400, hf⟩ := ift hf
          obtain ⟨x399, S397, h398, hf⟩ := ob2 hf
          refine kx_callVi 894 C hl I (ci := 5) (As := [.int (iI x395)]) (rest := []) (c_X6_mayBe G l fu _ _ _ _ _ h398) (cwV 1 C.ts gL_law_X6_mayBe rfl rfl rfl nyV_X6_mayBe ⟨Nat.le_of_ble_eq_true rfl, Nat.le_of_ble_eq_true rfl⟩) rfl h400 rfl rfl (Nat.le_of_ble_eq_true rfl) dL_law_894 ⟨by show _ ≤ 600000; omega, by show _ ≤ 7302250; omega⟩ (fun H locs I => ?_)
          refine kx_pop 897 C dL_law_897 rfl ?_
          refine kx_goto 898 1193 C dL_law_898 (by decide) ?_
          exact ih2 _ _ _ _ _ _ _ _ _ (by omega) (by omega) (by omega) hf I (lv_sub hl [0, 1, 2, 3] rfl)
        replace hf := ifn c388 hf
        by_cases c401 : x12 = 31
        · have hf := ifp c401 hf
          refine kx_tabIn 32 901 C 31 dL_law_32 (e13 ▸ c401) (by decide) rfl (by decide) ?_
          refine kx_aload_n 901 C dL_law_901 (lv_at hl 1 rfl) ?_
          refine kx_aload_n 902 C dL_law_902 (lv_at hl 0 rfl) ?_
          refine kx_iload_n 903 C dL_law_903 (lv_at hl 3 rfl) ?_
          refine kx_iconst 904 C dL_law_904 ?_
          refine kx_iadd 905 C dL_law_905 ?_
          obtain ⟨x402, h403, hf⟩ := ob hf
          refine kx_xld 906 C I hX hbl hbA hXX (by omega) h403 dL_law_906 ?_
          obtain ⟨h407, hf⟩ := ift hf
          obtain ⟨x406, S404, h405, hf⟩ := ob2 hf
          refine kx_callVi 907 C hl I (ci := 4) (As := [.int (iI x402)]) (rest := []) (c_X5_chance G l fu _ _ _ _ _ h405) (cwV 1 C.ts gL_law_X5_chance rfl rfl rfl nyV_X5_chance ⟨Nat.le_of_ble_eq_true rfl, Nat.le_of_ble_eq_true rfl⟩) rfl h407 rfl rfl (Nat.le_of_ble_eq_true rfl) dL_law_907 ⟨by show _ ≤ 600000; omega, by show _ ≤ 7302250; omega⟩ (fun H locs I => ?_)
          refine kx_pop 910 C dL_law_910 rfl ?_
          refine kx_aload_n 911 C dL_law_911 (lv_at hl 2 rfl) ?_
          refine kx_aload_n 912 C dL_law_912 (lv_at hl 0 rfl) ?_
          refine kx_iload_n 913 C dL_law_913 (lv_at hl 3 rfl) ?_
          refine kx_iconst 914 C dL_law_914 ?_
          refine kx_iadd 915 C dL_law_915 ?_
          obtain ⟨x408, h409, hf⟩ := ob hf
          refine kx_xld 916 C I hX hbl hbA hXX (by omega) h409 dL_law_916 ?_
          obtain ⟨h413, hf⟩ := ift hf
          obtain ⟨x412, S410, h411, hf⟩ := ob2 hf
          refine kx_callVi 917 C hl I (ci := 5) (As := [.int (iI x408)]) (rest := []) (c_X6_chance G l fu _ _ _ _ _ h411) (cwV 1 C.ts gL_law_X6_chance rfl rfl rfl nyV_X6_chance ⟨Nat.le_of_ble_eq_true rfl, Nat.le_of_ble_eq_true rfl⟩) rfl h413 rfl rfl (Nat.le_of_ble_eq_true rfl) dL_law_917 ⟨by show _ ≤ 600000; omega, by show _ ≤ 7302250; omega⟩ (fun H locs I => ?_)
          refine kx_pop 920 C dL_law_920 rfl ?_
          refine kx_goto 921 1193 C dL_law_921 (by decide) ?_
          exact ih2 _ _ _ _ _ _ _ _ _ (by omega) (by omega) (by omega) hf I (lv_sub hl [0, 1, 2, 3] rfl)
        replace hf := ifn c401 hf
        by_cases c414 : x12 = 32
        · have hf := ifp c414 hf
          refine kx_tabIn 32 924 C 32 dL_law_32 (e13 ▸ c414) (by decide) rfl (by decide) ?_
          refine kx_aload_n 924 C dL_law_924 (lv_at hl 1 rfl) ?_
          obtain ⟨h418, hf⟩ := ift hf
          obtain ⟨x417, S415, h416, hf⟩ := ob2 hf
          refine kx_callVi 925 C hl I (ci := 4) (As := []) (rest := []) (c_X5_look G l fu _ _ _ _ h416) (cwV 0 C.ts gL_law_X5_look rfl rfl rfl nyV_X5_look ⟨Nat.le_of_ble_eq_true rfl, Nat.le_of_ble_eq_true rfl⟩) rfl h418 rfl rfl (Nat.le_of_ble_eq_true rfl) dL_law_925 ⟨by show _ ≤ 600000; omega, by show _ ≤ 7302250; omega⟩ (fun H locs I => ?_)
          refine kx_pop 928 C dL_law_928 rfl ?_
          refine kx_aload_n 929 C dL_law_929 (lv_at hl 2 rfl) ?_
          obtain ⟨h422, hf⟩ := ift hf
          obtain ⟨x421, S419, h420, hf⟩ := ob2 hf
          refine kx_callVi 930 C hl I (ci := 5) (As := []) (rest := []) (c_X6_look G l fu _ _ _ _ h420) (cwV 0 C.ts gL_law_X6_look rfl rfl rfl nyV_X6_look ⟨Nat.le_of_ble_eq_true rfl, Nat.le_of_ble_eq_true rfl⟩) rfl h422 rfl rfl (Nat.le_of_ble_eq_true rfl) dL_law_930 ⟨by show _ ≤ 600000; omega, by show _ ≤ 7302250; omega⟩ (fun H locs I => ?_)
          refine kx_pop 933 C dL_law_933 rfl ?_
          refine kx_goto 934 1193 C dL_law_934 (by decide) ?_
          exact ih2 _ _ _ _ _ _ _ _ _ (by omega) (by omega) (by omega) hf I (lv_sub hl [0, 1, 2, 3] rfl)
        replace hf := ifn c414 hf
        by_cases c423 : x12 = 33
        · have hf := ifp c423 hf
          refine kx_tabIn 32 937 C 33 dL_law_32 (e13 ▸ c423) (by decide) rfl (by decide) ?_
          refine kx_aload_n 937 C dL_law_937 (lv_at hl 1 rfl) ?_
          obtain ⟨h427, hf⟩ := ift hf
          obtain ⟨x426, S424, h425, hf⟩ := ob2 hf
          refine kx_callVi 938 C hl I (ci := 4) (As := []) (rest := []) (c_X5_advice G l fu _ _ _ _ h425) (cwV 0 C.ts gL_law_X5_advice rfl rfl rfl nyV_X5_advice ⟨Nat.le_of_ble_eq_true rfl, Nat.le_of_ble_eq_true rfl⟩) rfl h427 rfl rfl (Nat.le_of_ble_eq_true rfl) dL_law_938 ⟨by show _ ≤ 600000; omega, by show _ ≤ 7302250; omega⟩ (fun H locs I => ?_)
          refine kx_pop 941 C dL_law_941 rfl ?_
          refine kx_aload_n 942 C dL_law_942 (lv_at hl 2 rfl) ?_
          obtain ⟨h431, hf⟩ := ift hf
          obtain ⟨x430, S428, h429, hf⟩ := ob2 hf
          refine kx_callVi 943 C hl I (ci := 5) (As := []) (rest := []) (c_X6_advice G l fu _ _ _ _ h429) (cwV 0 C.ts gL_law_X6_advice rfl rfl rfl nyV_X6_advice ⟨Nat.le_of_ble_eq_true rfl, Nat.le_of_ble_eq_true rfl⟩) rfl h431 rfl rfl (Nat.le_of_ble_eq_true rfl) dL_law_943 ⟨by show _ ≤ 600000; omega, by show _ ≤ 7302250; omega⟩ (fun H locs I => ?_)
          refine kx_pop 946 C dL_law_946 rfl ?_
          refine kx_goto 947 1193 C dL_law_947 (by decide) ?_
          exact ih2 _ _ _ _ _ _ _ _ _ (by omega) (by omega) (by omega) hf I (lv_sub hl [0, 1, 2, 3] rfl)
        replace hf := ifn c423 hf
        by_cases c432 : x12 = 34
        · have hf := ifp c432 hf
          refine kx_tabIn 32 950 C 34 dL_law_32 (e13 ▸ c432) (by decide) rfl (by decide) ?_
          refine kx_aload_n 950 C dL_law_950 (lv_at hl 1 rfl) ?_
          refine kx_aload_n 951 C dL_law_951 (lv_at hl 0 rfl) ?_
          refine kx_iload_n 952 C dL_law_952 (lv_at hl 3 rfl) ?_
          refine kx_iconst 953 C dL_law_953 ?_
          refine kx_iadd 954 C dL_law_954 ?_
          obtain ⟨x433, h434, hf⟩ := ob hf
          refine kx_xld 955 C I hX hbl hbA hXX (by omega) h434 dL_law_955 ?_
          obtain ⟨h438, hf⟩ := ift hf
          obtain ⟨x437, S435, h436, hf⟩ := ob2 hf
          refine kx_callVi 956 C hl I (ci := 4) (As := [.int (iI x433)]) (rest := []) (c_X5_worst G l fu _ _ _ _ _ h436) (cwV 1 C.ts gL_law_X5_worst rfl rfl rfl nyV_X5_worst ⟨Nat.le_of_ble_eq_true rfl, Nat.le_of_ble_eq_true rfl⟩) rfl h438 rfl rfl (Nat.le_of_ble_eq_true rfl) dL_law_956 ⟨by show _ ≤ 600000; omega, by show _ ≤ 7302250; omega⟩ (fun H locs I => ?_)
          refine kx_pop 959 C dL_law_959 rfl ?_
          refine kx_aload_n 960 C dL_law_960 (lv_at hl 2 rfl) ?_
          refine kx_aload_n 961 C dL_law_961 (lv_at hl 0 rfl) ?_
          refine kx_iload_n 962 C dL_law_962 (lv_at hl 3 rfl) ?_
          refine kx_iconst 963 C dL_law_963 ?_
          refine kx_iadd 964 C dL_law_964 ?_
          obtain ⟨x439, h440, hf⟩ := ob hf
          refine kx_xld 965 C I hX hbl hbA hXX (by omega) h440 dL_law_965 ?_
          obtain ⟨h444, hf⟩ := ift hf
          obtain ⟨x443, S441, h442, hf⟩ := ob2 hf
          refine kx_callVi 966 C hl I (ci := 5) (As := [.int (iI x439)]) (rest := []) (c_X6_worst G l fu _ _ _ _ _ h442) (cwV 1 C.ts gL_law_X6_worst rfl rfl rfl nyV_X6_worst ⟨Nat.le_of_ble_eq_true rfl, Nat.le_of_ble_eq_true rfl⟩) rfl h444 rfl rfl (Nat.le_of_ble_eq_true rfl) dL_law_966 ⟨by show _ ≤ 600000; omega, by show _ ≤ 7302250; omega⟩ (fun H locs I => ?_)
          refine kx_pop 969 C dL_law_969 rfl ?_
          refine kx_goto 970 1193 C dL_law_970 (by decide) ?_
          exact ih2 _ _ _ _ _ _ _ _ _ (by omega) (by omega) (by omega) hf I (lv_sub hl [0, 1, 2, 3] rfl)
        replace hf := ifn c432 hf
        by_cases c445 : x12 = 35
        · have hf := ifp c445 hf
          refine kx_tabIn 32 973 C 35 dL_law_32 (e13 ▸ c445) (by decide) rfl (by decide) ?_
          refine kx_aload_n 973 C dL_law_973 (lv_at hl 1 rfl) ?_
          obtain ⟨h449, hf⟩ := ift hf
          obtain ⟨x448, S446, h447, hf⟩ := ob2 hf
          refine kx_callVi 974 C hl I (ci := 4) (As := []) (rest := []) (c_X5_mended G l fu _ _ _ _ h447) (cwV 0 C.ts gL_law_X5_mended rfl rfl rfl nyV_X5_mended ⟨Nat.le_of_ble_eq_true rfl, Nat.le_of_ble_eq_true rfl⟩) rfl h449 rfl rfl (Nat.le_of_ble_eq_true rfl) dL_law_974 ⟨by show _ ≤ 600000; omega, by show _ ≤ 7302250; omega⟩ (fun H locs I => ?_)
          refine kx_pop 977 C dL_law_977 rfl ?_
          refine kx_aload_n 978 C dL_law_978 (lv_at hl 2 rfl) ?_
          obtain ⟨h453, hf⟩ := ift hf
          obtain ⟨x452, S450, h451, hf⟩ := ob2 hf
          refine kx_callVi 979 C hl I (ci := 5) (As := []) (rest := []) (c_X6_mended G l fu _ _ _ _ h451) (cwV 0 C.ts gL_law_X6_mended rfl rfl rfl nyV_X6_mended ⟨Nat.le_of_ble_eq_true rfl, Nat.le_of_ble_eq_true rfl⟩) rfl h453 rfl rfl (Nat.le_of_ble_eq_true rfl) dL_law_979 ⟨by show _ ≤ 600000; omega, by show _ ≤ 7302250; omega⟩ (fun H locs I => ?_)
          refine kx_pop 982 C dL_law_982 rfl ?_
          refine kx_goto 983 1193 C dL_law_983 (by decide) ?_
          exact ih2 _ _ _ _ _ _ _ _ _ (by omega) (by omega) (by omega) hf I (lv_sub hl [0, 1, 2, 3] rfl)
        replace hf := ifn c445 hf
        by_cases c454 : x12 = 36
        · have hf := ifp c454 hf
          refine kx_tabIn 32 986 C 36 dL_law_32 (e13 ▸ c454) (by decide) rfl (by decide) ?_
          refine kx_aload_n 986 C dL_law_986 (lv_at hl 1 rfl) ?_
          refine kx_aload_n 987 C dL_law_987 (lv_at hl 0 rfl) ?_
          refine kx_iload_n 988 C dL_law_988 (lv_at hl 3 rfl) ?_
          refine kx_iconst 989 C dL_law_989 ?_
          refine kx_iadd 990 C dL_law_990 ?_
          obtain ⟨x455, h456, hf⟩ := ob hf
          refine kx_xld 991 C I hX hbl hbA hXX (by omega) h456 dL_law_991 ?_
          obtain ⟨h460, hf⟩ := ift hf
          obtain ⟨x459, S457, h458, hf⟩ := ob2 hf
          refine kx_callVi 992 C hl I (ci := 4) (As := [.int (iI x455)]) (rest := []) (c_X5_third G l fu _ _ _ _ _ h458) (cwV 1 C.ts gL_law_X5_third rfl rfl rfl nyV_X5_third ⟨Nat.le_of_ble_eq_true rfl, Nat.le_of_ble_eq_true rfl⟩) rfl h460 rfl rfl (Nat.le_of_ble_eq_true rfl) dL_law_992 ⟨by show _ ≤ 600000; omega, by show _ ≤ 7302250; omega⟩ (fun H locs I => ?_)
          refine kx_pop 995 C dL_law_995 rfl ?_
          refine kx_aload_n 996 C dL_law_996 (lv_at hl 2 rfl) ?_
          refine kx_aload_n 997 C dL_law_997 (lv_at hl 0 rfl) ?_
          refine kx_iload_n 998 C dL_law_998 (lv_at hl 3 rfl) ?_
          refine kx_iconst 999 C dL_law_999 ?_
          refine kx_iadd 1000 C dL_law_1000 ?_
          obtain ⟨x461, h462, hf⟩ := ob hf
          refine kx_xld 1001 C I hX hbl hbA hXX (by omega) h462 dL_law_1001 ?_
          obtain ⟨h466, hf⟩ := ift hf
          obtain ⟨x465, S463, h464, hf⟩ := ob2 hf
          refine kx_callVi 1002 C hl I (ci := 5) (As := [.int (iI x461)]) (rest := []) (c_X6_third G l fu _ _ _ _ _ h464) (cwV 1 C.ts gL_law_X6_third rfl rfl rfl nyV_X6_third ⟨Nat.le_of_ble_eq_true rfl, Nat.le_of_ble_eq_true rfl⟩) rfl h466 rfl rfl (Nat.le_of_ble_eq_true rfl) dL_law_1002 ⟨by show _ ≤ 600000; omega, by show _ ≤ 7302250; omega⟩ (fun H locs I => ?_)
          refine kx_pop 1005 C dL_law_1005 rfl ?_
          refine kx_goto 1006 1193 C dL_law_1006 (by decide) ?_
          exact ih2 _ _ _ _ _ _ _ _ _ (by omega) (by omega) (by omega) hf I (lv_sub hl [0, 1, 2, 3] rfl)
        replace hf := ifn c454 hf
        by_cases c467 : x12 = 37
        · have hf := ifp c467 hf
          refine kx_tabIn 32 1009 C 37 dL_law_32 (e13 ▸ c467) (by decide) rfl (by decide) ?_
          refine kx_aload_n 1009 C dL_law_1009 (lv_at hl 1 rfl) ?_
          refine kx_aload_n 1010 C dL_law_1010 (lv_at hl 0 rfl) ?_
          refine kx_iload_n 1011 C dL_law_1011 (lv_at hl 3 rfl) ?_
          refine kx_iconst 1012 C dL_law_1012 ?_
          refine kx_iadd 1013 C dL_law_1013 ?_
          obtain ⟨x468, h469, hf⟩ := ob hf
          refine kx_xld 1014 C I hX hbl hbA hXX (by omega) h469 dL_law_1014 ?_
          obtain ⟨h473, hf⟩ := ift hf
          obtain ⟨x472, S470, h471, hf⟩ := ob2 hf
          refine kx_callVi 1015 C hl I (ci := 4) (As := [.int (iI x468)]) (rest := []) (c_X5_laid G l fu _ _ _ _ _ h471) (cwV 1 C.ts gL_law_X5_laid rfl rfl rfl nyV_X5_laid ⟨Nat.le_of_ble_eq_true rfl, Nat.le_of_ble_eq_true rfl⟩) rfl h473 rfl rfl (Nat.le_of_ble_eq_true rfl) dL_law_1015 ⟨by show _ ≤ 600000; omega, by show _ ≤ 7302250; omega⟩ (fun H locs I => ?_)
          refine kx_pop 1018 C dL_law_1018 rfl ?_
          refine kx_aload_n 1019 C dL_law_1019 (lv_at hl 2 rfl) ?_
          refine kx_aload_n 1020 C dL_law_1020 (lv_at hl 0 rfl) ?_
          refine kx_iload_n 1021 C dL_law_1021 (lv_at hl 3 rfl) ?_
          refine kx_iconst 1022 C dL_law_1022 ?_
          refine kx_iadd 1023 C dL_law_1023 ?_
          obtain ⟨x474, h475, hf⟩ := ob hf
          refine kx_xld 1024 C I hX hbl hbA hXX (by omega) h475 dL_law_1024 ?_
          obtain ⟨h479, hf⟩ := ift hf
          obtain ⟨x478, S476, h477, hf⟩ := ob2 hf
          refine kx_callVi 1025 C hl I (ci := 5) (As := [.int (iI x474)]) (rest := []) (c_X6_laid G l fu _ _ _ _ _ h477) (cwV 1 C.ts gL_law_X6_laid rfl rfl rfl nyV_X6_laid ⟨Nat.le_of_ble_eq_true rfl, Nat.le_of_ble_eq_true rfl⟩) rfl h479 rfl rfl (Nat.le_of_ble_eq_true rfl) dL_law_1025 ⟨by show _ ≤ 600000; omega, by show _ ≤ 7302250; omega⟩ (fun H locs I => ?_)
          refine kx_pop 1028 C dL_law_1028 rfl ?_
          refine kx_goto 1029 1193 C dL_law_1029 (by decide) ?_
          exact ih2 _ _ _ _ _ _ _ _ _ (by omega) (by omega) (by omega) hf I (lv_sub hl [0, 1, 2, 3] rfl)
        replace hf := ifn c467 hf
        by_cases c480 : x12 = 38
        · have hf := ifp c480 hf
          refine kx_tabIn 32 1032 C 38 dL_law_32 (e13 ▸ c480) (by decide) rfl (by decide) ?_
          refine kx_aload_n 1032 C dL_law_1032 (lv_at hl 1 rfl) ?_
          refine kx_aload_n 1033 C dL_law_1033 (lv_at hl 0 rfl) ?_
          refine kx_iload_n 1034 C dL_law_1034 (lv_at hl 3 rfl) ?_
          refine kx_iconst 1035 C dL_law_1035 ?_
          refine kx_iadd 1036 C dL_law_1036 ?_
          obtain ⟨x481, h482, hf⟩ := ob hf
          refine kx_xld 1037 C I hX hbl hbA hXX (by omega) h482 dL_law_1037 ?_
          refine kx_aload_n 1038 C dL_law_1038 (lv_at hl 0 rfl) ?_
          refine kx_iload_n 1039 C dL_law_1039 (lv_at hl 3 rfl) ?_
          refine kx_iconst 1040 C dL_law_1040 ?_
          refine kx_iadd 1041 C dL_law_1041 ?_
          obtain ⟨x483, h484, hf⟩ := ob hf
          refine kx_xld 1042 C I hX hbl hbA hXX (by omega) h484 dL_law_1042 ?_
          obtain ⟨h488, hf⟩ := ift hf
          obtain ⟨x487, S485, h486, hf⟩ := ob2 hf
          refine kx_callVi 1043 C hl I (ci := 4) (As := [.int (iI x481), .int (iI x483)]) (rest := []) (c_X5_lucky G l fu _ _ _ _ _ _ h486) (cwV 2 C.ts gL_law_X5_lucky rfl rfl rfl nyV_X5_lucky ⟨Nat.le_of_ble_eq_true rfl, Nat.le_of_ble_eq_true rfl⟩) rfl h488 rfl rfl (Nat.le_of_ble_eq_true rfl) dL_law_1043 ⟨by show _ ≤ 600000; omega, by show _ ≤ 7302250; omega⟩ (fun H locs I => ?_)
          refine kx_pop 1046 C dL_law_1046 rfl ?_
          refine kx_aload_n 1047 C dL_law_1047 (lv_at hl 2 rfl) ?_
          refine kx_aload_n 1048 C dL_law_1048 (lv_at hl 0 rfl) ?_
          refine kx_iload_n 1049 C dL_law_1049 (lv_at hl 3 rfl) ?_
          refine kx_iconst 1050 C dL_law_1050 ?_
          refine kx_iadd 1051 C dL_law_1051 ?_
          obtain ⟨x489, h490, hf⟩ := ob hf
          refine kx_xld 1052 C I hX hbl hbA hXX (by omega) h490 dL_law_1052 ?_
          refine kx_aload_n 1053 C dL_law_1053 (lv_at hl 0 rfl) ?_
          refine kx_iload_n 1054 C dL_law_1054 (lv_at hl 3 rfl) ?_
          refine kx_iconst 1055 C dL_law_1055 ?_
          refine kx_iadd 1056 C dL_law_1056 ?_
          obtain ⟨x491, h492, hf⟩ := ob hf
          refine kx_xld 1057 C I hX hbl hbA hXX (by omega) h492 dL_law_1057 ?_
          obtain ⟨h496, hf⟩ := ift hf
          obtain ⟨x495, S493, h494, hf⟩ := ob2 hf
          refine kx_callVi 1058 C hl I (ci := 5) (As := [.int (iI x489), .int (iI x491)]) (rest := []) (c_X6_lucky G l fu _ _ _ _ _ _ h494) (cwV 2 C.ts gL_law_X6_lucky rfl rfl rfl nyV_X6_lucky ⟨Nat.le_of_ble_eq_true rfl, Nat.le_of_ble_eq_true rfl⟩) rfl h496 rfl rfl (Nat.le_of_ble_eq_true rfl) dL_law_1058 ⟨by show _ ≤ 600000; omega, by show _ ≤ 7302250; omega⟩ (fun H locs I => ?_)
          refine kx_pop 1061 C dL_law_1061 rfl ?_
          refine kx_goto 1062 1193 C dL_law_1062 (by decide) ?_
          exact ih2 _ _ _ _ _ _ _ _ _ (by omega) (by omega) (by omega) hf I (lv_sub hl [0, 1, 2, 3] rfl)
        replace hf := ifn c480 hf
        by_cases c497 : x12 = 39
        · have hf := ifp c497 hf
          refine kx_tabIn 32 1065 C 39 dL_law_32 (e13 ▸ c497) (by decide) rfl (by decide) ?_
          refine kx_aload_n 1065 C dL_law_1065 (lv_at hl 1 rfl) ?_
          refine kx_aload_n 1066 C dL_law_1066 (lv_at hl 0 rfl) ?_
          refine kx_iload_n 1067 C dL_law_1067 (lv_at hl 3 rfl) ?_
          refine kx_iconst 1068 C dL_law_1068 ?_
          refine kx_iadd 1069 C dL_law_1069 ?_
          obtain ⟨x498, h499, hf⟩ := ob hf
          refine kx_xld 1070 C I hX hbl hbA hXX (by omega) h499 dL_law_1070 ?_
          obtain ⟨h503, hf⟩ := ift hf
          obtain ⟨x502, S500, h501, hf⟩ := ob2 hf
          refine kx_callVl 1071 C hl I (ci := 4) (As := [.int (iI x498)]) (rest := []) (c_X5_part G l fu _ _ _ _ _ h501) (cwV 1 C.ts gL_law_X5_part rfl rfl rfl nyV_X5_part ⟨Nat.le_of_ble_eq_true rfl, Nat.le_of_ble_eq_true rfl⟩) rfl h503 rfl rfl (Nat.le_of_ble_eq_true rfl) dL_law_1071 ⟨by show _ ≤ 600000; omega, by show _ ≤ 7302250; omega⟩ (fun H locs I => ?_)
          refine kx_pop2L 1074 C dL_law_1074 rfl ?_
          refine kx_aload_n 1075 C dL_law_1075 (lv_at hl 2 rfl) ?_
          refine kx_aload_n 1076 C dL_law_1076 (lv_at hl 0 rfl) ?_
          refine kx_iload_n 1077 C dL_law_1077 (lv_at hl 3 rfl) ?_
          refine kx_iconst 1078 C dL_law_1078 ?_
          refine kx_iadd 1079 C dL_law_1079 ?_
          obtain ⟨x504, h505, hf⟩ := ob hf
          refine kx_xld 1080 C I hX hbl hbA hXX (by omega) h505 dL_law_1080 ?_
          obtain ⟨h509, hf⟩ := ift hf
          obtain ⟨x508, S506, h507, hf⟩ := ob2 hf
          refine kx_callVl 1081 C hl I (ci := 5) (As := [.int (iI x504)]) (rest := []) (c_X6_part G l fu _ _ _ _ _ h507) (cwV 1 C.ts gL_law_X6_part rfl rfl rfl nyV_X6_part ⟨Nat.le_of_ble_eq_true rfl, Nat.le_of_ble_eq_true rfl⟩) rfl h509 rfl rfl (Nat.le_of_ble_eq_true rfl) dL_law_1081 ⟨by show _ ≤ 600000; omega, by show _ ≤ 7302250; omega⟩ (fun H locs I => ?_)
          refine kx_pop2L 1084 C dL_law_1084 rfl ?_
          refine kx_goto 1085 1193 C dL_law_1085 (by decide) ?_
          exact ih2 _ _ _ _ _ _ _ _ _ (by omega) (by omega) (by omega) hf I (lv_sub hl [0, 1, 2, 3] rfl)
        replace hf := ifn c497 hf
        by_cases c510 : x12 = 40
        · have hf := ifp c510 hf
          refine kx_tabIn 32 1088 C 40 dL_law_32 (e13 ▸ c510) (by decide) rfl (by decide) ?_
          refine kx_aload_n 1088 C dL_law_1088 (lv_at hl 1 rfl) ?_
          refine kx_aload_n 1089 C dL_law_1089 (lv_at hl 0 rfl) ?_
          refine kx_iload_n 1090 C dL_law_1090 (lv_at hl 3 rfl) ?_
          refine kx_iconst 1091 C dL_law_1091 ?_
          refine kx_iadd 1092 C dL_law_1092 ?_
          obtain ⟨x511, h512, hf⟩ := ob hf
          refine kx_xld 1093 C I hX hbl hbA hXX (by omega) h512 dL_law_1093 ?_
          obtain ⟨h516, hf⟩ := ift hf
          obtain ⟨x515, S513, h514, hf⟩ := ob2 hf
          refine kx_callVi 1094 C hl I (ci := 4) (As := [.int (iI x511)]) (rest := []) (c_X5_image G l fu _ _ _ _ _ h514) (cwV 1 C.ts gL_law_X5_image rfl rfl rfl nyV_X5_image ⟨Nat.le_of_ble_eq_true rfl, Nat.le_of_ble_eq_true rfl⟩) rfl h516 rfl rfl (Nat.le_of_ble_eq_true rfl) dL_law_1094 ⟨by show _ ≤ 600000; omega, by show _ ≤ 7302250; omega⟩ (fun H locs I => ?_)
          refine kx_pop 1097 C dL_law_1097 rfl ?_
          refine kx_aload_n 1098 C dL_law_1098 (lv_at hl 2 rfl) ?_
          refine kx_aload_n 1099 C dL_law_1099 (lv_at hl 0 rfl) ?_
          refine kx_iload_n 1100 C dL_law_1100 (lv_at hl 3 rfl) ?_
          refine kx_iconst 1101 C dL_law_1101 ?_
          refine kx_iadd 1102 C dL_law_1102 ?_
          obtain ⟨x517, h518, hf⟩ := ob hf
          refine kx_xld 1103 C I hX hbl hbA hXX (by omega) h518 dL_law_1103 ?_
          obtain ⟨h522, hf⟩ := ift hf
          obtain ⟨x521, S519, h520, hf⟩ := ob2 hf
          refine kx_callVi 1104 C hl I (ci := 5) (As := [.int (iI x517)]) (rest := []) (c_X6_image G l fu _ _ _ _ _ h520) (cwV 1 C.ts gL_law_X6_image rfl rfl rfl nyV_X6_image ⟨Nat.le_of_ble_eq_true rfl, Nat.le_of_ble_eq_true rfl⟩) rfl h522 rfl rfl (Nat.le_of_ble_eq_true rfl) dL_law_1104 ⟨by show _ ≤ 600000; omega, by show _ ≤ 7302250; omega⟩ (fun H locs I => ?_)
          refine kx_pop 1107 C dL_law_1107 rfl ?_
          refine kx_goto 1108 1193 C dL_law_1108 (by decide) ?_
          exact ih2 _ _ _ _ _ _ _ _ _ (by omega) (by omega) (by omega) hf I (lv_sub hl [0, 1, 2, 3] rfl)
        replace hf := ifn c510 hf
        by_cases c523 : x12 = 41
        · have hf := ifp c523 hf
          refine kx_tabIn 32 1111 C 41 dL_law_32 (e13 ▸ c523) (by decide) rfl (by decide) ?_
          refine kx_aload_n 1111 C dL_law_1111 (lv_at hl 1 rfl) ?_
          refine kx_aload_n 1112 C dL_law_1112 (lv_at hl 0 rfl) ?_
          refine kx_iload_n 1113 C dL_law_1113 (lv_at hl 3 rfl) ?_
          refine kx_iconst 1114 C dL_law_1114 ?_
          refine kx_iadd 1115 C dL_law_1115 ?_
          obtain ⟨x524, h525, hf⟩ := ob hf
          refine kx_xld 1116 C I hX hbl hbA hXX (by omega) h525 dL_law_1116 ?_
          obtain ⟨h529, hf⟩ := ift hf
          obtain ⟨x528, S526, h527, hf⟩ := ob2 hf
          refine kx_callVi 1117 C hl I (ci := 4) (As := [.int (iI x524)]) (rest := []) (c_X5_from G l fu _ _ _ _ _ h527) (cwV 1 C.ts gL_law_X5_from rfl rfl rfl nyV_X5_from ⟨Nat.le_of_ble_eq_true rfl, Nat.le_of_ble_eq_true rfl⟩) rfl h529 rfl rfl (Nat.le_of_ble_eq_true rfl) dL_law_1117 ⟨by show _ ≤ 600000; omega, by show _ ≤ 7302250; omega⟩ (fun H locs I => ?_)
          refine kx_aload_n 1120 C dL_law_1120 (lv_at hl 2 rfl) ?_
          refine kx_aload_n 1121 C dL_law_1121 (lv_at hl 0 rfl) ?_
          refine kx_iload_n 1122 C dL_law_1122 (lv_at hl 3 rfl) ?_
          refine kx_iconst 1123 C dL_law_1123 ?_
          refine kx_iadd 1124 C dL_law_1124 ?_
          obtain ⟨x530, h531, hf⟩ := ob hf
          refine kx_xld 1125 C I hX hbl hbA hXX (by omega) h531 dL_law_1125 ?_
          obtain ⟨h535, hf⟩ := ift hf
          obtain ⟨x534, S532, h533, hf⟩ := ob2 hf
          refine kx_callVi 1126 C hl I (ci := 5) (As := [.int (iI x530)]) (rest := [.int (iI x528)]) (c_X6_from G l fu _ _ _ _ _ h533) (cwV 1 C.ts gL_law_X6_from rfl rfl rfl nyV_X6_from ⟨Nat.le_of_ble_eq_true rfl, Nat.le_of_ble_eq_true rfl⟩) rfl h535 rfl rfl (Nat.le_of_ble_eq_true rfl) dL_law_1126 ⟨by show _ ≤ 600000; omega, by show _ ≤ 7302250; omega⟩ (fun H locs I => ?_)
          refine kx_icmp_eq 1129 1193 C dL_law_1129 (by decide) (fun c536 => ?_) (fun c536 => ?_)
          · have hf := ifp c536 hf
            exact ih2 _ _ _ _ _ _ _ _ _ (by omega) (by omega) (by omega) hf I (lv_sub hl [0, 1, 2, 3] rfl)
          · have hf := ifn c536 hf
            refine kx_iconst 1132 C dL_law_1132 ?_
            cases hf
        replace hf := ifn c523 hf
        by_cases c537 : x12 = 42
        · have hf := ifp c537 hf
          refine kx_tabIn 32 1134 C 42 dL_law_32 (e13 ▸ c537) (by decide) rfl (by decide) ?_
          refine kx_aload_n 1134 C dL_law_1134 (lv_at hl 1 rfl) ?_
          refine kx_aload_n 1135 C dL_law_1135 (lv_at hl 0 rfl) ?_
          refine kx_iload_n 1136 C dL_law_1136 (lv_at hl 3 rfl) ?_
          refine kx_iconst 1137 C dL_law_1137 ?_
          refine kx_iadd 1138 C dL_law_1138 ?_
          obtain ⟨x538, h539, hf⟩ := ob hf
          refine kx_xld 1139 C I hX hbl hbA hXX (by omega) h539 dL_law_1139 ?_
          obtain ⟨h543, hf⟩ := ift hf
          obtain ⟨x542, S540, h541, hf⟩ := ob2 hf
          refine kx_callVi 1140 C hl I (ci := 4) (As := [.int (iI x538)]) (rest := []) (c_X5_status G l fu _ _ _ _ _ h541) (cwV 1 C.ts gL_law_X5_status rfl rfl rfl nyV_X5_status ⟨Nat.le_of_ble_eq_true rfl, Nat.le_of_ble_eq_true rfl⟩) rfl h543 rfl rfl (Nat.le_of_ble_eq_true rfl) dL_law_1140 ⟨by show _ ≤ 600000; omega, by show _ ≤ 7302250; omega⟩ (fun H locs I => ?_)
          refine kx_pop 1143 C dL_law_1143 rfl ?_
          refine kx_aload_n 1144 C dL_law_1144 (lv_at hl 2 rfl) ?_
          refine kx_aload_n 1145 C dL_law_1145 (lv_at hl 0 rfl) ?_
          refine kx_iload_n 1146 C dL_law_1146 (lv_at hl 3 rfl) ?_
          refine kx_iconst 1147 C dL_law_1147 ?_
          refine kx_iadd 1148 C dL_law_1148 ?_
          obtain ⟨x544, h545, hf⟩ := ob hf
          refine kx_xld 1149 C I hX hbl hbA hXX (by omega) h545 dL_law_1149 ?_
          obtain ⟨h549, hf⟩ := ift hf
          obtain ⟨x548, S546, h547, hf⟩ := ob2 hf
          refine kx_callVi 1150 C hl I (ci := 5) (As := [.int (iI x544)]) (rest := []) (c_X6_status G l fu _ _ _ _ _ h547) (cwV 1 C.ts gL_law_X6_status rfl rfl rfl nyV_X6_status ⟨Nat.le_of_ble_eq_true rfl, Nat.le_of_ble_eq_true rfl⟩) rfl h549 rfl rfl (Nat.le_of_ble_eq_true rfl) dL_law_1150 ⟨by show _ ≤ 600000; omega, by show _ ≤ 7302250; omega⟩ (fun H locs I => ?_)
          refine kx_pop 1153 C dL_law_1153 rfl ?_
          refine kx_goto 1154 1193 C dL_law_1154 (by decide) ?_
          exact ih2 _ _ _ _ _ _ _ _ _ (by omega) (by omega) (by omega) hf I (lv_sub hl [0, 1, 2, 3] rfl)
        replace hf := ifn c537 hf
        by_cases c550 : x12 = 43
        · have hf := ifp c550 hf
          refine kx_tabIn 32 1157 C 43 dL_law_32 (e13 ▸ c550) (by decide) rfl (by decide) ?_
          refine kx_aload_n 1157 C dL_law_1157 (lv_at hl 1 rfl) ?_
          refine kx_aload_n 1158 C dL_law_1158 (lv_at hl 0 rfl) ?_
          refine kx_iload_n 1159 C dL_law_1159 (lv_at hl 3 rfl) ?_
          refine kx_iconst 1160 C dL_law_1160 ?_
          refine kx_iadd 1161 C dL_law_1161 ?_
          obtain ⟨x551, h552, hf⟩ := ob hf
          refine kx_xld 1162 C I hX hbl hbA hXX (by omega) h552 dL_law_1162 ?_
          obtain ⟨h556, hf⟩ := ift hf
          obtain ⟨x555, S553, h554, hf⟩ := ob2 hf
          refine kx_callVi 1163 C hl I (ci := 4) (As := [.int (iI x551)]) (rest := []) (c_X5_count G l fu _ _ _ _ _ h554) (cwV 1 C.ts gL_law_X5_count rfl rfl rfl nyV_X5_count ⟨Nat.le_of_ble_eq_true rfl, Nat.le_of_ble_eq_true rfl⟩) rfl h556 rfl rfl (Nat.le_of_ble_eq_true rfl) dL_law_1163 ⟨by show _ ≤ 600000; omega, by show _ ≤ 7302250; omega⟩ (fun H locs I => ?_)
          refine kx_pop 1166 C dL_law_1166 rfl ?_
          refine kx_aload_n 1167 C dL_law_1167 (lv_at hl 2 rfl) ?_
          refine kx_aload_n 1168 C dL_law_1168 (lv_at hl 0 rfl) ?_
          refine kx_iload_n 1169 C dL_law_1169 (lv_at hl 3 rfl) ?_
          refine kx_iconst 1170 C dL_law_1170 ?_
          refine kx_iadd 1171 C dL_law_1171 ?_
          obtain ⟨x557, h558, hf⟩ := ob hf
          refine kx_xld 1172 C I hX hbl hbA hXX (by omega) h558 dL_law_1172 ?_
          obtain ⟨h562, hf⟩ := ift hf
          obtain ⟨x561, S559, h560, hf⟩ := ob2 hf
          refine kx_callVi 1173 C hl I (ci := 5) (As := [.int (iI x557)]) (rest := []) (c_X6_count G l fu _ _ _ _ _ h560) (cwV 1 C.ts gL_law_X6_count rfl rfl rfl nyV_X6_count ⟨Nat.le_of_ble_eq_true rfl, Nat.le_of_ble_eq_true rfl⟩) rfl h562 rfl rfl (Nat.le_of_ble_eq_true rfl) dL_law_1173 ⟨by show _ ≤ 600000; omega, by show _ ≤ 7302250; omega⟩ (fun H locs I => ?_)
          refine kx_pop 1176 C dL_law_1176 rfl ?_
          refine kx_goto 1177 1193 C dL_law_1177 (by decide) ?_
          exact ih2 _ _ _ _ _ _ _ _ _ (by omega) (by omega) (by omega) hf I (lv_sub hl [0, 1, 2, 3] rfl)
        replace hf := ifn c550 hf
        by_cases c563 : x12 = 44
        · have hf := ifp c563 hf
          refine kx_tabIn 32 1180 C 44 dL_law_32 (e13 ▸ c563) (by decide) rfl (by decide) ?_
          refine kx_aload_n 1180 C dL_law_1180 (lv_at hl 1 rfl) ?_
          obtain ⟨h567, hf⟩ := ift hf
          obtain ⟨x566, S564, h565, hf⟩ := ob2 hf
          refine kx_callVl 1181 C hl I (ci := 4) (As := []) (rest := []) (c_X5_digest G l fu _ _ _ _ h565) (cwV 0 C.ts gL_law_X5_digest rfl rfl rfl nyV_X5_digest ⟨Nat.le_of_ble_eq_true rfl, Nat.le_of_ble_eq_true rfl⟩) rfl h567 rfl rfl (Nat.le_of_ble_eq_true rfl) dL_law_1181 ⟨by show _ ≤ 600000; omega, by show _ ≤ 7302250; omega⟩ (fun H locs I => ?_)
          refine kx_pop2L 1184 C dL_law_1184 rfl ?_
          refine kx_aload_n 1185 C dL_law_1185 (lv_at hl 2 rfl) ?_
          obtain ⟨h571, hf⟩ := ift hf
          obtain ⟨x570, S568, h569, hf⟩ := ob2 hf
          refine kx_callVl 1186 C hl I (ci := 5) (As := []) (rest := []) (c_X6_digest G l fu _ _ _ _ h569) (cwV 0 C.ts gL_law_X6_digest rfl rfl rfl nyV_X6_digest ⟨Nat.le_of_ble_eq_true rfl, Nat.le_of_ble_eq_true rfl⟩) rfl h571 rfl rfl (Nat.le_of_ble_eq_true rfl) dL_law_1186 ⟨by show _ ≤ 600000; omega, by show _ ≤ 7302250; omega⟩ (fun H locs I => ?_)
          refine kx_pop2L 1189 C dL_law_1189 rfl ?_
          refine kx_goto 1190 1193 C dL_law_1190 (by decide) ?_
          exact ih2 _ _ _ _ _ _ _ _ _ (by omega) (by omega) (by omega) hf I (lv_sub hl [0, 1, 2, 3] rfl)
        replace hf := ifn c563 hf
        refine kx_tabOut 32 1193 C dL_law_32 (e13 ▸ (by omega)) (by decide) ?_
        exact ih2 _ _ _ _ _ _ _ _ _ (by omega) (by omega) (by omega) hf I (lv_sub hl [0, 1, 2, 3] rfl)
    · intro S p0 p1 i0 H locs ls cells slots hv hc hs hf I hl
      replace hf : b_law_2 X (g_law X fu) fu S p0 p1 i0 = some (1, S') := hf
      unfold b_law_2 at hf
      obtain ⟨x572, e573, hf⟩ := nmx_e hf
      refine kx_iinc 1193 C (lv' := [(3, .int (iI x572)), (0, .ref b), (1, .ref (xB G + p0)), (2, .ref (xB G + p1))]) dL_law_1193 hl 3 rfl e573 (by decide) rfl (fun ls hl => ?_)
      refine kx_goto 1196 18 C dL_law_1196 (by decide) ?_
      exact ih1 _ _ _ _ _ _ _ _ _ (by omega) (by omega) (by omega) hf I (lv_sub hl [1, 2, 3, 0] rfl)
