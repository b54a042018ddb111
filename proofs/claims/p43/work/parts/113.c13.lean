def rm_X6_readsItem : Room := { frames := 6, cells := 0, slots := 0, locals := 134 }
theorem hin_X6_readsItem_RX6 : ∀ w ∈ wsX60, w ∈ vsX6_readsItem := fun w h => inM (inlX6 w h)
theorem fl_X6_readsItem_63 : xFl vsX6_readsItem RX6 63 5 28 := ⟨RX6, TX6, 30, rfl, by decide, hin_X6_readsItem_RX6, inM mq_5_10, rfl⟩
theorem fl_X6_readsItem_66 : xFl vsX6_readsItem RX6 66 5 29 := ⟨RX6, TX6, 30, rfl, by decide, hin_X6_readsItem_RX6, inM mq_5_11, rfl⟩
theorem nyS_X6_readsItem : yX6_readsItem.cls ≠ "java/lang/invoke/MethodHandle" ∧ yX6_readsItem.cls ≠ "java/lang/invoke/VarHandle" ∧ (parseMethodDescriptor yX6_readsItem.desc).map (fun d => d.parameters.length) = some 0 := by decide +kernel
theorem nyV_X6_readsItem : yX6_readsItem.cls = RX6 ∧ yX6_readsItem.cls ≠ "java/lang/invoke/MethodHandle" ∧ yX6_readsItem.cls ≠ "java/lang/invoke/VarHandle" ∧ (parseMethodDescriptor yX6_readsItem.desc).map (fun d => d.parameters.length) = some 0 := by decide +kernel
set_option maxHeartbeats 4000000 in
set_option maxRecDepth 100000 in
theorem w_X6_readsItem {G : xG} {p : Program} {l : Launch} {e : Env} {s : State} {m : MethodId} {args : Array Value} {below : List Frame} {meth : Method} {c : Code} (C : xK G p s m args meth c cX6_readsItem 2 vsX6_readsItem RX6 (some .boolean)) (r : Int) (S' : xS) : ∀ k : Nat,
  (∀ (S : xS) (p0 : Nat) (i0 : Int) (H : Heap) (locs : List Loc) (ls : Array Slot), g_X6_readsItem k 0 S p0 i0 = some (r, S') → xI G S s H locs → lv_has ls 2 [(0, .ref (xB G + p0))] → W p l e rm_X6_readsItem s m args below meth c H locs 0 0 (MQ below (xQi G r S') args s 0 0 (xA G)) (F0 m 0 ls [])) ∧
  (∀ (S : xS) (p0 : Nat) (i0 : Int) (H : Heap) (locs : List Loc) (ls : Array Slot), g_X6_readsItem k 1 S p0 i0 = some (r, S') → xI G S s H locs → lv_has ls 2 [(0, .ref (xB G + p0))] → W p l e rm_X6_readsItem s m args below meth c H locs 0 0 (MQ below (xQi G r S') args s 0 0 (xA G)) (F0 m 157 ls [])) ∧
  (∀ (S : xS) (p0 : Nat) (i0 : Int) (H : Heap) (locs : List Loc) (ls : Array Slot), g_X6_readsItem k 2 S p0 i0 = some (r, S') → xI G S s H locs → lv_has ls 2 [(0, .ref (xB G + p0))] → W p l e rm_X6_readsItem s m args below meth c H locs 0 0 (MQ below (xQi G r S') args s 0 0 (xA G)) (F0 m 158 ls [.int (iI i0)])) ∧
  (∀ (S : xS) (p0 : Nat) (i0 : Int) (H : Heap) (locs : List Loc) (ls : Array Slot), g_X6_readsItem k 3 S p0 i0 = some (r, S') → xI G S s H locs → lv_has ls 2 [(0, .ref (xB G + p0)), (1, .int (iI i0))] → W p l e rm_X6_readsItem s m args below meth c H locs 0 0 (MQ below (xQi G r S') args s 0 0 (xA G)) (F0 m 291 ls [])) ∧
  (∀ (S : xS) (p0 : Nat) (i0 : Int) (H : Heap) (locs : List Loc) (ls : Array Slot), g_X6_readsItem k 4 S p0 i0 = some (r, S') → xI G S s H locs → lv_has ls 2 [] → W p l e rm_X6_readsItem s m args below meth c H locs 0 0 (MQ below (xQi G r S') args s 0 0 (xA G)) (F0 m 303 ls [])) := by
  intro k
  induction k with
  | zero => exact ⟨fun _ _ _ _ _ _ hf => (by cases hf), fun _ _ _ _ _ _ hf => (by cases hf), fun _ _ _ _ _ _ hf => (by cases hf), fun _ _ _ _ _ _ hf => (by cases hf), fun _ _ _ _ _ _ hf => (by cases hf)⟩
  | succ fu ih =>
    obtain ⟨ih0, ih1, ih2, ih3, ih4⟩ := ih
    refine ⟨?_, ?_, ?_, ?_, ?_⟩
    · intro S p0 i0 H locs ls hf I hl
      replace hf : b_X6_readsItem_0 (g_X6_readsItem fu) fu S p0 i0 = some (r, S') := hf
      unfold b_X6_readsItem_0 at hf
      refine kx_aload_n 0 C dX6_readsItem_0 (lv_at hl 0 rfl) ?_
      refine kx_bipush 1 C dX6_readsItem_1 (by decide) ?_
      refine kx_bipush 3 C dX6_readsItem_3 (by decide) ?_
      refine kx_bipush 5 C dX6_readsItem_5 (by decide) ?_
      refine kx_bipush 7 C dX6_readsItem_7 (by decide) ?_
      refine kx_bipush 9 C dX6_readsItem_9 (by decide) ?_
      refine kx_iconst 11 C dX6_readsItem_11 ?_
      obtain ⟨h4, hf⟩ := ift hf
      obtain ⟨x3, S1, h2, hf⟩ := ob2 hf
      refine kx_callVi 12 C hl I (ci := 5) (As := [.int (iI 108), .int (iI 101), .int (iI 97), .int (iI 118), .int (iI 101), .int (iI 0)]) (rest := []) (c_X6_isWord G l fu _ _ _ _ _ _ _ _ _ _ h2) (cwV 6 C.ts gX6_readsItem_X6_isWord rfl rfl rfl nyV_X6_isWord ⟨Nat.le_of_ble_eq_true rfl, Nat.le_of_ble_eq_true rfl⟩) rfl h4 rfl rfl (Nat.le_of_ble_eq_true rfl) dX6_readsItem_12 ⟨Nat.le_of_ble_eq_true rfl, Nat.le_of_ble_eq_true rfl⟩ (fun H locs I => ?_)
      refine kx_if_eq 15 57 C dX6_readsItem_15 (by decide) (fun c5 => ?_) (fun c5 => ?_)
      · have hf := ifp c5 hf
        refine kx_aload_n 57 C dX6_readsItem_57 (lv_at hl 0 rfl) ?_
        refine kx_bipush 58 C dX6_readsItem_58 (by decide) ?_
        refine kx_bipush 60 C dX6_readsItem_60 (by decide) ?_
        refine kx_bipush 62 C dX6_readsItem_62 (by decide) ?_
        refine kx_bipush 64 C dX6_readsItem_64 (by decide) ?_
        refine kx_iconst 66 C dX6_readsItem_66 ?_
        refine kx_iconst 67 C dX6_readsItem_67 ?_
        obtain ⟨h9, hf⟩ := ift hf
        obtain ⟨x8, S6, h7, hf⟩ := ob2 hf
        refine kx_callVi 68 C hl I (ci := 5) (As := [.int (iI 116), .int (iI 117), .int (iI 114), .int (iI 110), .int (iI 0), .int (iI 0)]) (rest := []) (c_X6_isWord G l fu _ _ _ _ _ _ _ _ _ _ h7) (cwV 6 C.ts gX6_readsItem_X6_isWord rfl rfl rfl nyV_X6_isWord ⟨Nat.le_of_ble_eq_true rfl, Nat.le_of_ble_eq_true rfl⟩) rfl h9 rfl rfl (Nat.le_of_ble_eq_true rfl) dX6_readsItem_68 ⟨Nat.le_of_ble_eq_true rfl, Nat.le_of_ble_eq_true rfl⟩ (fun H locs I => ?_)
        refine kx_if_eq 71 109 C dX6_readsItem_71 (by decide) (fun c10 => ?_) (fun c10 => ?_)
        · have hf := ifp c10 hf
          refine kx_aload_n 109 C dX6_readsItem_109 (lv_at hl 0 rfl) ?_
          refine kx_bipush 110 C dX6_readsItem_110 (by decide) ?_
          refine kx_bipush 112 C dX6_readsItem_112 (by decide) ?_
          refine kx_bipush 114 C dX6_readsItem_114 (by decide) ?_
          refine kx_bipush 116 C dX6_readsItem_116 (by decide) ?_
          refine kx_iconst 118 C dX6_readsItem_118 ?_
          refine kx_iconst 119 C dX6_readsItem_119 ?_
          obtain ⟨h14, hf⟩ := ift hf
          obtain ⟨x13, S11, h12, hf⟩ := ob2 hf
          refine kx_callVi 120 C hl I (ci := 5) (As := [.int (iI 114), .int (iI 117), .int (iI 108), .int (iI 101), .int (iI 0), .int (iI 0)]) (rest := []) (c_X6_isWord G l fu _ _ _ _ _ _ _ _ _ _ h12) (cwV 6 C.ts gX6_readsItem_X6_isWord rfl rfl rfl nyV_X6_isWord ⟨Nat.le_of_ble_eq_true rfl, Nat.le_of_ble_eq_true rfl⟩) rfl h14 rfl rfl (Nat.le_of_ble_eq_true rfl) dX6_readsItem_120 ⟨Nat.le_of_ble_eq_true rfl, Nat.le_of_ble_eq_true rfl⟩ (fun H locs I => ?_)
          refine kx_if_eq 123 185 C dX6_readsItem_123 (by decide) (fun c15 => ?_) (fun c15 => ?_)
          · have hf := ifp c15 hf
            refine kx_aload_n 185 C dX6_readsItem_185 (lv_at hl 0 rfl) ?_
            refine kx_bipush 186 C dX6_readsItem_186 (by decide) ?_
            refine kx_bipush 188 C dX6_readsItem_188 (by decide) ?_
            refine kx_bipush 190 C dX6_readsItem_190 (by decide) ?_
            refine kx_bipush 192 C dX6_readsItem_192 (by decide) ?_
            refine kx_iconst 194 C dX6_readsItem_194 ?_
            refine kx_iconst 195 C dX6_readsItem_195 ?_
            obtain ⟨h19, hf⟩ := ift hf
            obtain ⟨x18, S16, h17, hf⟩ := ob2 hf
            refine kx_callVi 196 C hl I (ci := 5) (As := [.int (iI 115), .int (iI 119), .int (iI 97), .int (iI 112), .int (iI 0), .int (iI 0)]) (rest := []) (c_X6_isWord G l fu _ _ _ _ _ _ _ _ _ _ h17) (cwV 6 C.ts gX6_readsItem_X6_isWord rfl rfl rfl nyV_X6_isWord ⟨Nat.le_of_ble_eq_true rfl, Nat.le_of_ble_eq_true rfl⟩) rfl h19 rfl rfl (Nat.le_of_ble_eq_true rfl) dX6_readsItem_196 ⟨Nat.le_of_ble_eq_true rfl, Nat.le_of_ble_eq_true rfl⟩ (fun H locs I => ?_)
            refine kx_if_eq 199 207 C dX6_readsItem_199 (by decide) (fun c20 => ?_) (fun c20 => ?_)
            · have hf := ifp c20 hf
              refine kx_aload_n 207 C dX6_readsItem_207 (lv_at hl 0 rfl) ?_
              refine kx_bipush 208 C dX6_readsItem_208 (by decide) ?_
              refine kx_bipush 210 C dX6_readsItem_210 (by decide) ?_
              refine kx_bipush 212 C dX6_readsItem_212 (by decide) ?_
              refine kx_bipush 214 C dX6_readsItem_214 (by decide) ?_
              refine kx_bipush 216 C dX6_readsItem_216 (by decide) ?_
              refine kx_iconst 218 C dX6_readsItem_218 ?_
              obtain ⟨h24, hf⟩ := ift hf
              obtain ⟨x23, S21, h22, hf⟩ := ob2 hf
              refine kx_callVi 219 C hl I (ci := 5) (As := [.int (iI 107), .int (iI 110), .int (iI 111), .int (iI 119), .int (iI 110), .int (iI 0)]) (rest := []) (c_X6_isWord G l fu _ _ _ _ _ _ _ _ _ _ h22) (cwV 6 C.ts gX6_readsItem_X6_isWord rfl rfl rfl nyV_X6_isWord ⟨Nat.le_of_ble_eq_true rfl, Nat.le_of_ble_eq_true rfl⟩) rfl h24 rfl rfl (Nat.le_of_ble_eq_true rfl) dX6_readsItem_219 ⟨Nat.le_of_ble_eq_true rfl, Nat.le_of_ble_eq_true rfl⟩ (fun H locs I => ?_)
              refine kx_if_eq 222 230 C dX6_readsItem_222 (by decide) (fun c25 => ?_) (fun c25 => ?_)
              · have hf := ifp c25 hf
                refine kx_aload_n 230 C dX6_readsItem_230 (lv_at hl 0 rfl) ?_
                refine kx_bipush 231 C dX6_readsItem_231 (by decide) ?_
                refine kx_bipush 233 C dX6_readsItem_233 (by decide) ?_
                refine kx_bipush 235 C dX6_readsItem_235 (by decide) ?_
                refine kx_bipush 237 C dX6_readsItem_237 (by decide) ?_
                refine kx_iconst 239 C dX6_readsItem_239 ?_
                refine kx_iconst 240 C dX6_readsItem_240 ?_
                obtain ⟨h29, hf⟩ := ift hf
                obtain ⟨x28, S26, h27, hf⟩ := ob2 hf
                refine kx_callVi 241 C hl I (ci := 5) (As := [.int (iI 109), .int (iI 111), .int (iI 118), .int (iI 101), .int (iI 0), .int (iI 0)]) (rest := []) (c_X6_isWord G l fu _ _ _ _ _ _ _ _ _ _ h27) (cwV 6 C.ts gX6_readsItem_X6_isWord rfl rfl rfl nyV_X6_isWord ⟨Nat.le_of_ble_eq_true rfl, Nat.le_of_ble_eq_true rfl⟩) rfl h29 rfl rfl (Nat.le_of_ble_eq_true rfl) dX6_readsItem_241 ⟨Nat.le_of_ble_eq_true rfl, Nat.le_of_ble_eq_true rfl⟩ (fun H locs I => ?_)
                refine kx_if_eq 244 252 C dX6_readsItem_244 (by decide) (fun c30 => ?_) (fun c30 => ?_)
                · have hf := ifp c30 hf
                  refine kx_aload_n 252 C dX6_readsItem_252 (lv_at hl 0 rfl) ?_
                  refine kx_bipush 253 C dX6_readsItem_253 (by decide) ?_
                  refine kx_bipush 255 C dX6_readsItem_255 (by decide) ?_
                  refine kx_bipush 257 C dX6_readsItem_257 (by decide) ?_
                  refine kx_bipush 259 C dX6_readsItem_259 (by decide) ?_
                  refine kx_bipush 261 C dX6_readsItem_261 (by decide) ?_
                  refine kx_iconst 263 C dX6_readsItem_263 ?_
                  obtain ⟨h34, hf⟩ := ift hf
                  obtain ⟨x33, S31, h32, hf⟩ := ob2 hf
                  refine kx_callVi 264 C hl I (ci := 5) (As := [.int (iI 102), .int (iI 111), .int (iI 117), .int (iI 110), .int (iI 100), .int (iI 0)]) (rest := []) (c_X6_isWord G l fu _ _ _ _ _ _ _ _ _ _ h32) (cwV 6 C.ts gX6_readsItem_X6_isWord rfl rfl rfl nyV_X6_isWord ⟨Nat.le_of_ble_eq_true rfl, Nat.le_of_ble_eq_true rfl⟩) rfl h34 rfl rfl (Nat.le_of_ble_eq_true rfl) dX6_readsItem_264 ⟨Nat.le_of_ble_eq_true rfl, Nat.le_of_ble_eq_true rfl⟩ (fun H locs I => ?_)
                  refine kx_istore_n 267 C (lv' := [(1, .int (iI x33)), (0, .ref (xB G + p0))]) dX6_readsItem_267 hl (by decide) rfl rfl (fun ls hl => ?_)
                  refine kx_iload_n 268 C dX6_readsItem_268 (lv_at hl 0 rfl) ?_
                  refine kx_if_ne 269 291 C dX6_readsItem_269 (by decide) (fun c35 => ?_) (fun c35 => ?_)
                  · have hf := ifn c35 hf
                    exact ih3 _ _ _ _ _ _ hf I (lv_sub hl [1, 0] rfl)
                  · have hf := ifp c35 hf
                    refine kx_aload_n 272 C dX6_readsItem_272 (lv_at hl 1 rfl) ?_
                    refine kx_bipush 273 C dX6_readsItem_273 (by decide) ?_
                    refine kx_bipush 275 C dX6_readsItem_275 (by decide) ?_
                    refine kx_bipush 277 C dX6_readsItem_277 (by decide) ?_
                    refine kx_bipush 279 C dX6_readsItem_279 (by decide) ?_
                    refine kx_bipush 281 C dX6_readsItem_281 (by decide) ?_
                    refine kx_bipush 283 C dX6_readsItem_283 (by decide) ?_
                    obtain ⟨h39, hf⟩ := ift hf
                    obtain ⟨x38, S36, h37, hf⟩ := ob2 hf
                    refine kx_callVi 285 C hl I (ci := 5) (As := [.int (iI 109), .int (iI 105), .int (iI 115), .int (iI 115), .int (iI 101), .int (iI 100)]) (rest := []) (c_X6_isWord G l fu _ _ _ _ _ _ _ _ _ _ h37) (cwV 6 C.ts gX6_readsItem_X6_isWord rfl rfl rfl nyV_X6_isWord ⟨Nat.le_of_ble_eq_true rfl, Nat.le_of_ble_eq_true rfl⟩) rfl h39 rfl rfl (Nat.le_of_ble_eq_true rfl) dX6_readsItem_285 ⟨Nat.le_of_ble_eq_true rfl, Nat.le_of_ble_eq_true rfl⟩ (fun H locs I => ?_)
                    refine kx_if_eq 288 303 C dX6_readsItem_288 (by decide) (fun c40 => ?_) (fun c40 => ?_)
                    · have hf := ifp c40 hf
                      exact ih4 _ _ _ _ _ _ hf I (lv_sub hl [] rfl)
                    · have hf := ifn c40 hf
                      exact ih3 _ _ _ _ _ _ hf I (lv_sub hl [1, 0] rfl)
                · have hf := ifn c30 hf
                  refine kx_aload_n 247 C dX6_readsItem_247 (lv_at hl 0 rfl) ?_
                  obtain ⟨h44, hf⟩ := ift hf
                  obtain ⟨x43, S41, h42, hf⟩ := ob2 hf
                  refine kx_callVi 248 C hl I (ci := 5) (As := []) (rest := []) (c_X6_readsMove G l fu _ _ _ _ h42) (cwV 0 C.ts gX6_readsItem_X6_readsMove rfl rfl rfl nyV_X6_readsMove ⟨Nat.le_of_ble_eq_true rfl, Nat.le_of_ble_eq_true rfl⟩) rfl h44 rfl rfl (Nat.le_of_ble_eq_true rfl) dX6_readsItem_248 ⟨Nat.le_of_ble_eq_true rfl, Nat.le_of_ble_eq_true rfl⟩ (fun H locs I => ?_)
                  obtain ⟨h45, hf⟩ := ift hf
                  exact kx_zret 251 C I h45 hf dX6_readsItem_251
              · have hf := ifn c25 hf
                refine kx_aload_n 225 C dX6_readsItem_225 (lv_at hl 0 rfl) ?_
                obtain ⟨h49, hf⟩ := ift hf
                obtain ⟨x48, S46, h47, hf⟩ := ob2 hf
                refine kx_callVi 226 C hl I (ci := 5) (As := []) (rest := []) (c_X6_readsKnown G l fu _ _ _ _ h47) (cwV 0 C.ts gX6_readsItem_X6_readsKnown rfl rfl rfl nyV_X6_readsKnown ⟨Nat.le_of_ble_eq_true rfl, Nat.le_of_ble_eq_true rfl⟩) rfl h49 rfl rfl (Nat.le_of_ble_eq_true rfl) dX6_readsItem_226 ⟨Nat.le_of_ble_eq_true rfl, Nat.le_of_ble_eq_true rfl⟩ (fun H locs I => ?_)
                obtain ⟨h50, hf⟩ := ift hf
                exact kx_zret 229 C I h50 hf dX6_readsItem_229
            · have hf := ifn c20 hf
              refine kx_aload_n 202 C dX6_readsItem_202 (lv_at hl 0 rfl) ?_
              obtain ⟨h54, hf⟩ := ift hf
              obtain ⟨x53, S51, h52, hf⟩ := ob2 hf
              refine kx_callVi 203 C hl I (ci := 5) (As := []) (rest := []) (c_X6_readsSwap G l fu _ _ _ _ h52) (cwV 0 C.ts gX6_readsItem_X6_readsSwap rfl rfl rfl nyV_X6_readsSwap ⟨Nat.le_of_ble_eq_true rfl, Nat.le_of_ble_eq_true rfl⟩) rfl h54 rfl rfl (Nat.le_of_ble_eq_true rfl) dX6_readsItem_203 ⟨Nat.le_of_ble_eq_true rfl, Nat.le_of_ble_eq_true rfl⟩ (fun H locs I => ?_)
              obtain ⟨h55, hf⟩ := ift hf
              exact kx_zret 206 C I h55 hf dX6_readsItem_206
          · have hf := ifn c15 hf
            refine kx_aload_n 126 C dX6_readsItem_126 (lv_at hl 0 rfl) ?_
            obtain ⟨h59, hf⟩ := ift hf
            obtain ⟨z58, S56, h57, hf⟩ := ob2 hf
            refine kx_callVv 127 C hl I (ci := 5) (As := []) (rest := []) (c_X6_goOn G l fu _ _ _ _ h57) (cwV 0 C.ts gX6_readsItem_X6_goOn rfl rfl rfl nyV_X6_goOn ⟨Nat.le_of_ble_eq_true rfl, Nat.le_of_ble_eq_true rfl⟩) rfl h59 rfl rfl (Nat.le_of_ble_eq_true rfl) dX6_readsItem_127 ⟨Nat.le_of_ble_eq_true rfl, Nat.le_of_ble_eq_true rfl⟩ (fun H locs I => ?_)
            refine kx_aload_n 130 C dX6_readsItem_130 (lv_at hl 0 rfl) ?_
            refine kx_iconst 131 C dX6_readsItem_131 ?_
            refine kx_iconst 132 C dX6_readsItem_132 ?_
            refine kx_aload_n 133 C dX6_readsItem_133 (lv_at hl 0 rfl) ?_
            obtain ⟨h63, hf⟩ := ift hf
            obtain ⟨x62, S60, h61, hf⟩ := ob2 hf
            refine kx_callVi 134 C hl I (ci := 5) (As := []) (rest := [.int (iI 0), .int (iI 0), .ref (xB G + p0)]) (c_X6_last G l fu _ _ _ _ h61) (cwV 0 C.ts gX6_readsItem_X6_last rfl rfl rfl nyV_X6_last ⟨Nat.le_of_ble_eq_true rfl, Nat.le_of_ble_eq_true rfl⟩) rfl h63 rfl rfl (Nat.le_of_ble_eq_true rfl) dX6_readsItem_134 ⟨Nat.le_of_ble_eq_true rfl, Nat.le_of_ble_eq_true rfl⟩ (fun H locs I => ?_)
            obtain ⟨h67, hf⟩ := ift hf
            obtain ⟨x66, S64, h65, hf⟩ := ob2 hf
            refine kx_callVi 137 C hl I (ci := 5) (As := [.int (iI 0), .int (iI 0), .int (iI x62)]) (rest := []) (c_X6_takes G l fu _ _ _ _ _ _ _ h65) (cwV 3 C.ts gX6_readsItem_X6_takes rfl rfl rfl nyV_X6_takes ⟨Nat.le_of_ble_eq_true rfl, Nat.le_of_ble_eq_true rfl⟩) rfl h67 rfl rfl (Nat.le_of_ble_eq_true rfl) dX6_readsItem_137 ⟨Nat.le_of_ble_eq_true rfl, Nat.le_of_ble_eq_true rfl⟩ (fun H locs I => ?_)
            refine kx_if_eq 140 157 C dX6_readsItem_140 (by decide) (fun c68 => ?_) (fun c68 => ?_)
            · have hf := ifp c68 hf
              exact ih1 _ _ _ _ _ _ hf I (lv_sub hl [0] rfl)
            · have hf := ifn c68 hf
              refine kx_aload_n 143 C dX6_readsItem_143 (lv_at hl 0 rfl) ?_
              refine kx_iconst 144 C dX6_readsItem_144 ?_
              refine kx_iconst 145 C dX6_readsItem_145 ?_
              refine kx_iconst 146 C dX6_readsItem_146 ?_
              obtain ⟨h72, hf⟩ := ift hf
              obtain ⟨x71, S69, h70, hf⟩ := ob2 hf
              refine kx_callVi 147 C hl I (ci := 5) (As := [.int (iI 1), .int (iI 0), .int (iI 5)]) (rest := []) (c_X6_takes G l fu _ _ _ _ _ _ _ h70) (cwV 3 C.ts gX6_readsItem_X6_takes rfl rfl rfl nyV_X6_takes ⟨Nat.le_of_ble_eq_true rfl, Nat.le_of_ble_eq_true rfl⟩) rfl h72 rfl rfl (Nat.le_of_ble_eq_true rfl) dX6_readsItem_147 ⟨Nat.le_of_ble_eq_true rfl, Nat.le_of_ble_eq_true rfl⟩ (fun H locs I => ?_)
              refine kx_if_eq 150 157 C dX6_readsItem_150 (by decide) (fun c73 => ?_) (fun c73 => ?_)
              · have hf := ifp c73 hf
                exact ih1 _ _ _ _ _ _ hf I (lv_sub hl [0] rfl)
              · have hf := ifn c73 hf
                refine kx_iconst 153 C dX6_readsItem_153 ?_
                refine kx_goto 154 158 C dX6_readsItem_154 (by decide) ?_
                exact ih2 _ _ _ _ _ _ hf I (lv_sub hl [0] rfl)
        · have hf := ifn c10 hf
          refine kx_aload_n 74 C dX6_readsItem_74 (lv_at hl 0 rfl) ?_
          obtain ⟨h77, hf⟩ := ift hf
          obtain ⟨z76, S74, h75, hf⟩ := ob2 hf
          refine kx_callVv 75 C hl I (ci := 5) (As := []) (rest := []) (c_X6_goOn G l fu _ _ _ _ h75) (cwV 0 C.ts gX6_readsItem_X6_goOn rfl rfl rfl nyV_X6_goOn ⟨Nat.le_of_ble_eq_true rfl, Nat.le_of_ble_eq_true rfl⟩) rfl h77 rfl rfl (Nat.le_of_ble_eq_true rfl) dX6_readsItem_75 ⟨Nat.le_of_ble_eq_true rfl, Nat.le_of_ble_eq_true rfl⟩ (fun H locs I => ?_)
          refine kx_aload_n 78 C dX6_readsItem_78 (lv_at hl 0 rfl) ?_
          refine kx_iconst 79 C dX6_readsItem_79 ?_
          refine kx_iconst 80 C dX6_readsItem_80 ?_
          refine kx_bipush 81 C dX6_readsItem_81 (by decide) ?_
          obtain ⟨h81, hf⟩ := ift hf
          obtain ⟨x80, S78, h79, hf⟩ := ob2 hf
          refine kx_callVi 83 C hl I (ci := 5) (As := [.int (iI 0), .int (iI 0), .int (iI 6)]) (rest := []) (c_X6_takes G l fu _ _ _ _ _ _ _ h79) (cwV 3 C.ts gX6_readsItem_X6_takes rfl rfl rfl nyV_X6_takes ⟨Nat.le_of_ble_eq_true rfl, Nat.le_of_ble_eq_true rfl⟩) rfl h81 rfl rfl (Nat.le_of_ble_eq_true rfl) dX6_readsItem_83 ⟨Nat.le_of_ble_eq_true rfl, Nat.le_of_ble_eq_true rfl⟩ (fun H locs I => ?_)
          refine kx_istore_n 86 C (lv' := [(1, .int (iI x80)), (0, .ref (xB G + p0))]) dX6_readsItem_86 hl (by decide) rfl rfl (fun ls hl => ?_)
          refine kx_aload_n 87 C dX6_readsItem_87 (lv_at hl 1 rfl) ?_
          obtain ⟨q83, h82, hf⟩ := ob hf
          refine kx_getp 88 C I fl_X6_readsItem_63 h82 dX6_readsItem_88 ?_
          refine kx_iconst 91 C dX6_readsItem_91 ?_
          refine kx_iload_n 92 C dX6_readsItem_92 (lv_at hl 0 rfl) ?_
          refine kx_if_eq 93 105 C dX6_readsItem_93 (by decide) (fun c84 => ?_) (fun c84 => ?_)
          · have hf := ifp c84 hf
            refine kx_iconst 105 C dX6_readsItem_105 ?_
            obtain ⟨S86, h85, hf⟩ := ob hf
            refine kx_iast 106 C I h85 dX6_readsItem_106 (fun H locs I => ?_)
            refine kx_iload_n 107 C dX6_readsItem_107 (lv_at hl 0 rfl) ?_
            obtain ⟨h87, hf⟩ := ift hf
            exact kx_zret 108 C I h87 hf dX6_readsItem_108
          · have hf := ifn c84 hf
            refine kx_aload_n 96 C dX6_readsItem_96 (lv_at hl 1 rfl) ?_
            obtain ⟨q89, h88, hf⟩ := ob hf
            refine kx_getp 97 C I fl_X6_readsItem_66 h88 dX6_readsItem_97 ?_
            refine kx_iconst 100 C dX6_readsItem_100 ?_
            obtain ⟨x90, h91, hf⟩ := ob hf
            refine kx_iald 101 C I h91 dX6_readsItem_101 ?_
            refine kx_goto 102 106 C dX6_readsItem_102 (by decide) ?_
            obtain ⟨S93, h92, hf⟩ := ob hf
            refine kx_iast 106 C I h92 dX6_readsItem_106 (fun H locs I => ?_)
            refine kx_iload_n 107 C dX6_readsItem_107 (lv_at hl 0 rfl) ?_
            obtain ⟨h94, hf⟩ := ift hf
            exact kx_zret 108 C I h94 hf dX6_readsItem_108
      · have hf := ifn c5 hf
        refine kx_aload_n 18 C dX6_readsItem_18 (lv_at hl 0 rfl) ?_
        obtain ⟨h98, hf⟩ := ift hf
        obtain ⟨z97, S95, h96, hf⟩ := ob2 hf
        refine kx_callVv 19 C hl I (ci := 5) (As := []) (rest := []) (c_X6_goOn G l fu _ _ _ _ h96) (cwV 0 C.ts gX6_readsItem_X6_goOn rfl rfl rfl nyV_X6_goOn ⟨Nat.le_of_ble_eq_true rfl, Nat.le_of_ble_eq_true rfl⟩) rfl h98 rfl rfl (Nat.le_of_ble_eq_true rfl) dX6_readsItem_19 ⟨Nat.le_of_ble_eq_true rfl, Nat.le_of_ble_eq_true rfl⟩ (fun H locs I => ?_)
        refine kx_aload_n 22 C dX6_readsItem_22 (lv_at hl 0 rfl) ?_
        refine kx_iconst 23 C dX6_readsItem_23 ?_
        refine kx_iconst 24 C dX6_readsItem_24 ?_
        refine kx_aload_n 25 C dX6_readsItem_25 (lv_at hl 0 rfl) ?_
        obtain ⟨q100, h99, hf⟩ := ob hf
        refine kx_getp 26 C I fl_X6_readsItem_63 h99 dX6_readsItem_26 ?_
        refine kx_iconst 29 C dX6_readsItem_29 ?_
        obtain ⟨x101, h102, hf⟩ := ob hf
        refine kx_iald 30 C I h102 dX6_readsItem_30 ?_
        obtain ⟨h106, hf⟩ := ift hf
        obtain ⟨x105, S103, h104, hf⟩ := ob2 hf
        refine kx_callVi 31 C hl I (ci := 5) (As := [.int (iI 0), .int (iI 1), .int (iI x101)]) (rest := []) (c_X6_takes G l fu _ _ _ _ _ _ _ h104) (cwV 3 C.ts gX6_readsItem_X6_takes rfl rfl rfl nyV_X6_takes ⟨Nat.le_of_ble_eq_true rfl, Nat.le_of_ble_eq_true rfl⟩) rfl h106 rfl rfl (Nat.le_of_ble_eq_true rfl) dX6_readsItem_31 ⟨Nat.le_of_ble_eq_true rfl, Nat.le_of_ble_eq_true rfl⟩ (fun H locs I => ?_)
        refine kx_istore_n 34 C (lv' := [(1, .int (iI x105)), (0, .ref (xB G + p0))]) dX6_readsItem_34 hl (by decide) rfl rfl (fun ls hl => ?_)
        refine kx_aload_n 35 C dX6_readsItem_35 (lv_at hl 1 rfl) ?_
        obtain ⟨q108, h107, hf⟩ := ob hf
        refine kx_getp 36 C I fl_X6_readsItem_63 h107 dX6_readsItem_36 ?_
        refine kx_iconst 39 C dX6_readsItem_39 ?_
        refine kx_iload_n 40 C dX6_readsItem_40 (lv_at hl 0 rfl) ?_
        refine kx_if_eq 41 53 C dX6_readsItem_41 (by decide) (fun c109 => ?_) (fun c109 => ?_)
        · have hf := ifp c109 hf
          refine kx_iconst 53 C dX6_readsItem_53 ?_
          obtain ⟨S111, h110, hf⟩ := ob hf
          refine kx_iast 54 C I h110 dX6_readsItem_54 (fun H locs I => ?_)
          refine kx_iload_n 55 C dX6_readsItem_55 (lv_at hl 0 rfl) ?_
          obtain ⟨h112, hf⟩ := ift hf
          exact kx_zret 56 C I h112 hf dX6_readsItem_56
        · have hf := ifn c109 hf
          refine kx_aload_n 44 C dX6_readsItem_44 (lv_at hl 1 rfl) ?_
          obtain ⟨q114, h113, hf⟩ := ob hf
          refine kx_getp 45 C I fl_X6_readsItem_66 h113 dX6_readsItem_45 ?_
          refine kx_iconst 48 C dX6_readsItem_48 ?_
          obtain ⟨x115, h116, hf⟩ := ob hf
          refine kx_iald 49 C I h116 dX6_readsItem_49 ?_
          refine kx_goto 50 54 C dX6_readsItem_50 (by decide) ?_
          obtain ⟨S118, h117, hf⟩ := ob hf
          refine kx_iast 54 C I h117 dX6_readsItem_54 (fun H locs I => ?_)
          refine kx_iload_n 55 C dX6_readsItem_55 (lv_at hl 0 rfl) ?_
          obtain ⟨h119, hf⟩ := ift hf
          exact kx_zret 56 C I h119 hf dX6_readsItem_56
    · intro S p0 i0 H locs ls hf I hl
      replace hf : b_X6_readsItem_1 (g_X6_readsItem fu) fu S p0 i0 = some (r, S') := hf
      unfold b_X6_readsItem_1 at hf
      refine kx_iconst 157 C dX6_readsItem_157 ?_
      exact ih2 _ _ _ _ _ _ hf I (lv_sub hl [0] rfl)
    · intro S p0 i0 H locs ls hf I hl
      replace hf : b_X6_readsItem_2 (g_X6_readsItem fu) fu S p0 i0 = some (r, S') := hf
      unfold b_X6_readsItem_2 at hf
      refine kx_istore_n 158 C (lv' := [(1, .int (iI i0)), (0, .ref (xB G + p0))]) dX6_readsItem_158 hl (by decide) rfl rfl (fun ls hl => ?_)
      refine kx_iload_n 159 C dX6_readsItem_159 (lv_at hl 0 rfl) ?_
      refine kx_if_eq 160 183 C dX6_readsItem_160 (by decide) (fun c120 => ?_) (fun c120 => ?_)
      · have hf := ifp c120 hf
        refine kx_iload_n 183 C dX6_readsItem_183 (lv_at hl 0 rfl) ?_
        obtain ⟨h121, hf⟩ := ift hf
        exact kx_zret 184 C I h121 hf dX6_readsItem_184
      · have hf := ifn c120 hf
        refine kx_aload_n 163 C dX6_readsItem_163 (lv_at hl 1 rfl) ?_
        obtain ⟨q123, h122, hf⟩ := ob hf
        refine kx_getp 164 C I fl_X6_readsItem_63 h122 dX6_readsItem_164 ?_
        refine kx_bipush 167 C dX6_readsItem_167 (by decide) ?_
        refine kx_aload_n 169 C dX6_readsItem_169 (lv_at hl 1 rfl) ?_
        obtain ⟨q125, h124, hf⟩ := ob hf
        refine kx_getp 170 C I fl_X6_readsItem_66 h124 dX6_readsItem_170 ?_
        refine kx_iconst 173 C dX6_readsItem_173 ?_
        obtain ⟨x126, h127, hf⟩ := ob hf
        refine kx_iald 174 C I h127 dX6_readsItem_174 ?_
        refine kx_iadd 175 C dX6_readsItem_175 ?_
        refine kx_aload_n 176 C dX6_readsItem_176 (lv_at hl 1 rfl) ?_
        obtain ⟨q129, h128, hf⟩ := ob hf
        refine kx_getp 177 C I fl_X6_readsItem_66 h128 dX6_readsItem_177 ?_
        refine kx_iconst 180 C dX6_readsItem_180 ?_
        obtain ⟨x130, h131, hf⟩ := ob hf
        refine kx_iald 181 C I h131 dX6_readsItem_181 ?_
        obtain ⟨S133, h132, hf⟩ := ob hf
        refine kx_iast 182 C I h132 dX6_readsItem_182 (fun H locs I => ?_)
        refine kx_iload_n 183 C dX6_readsItem_183 (lv_at hl 0 rfl) ?_
        obtain ⟨h134, hf⟩ := ift hf
        exact kx_zret 184 C I h134 hf dX6_readsItem_184
    · intro S p0 i0 H locs ls hf I hl
      replace hf : b_X6_readsItem_3 (g_X6_readsItem fu) fu S p0 i0 = some (r, S') := hf
      unfold b_X6_readsItem_3 at hf
      refine kx_aload_n 291 C dX6_readsItem_291 (lv_at hl 0 rfl) ?_
      refine kx_iload_n 292 C dX6_readsItem_292 (lv_at hl 1 rfl) ?_
      obtain ⟨h138, hf⟩ := ift hf
      obtain ⟨x137, S135, h136, hf⟩ := ob2 hf
      refine kx_callVi 293 C hl I (ci := 5) (As := [.int (iI i0)]) (rest := []) (c_X6_readsReport G l fu _ _ _ _ _ h136) (cwV 1 C.ts gX6_readsItem_X6_readsReport rfl rfl rfl nyV_X6_readsReport ⟨Nat.le_of_ble_eq_true rfl, Nat.le_of_ble_eq_true rfl⟩) rfl h138 rfl rfl (Nat.le_of_ble_eq_true rfl) dX6_readsItem_293 ⟨Nat.le_of_ble_eq_true rfl, Nat.le_of_ble_eq_true rfl⟩ (fun H locs I => ?_)
      refine kx_if_eq 296 303 C dX6_readsItem_296 (by decide) (fun c139 => ?_) (fun c139 => ?_)
      · have hf := ifp c139 hf
        exact ih4 _ _ _ _ _ _ hf I (lv_sub hl [] rfl)
      · have hf := ifn c139 hf
        refine kx_iconst 299 C dX6_readsItem_299 ?_
        refine kx_goto 300 304 C dX6_readsItem_300 (by decide) ?_
        exact kx_zret 304 C I (by decide) hf dX6_readsItem_304
    · intro S p0 i0 H locs ls hf I hl
      replace hf : b_X6_readsItem_4 (g_X6_readsItem fu) fu S p0 i0 = some (r, S') := hf
      unfold b_X6_readsItem_4 at hf
      refine kx_iconst 303 C dX6_readsItem_303 ?_
      exact kx_zret 304 C I (by decide) hf dX6_readsItem_304
set_option maxHeartbeats 4000000 in
set_option maxRecDepth 100000 in
theorem c_X6_readsItem (G : xG) (l : Launch) (fu : Nat) (S S' : xS) (p0 : Nat) (r : Int) (hf : f_X6_readsItem fu S p0 = some (r, S')) : Met l yX6_readsItem vsX6_readsItem rm_X6_readsItem (va_Pc [.ref (xB G + p0)] (xPre G S)) (xQi G r S') 0 0 (xA G) := by
  refine kx_met (ret := (some .boolean)) RX6 [(0, .ref (xB G + p0))] (by decide) rfl rfl (Nat.le_of_ble_eq_true rfl) rfl (fun p e s m below meth c ls C hin I hl => ?_)
  exact (w_X6_readsItem C r S' fu).1 S _ _ _ _ _ hf I hl
def rm_X6_read : Room := { frames := 7, cells := 0, slots := 0, locals := 155 }
theorem hin_X6_read_RX6 : ∀ w ∈ wsX60, w ∈ vsX6_read := fun w h => inM (inlX6 w h)
theorem fl_X6_read_7 : xFl vsX6_read RX6 7 5 0 := ⟨RX6, TX6, 30, rfl, by decide, hin_X6_read_RX6, inM mq_4_16, rfl⟩
theorem fl_X6_read_63 : xFl vsX6_read RX6 63 5 28 := ⟨RX6, TX6, 30, rfl, by decide, hin_X6_read_RX6, inM mq_5_10, rfl⟩
theorem fl_X6_read_282 : xFl vsX6_read RX6 282 5 24 := ⟨RX6, TX6, 30, rfl, by decide, hin_X6_read_RX6, inM mq_21_6, rfl⟩
theorem fl_X6_read_288 : xFl vsX6_read RX6 288 5 26 := ⟨RX6, TX6, 30, rfl, by decide, hin_X6_read_RX6, inM mq_21_7, rfl⟩
theorem nyS_X6_read : yX6_read.cls ≠ "java/lang/invoke/MethodHandle" ∧ yX6_read.cls ≠ "java/lang/invoke/VarHandle" ∧ (parseMethodDescriptor yX6_read.desc).map (fun d => d.parameters.length) = some 0 := by decide +kernel
theorem nyV_X6_read : yX6_read.cls = RX6 ∧ yX6_read.cls ≠ "java/lang/invoke/MethodHandle" ∧ yX6_read.cls ≠ "java/lang/invoke/VarHandle" ∧ (parseMethodDescriptor yX6_read.desc).map (fun d => d.parameters.length) = some 0 := by decide +kernel
set_option maxHeartbeats 4000000 in
set_option maxRecDepth 100000 in
theorem w_X6_read {G : xG} {p : Program} {l : Launch} {e : Env} {s : State} {m : MethodId} {args : Array Value} {below : List Frame} {meth : Method} {c : Code} (C : xK G p s m args meth c cX6_read 3 vsX6_read RX6 (some .int)) (r : Int) (S' : xS) : ∀ k : Nat,
  (∀ (S : xS) (p0 : Nat) (i0 i1 : Int) (H : Heap) (locs : List Loc) (ls : Array Slot), g_X6_read k 0 S p0 i0 i1 = some (r, S') → xI G S s H locs → lv_has ls 3 [(0, .ref (xB G + p0))] → W p l e rm_X6_read s m args below meth c H locs 0 0 (MQ below (xQi G r S') args s 0 0 (xA G)) (F0 m 0 ls [])) ∧
  (∀ (S : xS) (p0 : Nat) (i0 i1 : Int) (H : Heap) (locs : List Loc) (ls : Array Slot), g_X6_read k 1 S p0 i0 i1 = some (r, S') → xI G S s H locs → lv_has ls 3 [(0, .ref (xB G + p0)), (1, .int (iI i0))] → W p l e rm_X6_read s m args below meth c H locs 0 0 (MQ below (xQi G r S') args s 0 0 (xA G)) (F0 m 26 ls [])) ∧
  (∀ (S : xS) (p0 : Nat) (i0 i1 : Int) (H : Heap) (locs : List Loc) (ls : Array Slot), g_X6_read k 2 S p0 i0 i1 = some (r, S') → xI G S s H locs → lv_has ls 3 [(0, .ref (xB G + p0)), (1, .int (iI i0)), (2, .int (iI i1))] → W p l e rm_X6_read s m args below meth c H locs 0 0 (MQ below (xQi G r S') args s 0 0 (xA G)) (F0 m 68 ls [])) := by
  intro k
  induction k with
  | zero => exact ⟨fun _ _ _ _ _ _ _ hf => (by cases hf), fun _ _ _ _ _ _ _ hf => (by cases hf), fun _ _ _ _ _ _ _ hf => (by cases hf)⟩
  | succ fu ih =>
    obtain ⟨ih0, ih1, ih2⟩ := ih
    refine ⟨?_, ?_, ?_⟩
    · intro S p0 i0 i1 H locs ls hf I hl
      replace hf : b_X6_read_0 (g_X6_read fu) fu S p0 i0 i1 = some (r, S') := hf
      unfold b_X6_read_0 at hf
      refine kx_aload_n 0 C dX6_read_0 (lv_at hl 0 rfl) ?_
      refine kx_iconst 1 C dX6_read_1 ?_
      obtain ⟨h4, hf⟩ := ift hf
      obtain ⟨z3, S1, h2, hf⟩ := ob2 hf
      refine kx_callVv 2 C hl I (ci := 5) (As := [.int (iI 0)]) (rest := []) (c_X6_lookAt G l fu _ _ _ _ _ h2) (cwV 1 C.ts gX6_read_X6_lookAt rfl rfl rfl nyV_X6_lookAt ⟨Nat.le_of_ble_eq_true rfl, Nat.le_of_ble_eq_true rfl⟩) rfl h4 rfl rfl (Nat.le_of_ble_eq_true rfl) dX6_read_2 ⟨Nat.le_of_ble_eq_true rfl, Nat.le_of_ble_eq_true rfl⟩ (fun H locs I => ?_)
      refine kx_aload_n 5 C dX6_read_5 (lv_at hl 0 rfl) ?_
      obtain ⟨h8, hf⟩ := ift hf
      obtain ⟨x7, S5, h6, hf⟩ := ob2 hf
      refine kx_callVi 6 C hl I (ci := 5) (As := []) (rest := []) (c_X6_readsFirst G l fu _ _ _ _ h6) (cwV 0 C.ts gX6_read_X6_readsFirst rfl rfl rfl nyV_X6_readsFirst ⟨Nat.le_of_ble_eq_true rfl, Nat.le_of_ble_eq_true rfl⟩) rfl h8 rfl rfl (Nat.le_of_ble_eq_true rfl) dX6_read_6 ⟨Nat.le_of_ble_eq_true rfl, Nat.le_of_ble_eq_true rfl⟩ (fun H locs I => ?_)
      refine kx_if_ne 9 20 C dX6_read_9 (by decide) (fun c9 => ?_) (fun c9 => ?_)
      · have hf := ifn c9 hf
        refine kx_aload_n 20 C dX6_read_20 (lv_at hl 0 rfl) ?_
        obtain ⟨h13, hf⟩ := ift hf
        obtain ⟨z12, S10, h11, hf⟩ := ob2 hf
        refine kx_callVv 21 C hl I (ci := 5) (As := []) (rest := []) (c_X6_goOn G l fu _ _ _ _ h11) (cwV 0 C.ts gX6_read_X6_goOn rfl rfl rfl nyV_X6_goOn ⟨Nat.le_of_ble_eq_true rfl, Nat.le_of_ble_eq_true rfl⟩) rfl h13 rfl rfl (Nat.le_of_ble_eq_true rfl) dX6_read_21 ⟨Nat.le_of_ble_eq_true rfl, Nat.le_of_ble_eq_true rfl⟩ (fun H locs I => ?_)
        refine kx_iconst 24 C dX6_read_24 ?_
        refine kx_istore_n 25 C (lv' := [(1, .int (iI 1)), (0, .ref (xB G + p0))]) dX6_read_25 hl (by decide) rfl rfl (fun ls hl => ?_)
        exact ih1 _ _ _ _ _ _ _ hf I (lv_sub hl [1, 0] rfl)
      · have hf := ifp c9 hf
        refine kx_bipush 12 C dX6_read_12 (by decide) ?_
        refine kx_aload_n 14 C dX6_read_14 (lv_at hl 0 rfl) ?_
        obtain ⟨x15, h14, hf⟩ := ob hf
        refine kx_geti 15 C I fl_X6_read_282 h14 dX6_read_15 ?_
        refine kx_isub 18 C dX6_read_18 ?_
        exact kx_iret 19 C I hf dX6_read_19
    · intro S p0 i0 i1 H locs ls hf I hl
      replace hf : b_X6_read_1 (g_X6_read fu) fu S p0 i0 i1 = some (r, S') := hf
      unfold b_X6_read_1 at hf
      refine kx_aload_n 26 C dX6_read_26 (lv_at hl 0 rfl) ?_
      obtain ⟨x17, h16, hf⟩ := ob hf
      refine kx_geti 27 C I fl_X6_read_288 h16 dX6_read_27 ?_
      refine kx_if_eq 30 66 C dX6_read_30 (by decide) (fun c18 => ?_) (fun c18 => ?_)
      · have hf := ifp c18 hf
        refine kx_iconst 66 C dX6_read_66 ?_
        refine kx_istore_n 67 C (lv' := [(2, .int (iI 0)), (0, .ref (xB G + p0)), (1, .int (iI i0))]) dX6_read_67 hl (by decide) rfl rfl (fun ls hl => ?_)
        exact ih2 _ _ _ _ _ _ _ hf I (lv_sub hl [1, 2, 0] rfl)
      · have hf := ifn c18 hf
        refine kx_aload_n 33 C dX6_read_33 (lv_at hl 0 rfl) ?_
        obtain ⟨h22, hf⟩ := ift hf
        obtain ⟨x21, S19, h20, hf⟩ := ob2 hf
        refine kx_callVi 34 C hl I (ci := 5) (As := []) (rest := []) (c_X6_readsItem G l fu _ _ _ _ h20) (cwV 0 C.ts gX6_read_X6_readsItem rfl rfl rfl nyV_X6_readsItem ⟨Nat.le_of_ble_eq_true rfl, Nat.le_of_ble_eq_true rfl⟩) rfl h22 rfl rfl (Nat.le_of_ble_eq_true rfl) dX6_read_34 ⟨Nat.le_of_ble_eq_true rfl, Nat.le_of_ble_eq_true rfl⟩ (fun H locs I => ?_)
        refine kx_if_eq 37 48 C dX6_read_37 (by decide) (fun c23 => ?_) (fun c23 => ?_)
        · have hf := ifp c23 hf
          refine kx_bipush 48 C dX6_read_48 (by decide) ?_
          refine kx_aload_n 50 C dX6_read_50 (lv_at hl 0 rfl) ?_
          obtain ⟨x25, h24, hf⟩ := ob hf
          refine kx_geti 51 C I fl_X6_read_282 h24 dX6_read_51 ?_
          refine kx_isub 54 C dX6_read_54 ?_
          exact kx_iret 55 C I hf dX6_read_55
        · have hf := ifn c23 hf
          refine kx_aload_n 40 C dX6_read_40 (lv_at hl 0 rfl) ?_
          obtain ⟨x27, h26, hf⟩ := ob hf
          refine kx_geti 41 C I fl_X6_read_288 h26 dX6_read_41 ?_
          refine kx_iconst 44 C dX6_read_44 ?_
          refine kx_icmp_eq 45 56 C dX6_read_45 (by decide) (fun c28 => ?_) (fun c28 => ?_)
          · have hf := ifp c28 hf
            refine kx_aload_n 56 C dX6_read_56 (lv_at hl 0 rfl) ?_
            obtain ⟨h32, hf⟩ := ift hf
            obtain ⟨z31, S29, h30, hf⟩ := ob2 hf
            refine kx_callVv 57 C hl I (ci := 5) (As := []) (rest := []) (c_X6_goOn G l fu _ _ _ _ h30) (cwV 0 C.ts gX6_read_X6_goOn rfl rfl rfl nyV_X6_goOn ⟨Nat.le_of_ble_eq_true rfl, Nat.le_of_ble_eq_true rfl⟩) rfl h32 rfl rfl (Nat.le_of_ble_eq_true rfl) dX6_read_57 ⟨Nat.le_of_ble_eq_true rfl, Nat.le_of_ble_eq_true rfl⟩ (fun H locs I => ?_)
            obtain ⟨x33, e34, hf⟩ := nmx_e hf
            refine kx_iinc 60 C (lv' := [(1, .int (iI x33)), (0, .ref (xB G + p0))]) dX6_read_60 hl 1 rfl e34 (by decide) rfl (fun ls hl => ?_)
            refine kx_goto 63 26 C dX6_read_63 (by decide) ?_
            exact ih1 _ _ _ _ _ _ _ hf I (lv_sub hl [1, 0] rfl)
          · have hf := ifn c28 hf
            refine kx_bipush 48 C dX6_read_48 (by decide) ?_
            refine kx_aload_n 50 C dX6_read_50 (lv_at hl 0 rfl) ?_
            obtain ⟨x36, h35, hf⟩ := ob hf
            refine kx_geti 51 C I fl_X6_read_282 h35 dX6_read_51 ?_
            refine kx_isub 54 C dX6_read_54 ?_
            exact kx_iret 55 C I hf dX6_read_55
    · intro S p0 i0 i1 H locs ls hf I hl
      replace hf : b_X6_read_2 (g_X6_read fu) fu S p0 i0 i1 = some (r, S') := hf
      unfold b_X6_read_2 at hf
      refine kx_iload_n 68 C dX6_read_68 (lv_at hl 2 rfl) ?_
      refine kx_bipush 69 C dX6_read_69 (by decide) ?_
      refine kx_icmp_ge 71 92 C dX6_read_71 (by decide) (fun c37 => ?_) (fun c37 => ?_)
      · have hf := ifp c37 hf
        refine kx_iload_n 92 C dX6_read_92 (lv_at hl 1 rfl) ?_
        exact kx_iret 93 C I hf dX6_read_93
      · have hf := ifn c37 hf
        refine kx_aload_n 74 C dX6_read_74 (lv_at hl 0 rfl) ?_
        obtain ⟨q39, h38, hf⟩ := ob hf
        refine kx_getp 75 C I fl_X6_read_7 h38 dX6_read_75 ?_
        refine kx_iload_n 78 C dX6_read_78 (lv_at hl 2 rfl) ?_
        refine kx_aload_n 79 C dX6_read_79 (lv_at hl 0 rfl) ?_
        obtain ⟨q41, h40, hf⟩ := ob hf
        refine kx_getp 80 C I fl_X6_read_63 h40 dX6_read_80 ?_
        refine kx_iload_n 83 C dX6_read_83 (lv_at hl 2 rfl) ?_
        obtain ⟨x42, h43, hf⟩ := ob hf
        refine kx_iald 84 C I h43 dX6_read_84 ?_
        obtain ⟨S45, h44, hf⟩ := ob hf
        refine kx_iast 85 C I h44 dX6_read_85 (fun H locs I => ?_)
        obtain ⟨x46, e47, hf⟩ := nmx_e hf
        refine kx_iinc 86 C (lv' := [(2, .int (iI x46)), (0, .ref (xB G + p0)), (1, .int (iI i0))]) dX6_read_86 hl 2 rfl e47 (by decide) rfl (fun ls hl => ?_)
        refine kx_goto 89 68 C dX6_read_89 (by decide) ?_
        exact ih2 _ _ _ _ _ _ _ hf I (lv_sub hl [1, 2, 0] rfl)
set_option maxHeartbeats 4000000 in
set_option maxRecDepth 100000 in
theorem c_X6_read (G : xG) (l : Launch) (fu : Nat) (S S' : xS) (p0 : Nat) (r : Int) (hf : f_X6_read fu S p0 = some (r, S')) : Met l yX6_read vsX6_read rm_X6_read (va_Pc [.ref (xB G + p0)] (xPre G S)) (xQi G r S') 0 0 (xA G) := by
  refine kx_met (ret := (some .int)) RX6 [(0, .ref (xB G + p0))] (by decide) rfl rfl (Nat.le_of_ble_eq_true rfl) rfl (fun p e s m below meth c ls C hin I hl => ?_)
  exact (w_X6_read C r S' fu).1 S _ _ _ _ _ _ hf I hl
def rm_X6_part : Room := { frames := 1, cells := 0, slots := 0, locals := 21 }
theorem hin_X6_part_RX6 : ∀ w ∈ wsX60, w ∈ vsX6_part := fun w h => inM (inlX6 w h)
theorem fl_X6_part_23 : xFl vsX6_part RX6 23 5 5 := ⟨RX6, TX6, 30, rfl, by decide, hin_X6_part_RX6, inM mq_4_21, rfl⟩
theorem fl_X6_part_226 : xFl vsX6_part RX6 226 5 4 := ⟨RX6, TX6, 30, rfl, by decide, hin_X6_part_RX6, inM mq_40_0, rfl⟩
theorem nyS_X6_part : yX6_part.cls ≠ "java/lang/invoke/MethodHandle" ∧ yX6_part.cls ≠ "java/lang/invoke/VarHandle" ∧ (parseMethodDescriptor yX6_part.desc).map (fun d => d.parameters.length) = some 1 := by decide +kernel
theorem nyV_X6_part : yX6_part.cls = RX6 ∧ yX6_part.cls ≠ "java/lang/invoke/MethodHandle" ∧ yX6_part.cls ≠ "java/lang/invoke/VarHandle" ∧ (parseMethodDescriptor yX6_part.desc).map (fun d => d.parameters.length) = some 1 := by decide +kernel
set_option maxHeartbeats 4000000 in
set_option maxRecDepth 100000 in
theorem c_X6_part (G : xG) (l : Launch) (fu : Nat) (S S' : xS) (p0 : Nat) (i0 : Int) (r : Int) (hf : f_X6_part fu S p0 i0 = some (r, S')) : Met l yX6_part vsX6_part rm_X6_part (va_Pc [.ref (xB G + p0), .int (iI i0)] (xPre G S)) (xQl G r S') 0 0 (xA G) := by
  refine kx_met (ret := (some .long)) RX6 [(0, .ref (xB G + p0)), (1, .int (iI i0))] (by decide) rfl rfl (Nat.le_of_ble_eq_true rfl) rfl (fun p e s m below meth c ls C hin I hl => ?_)
  unfold f_X6_part at hf
  refine kx_iload_n 0 C dX6_part_0 (lv_at hl 1 rfl) ?_
  refine kx_if_ne 1 11 C dX6_part_1 (by decide) (fun c1 => ?_) (fun c1 => ?_)
  · have hf := ifn c1 hf
    refine kx_iload_n 11 C dX6_part_11 (lv_at hl 1 rfl) ?_
    refine kx_iconst 12 C dX6_part_12 ?_
    refine kx_icmp_ne 13 23 C dX6_part_13 (by decide) (fun c2 => ?_) (fun c2 => ?_)
    · have hf := ifn c2 hf
      refine kx_aload_n 23 C dX6_part_23 (lv_at hl 0 rfl) ?_
      refine kx_bipush 24 C dX6_part_24 (by decide) ?_
      obtain ⟨h6, hf⟩ := ift hf
      obtain ⟨x5, S3, h4, hf⟩ := ob2 hf
      refine kx_callVi 26 C hl I (ci := 5) (As := [.int (iI ((-2)))]) (rest := []) (c_X6_bad G l fu _ _ _ _ _ h4) (cwV 1 C.ts gX6_part_X6_bad rfl rfl rfl nyV_X6_bad ⟨Nat.le_of_ble_eq_true rfl, Nat.le_of_ble_eq_true rfl⟩) rfl h6 rfl rfl (Nat.le_of_ble_eq_true rfl) dX6_part_26 ⟨Nat.le_of_ble_eq_true rfl, Nat.le_of_ble_eq_true rfl⟩ (fun H locs I => ?_)
      refine kx_i2l 29 C dX6_part_29 ?_
      exact kx_lret 30 C I hf dX6_part_30
    · have hf := ifp c2 hf
      refine kx_aload_n 16 C dX6_part_16 (lv_at hl 0 rfl) ?_
      obtain ⟨x8, h7, hf⟩ := ob hf
      refine kx_getl 17 C I fl_X6_part_23 h7 dX6_part_17 ?_
      refine kx_goto 20 30 C dX6_part_20 (by decide) ?_
      exact kx_lret 30 C I hf dX6_part_30
  · have hf := ifp c1 hf
    refine kx_aload_n 4 C dX6_part_4 (lv_at hl 0 rfl) ?_
    obtain ⟨x10, h9, hf⟩ := ob hf
    refine kx_getl 5 C I fl_X6_part_226 h9 dX6_part_5 ?_
    refine kx_goto 8 30 C dX6_part_8 (by decide) ?_
    exact kx_lret 30 C I hf dX6_part_30
def rm_X6_image : Room := { frames := 1, cells := 0, slots := 0, locals := 25 }
theorem hin_X6_image_RX6 : ∀ w ∈ wsX60, w ∈ vsX6_image := fun w h => inM (inlX6 w h)
theorem fl_X6_image_7 : xFl vsX6_image RX6 7 5 0 := ⟨RX6, TX6, 30, rfl, by decide, hin_X6_image_RX6, inM mq_4_16, rfl⟩
theorem fl_X6_image_13 : xFl vsX6_image RX6 13 5 1 := ⟨RX6, TX6, 30, rfl, by decide, hin_X6_image_RX6, inM mq_4_17, rfl⟩
theorem fl_X6_image_16 : xFl vsX6_image RX6 16 5 2 := ⟨RX6, TX6, 30, rfl, by decide, hin_X6_image_RX6, inM mq_4_19, rfl⟩
theorem nyS_X6_image : yX6_image.cls ≠ "java/lang/invoke/MethodHandle" ∧ yX6_image.cls ≠ "java/lang/invoke/VarHandle" ∧ (parseMethodDescriptor yX6_image.desc).map (fun d => d.parameters.length) = some 1 := by decide +kernel
theorem nyV_X6_image : yX6_image.cls = RX6 ∧ yX6_image.cls ≠ "java/lang/invoke/MethodHandle" ∧ yX6_image.cls ≠ "java/lang/invoke/VarHandle" ∧ (parseMethodDescriptor yX6_image.desc).map (fun d => d.parameters.length) = some 1 := by decide +kernel
set_option maxHeartbeats 4000000 in
set_option maxRecDepth 100000 in
theorem w_X6_image {G : xG} {p : Program} {l : Launch} {e : Env} {s : State} {m : MethodId} {args : Array Value} {below : List Frame} {meth : Method} {c : Code} (C : xK G p s m args meth c cX6_image 3 vsX6_image RX6 (some .int)) (r : Int) (S' : xS) : ∀ k : Nat,
  (∀ (S : xS) (p0 : Nat) (i0 i1 : Int) (H : Heap) (locs : List Loc) (ls : Array Slot), g_X6_image k 0 S p0 i0 i1 = some (r, S') → xI G S s H locs → lv_has ls 3 [(0, .ref (xB G + p0)), (1, .int (iI i0))] → W p l e rm_X6_image s m args below meth c H locs 0 0 (MQ below (xQi G r S') args s 0 0 (xA G)) (F0 m 0 ls [])) ∧
  (∀ (S : xS) (p0 : Nat) (i0 i1 : Int) (H : Heap) (locs : List Loc) (ls : Array Slot), g_X6_image k 1 S p0 i0 i1 = some (r, S') → xI G S s H locs → lv_has ls 3 [(0, .ref (xB G + p0)), (1, .int (iI i0)), (2, .int (iI i1))] → W p l e rm_X6_image s m args below meth c H locs 0 0 (MQ below (xQi G r S') args s 0 0 (xA G)) (F0 m 19 ls [])) := by
  intro k
  induction k with
  | zero => exact ⟨fun _ _ _ _ _ _ _ hf => (by cases hf), fun _ _ _ _ _ _ _ hf => (by cases hf)⟩
  | succ fu ih =>
    obtain ⟨ih0, ih1⟩ := ih
    refine ⟨?_, ?_⟩
    · intro S p0 i0 i1 H locs ls hf I hl
      replace hf : b_X6_image_0 (g_X6_image fu) fu S p0 i0 i1 = some (r, S') := hf
      unfold b_X6_image_0 at hf
      refine kx_iload_n 0 C dX6_image_0 (lv_at hl 1 rfl) ?_
      refine kx_i2l 1 C dX6_image_1 ?_
      refine kx_lconst 2 C (z := 0) dX6_image_2 rfl ?_
      refine kx_lconst 3 C (z := 1) dX6_image_3 rfl ?_
      obtain ⟨x3, S1, h2, hf⟩ := ob2 hf
      refine kx_callSi 4 C hl I (As := [.long (lI (wI i0)), .long (lI 0), .long (lI 1)]) (rest := []) (c_X6_in G l fu _ _ _ _ _ _ h2) (va_cwS 3 C.ts gX6_image_X6_in rfl rfl rfl nyS_X6_in ⟨Nat.le_of_ble_eq_true rfl, Nat.le_of_ble_eq_true rfl⟩) rfl rfl (Nat.le_of_ble_eq_true rfl) dX6_image_4 ⟨Nat.le_of_ble_eq_true rfl, Nat.le_of_ble_eq_true rfl⟩ (fun H locs I => ?_)
      refine kx_if_ne 7 17 C dX6_image_7 (by decide) (fun c4 => ?_) (fun c4 => ?_)
      · have hf := ifn c4 hf
        refine kx_iconst 17 C dX6_image_17 ?_
        refine kx_istore_n 18 C (lv' := [(2, .int (iI 0)), (0, .ref (xB G + p0)), (1, .int (iI i0))]) dX6_image_18 hl (by decide) rfl rfl (fun ls hl => ?_)
        exact ih1 _ _ _ _ _ _ _ hf I (lv_sub hl [1, 2, 0] rfl)
      · have hf := ifp c4 hf
        refine kx_aload_n 10 C dX6_image_10 (lv_at hl 0 rfl) ?_
        refine kx_bipush 11 C dX6_image_11 (by decide) ?_
        obtain ⟨h8, hf⟩ := ift hf
        obtain ⟨x7, S5, h6, hf⟩ := ob2 hf
        refine kx_callVi 13 C hl I (ci := 5) (As := [.int (iI ((-2)))]) (rest := []) (c_X6_bad G l fu _ _ _ _ _ h6) (cwV 1 C.ts gX6_image_X6_bad rfl rfl rfl nyV_X6_bad ⟨Nat.le_of_ble_eq_true rfl, Nat.le_of_ble_eq_true rfl⟩) rfl h8 rfl rfl (Nat.le_of_ble_eq_true rfl) dX6_image_13 ⟨Nat.le_of_ble_eq_true rfl, Nat.le_of_ble_eq_true rfl⟩ (fun H locs I => ?_)
        exact kx_iret 16 C I hf dX6_image_16
    · intro S p0 i0 i1 H locs ls hf I hl
      replace hf : b_X6_image_1 (g_X6_image fu) fu S p0 i0 i1 = some (r, S') := hf
      unfold b_X6_image_1 at hf
      refine kx_iload_n 19 C dX6_image_19 (lv_at hl 2 rfl) ?_
      refine kx_bipush 20 C dX6_image_20 (by decide) ?_
      refine kx_icmp_ge 22 48 C dX6_image_22 (by decide) (fun c9 => ?_) (fun c9 => ?_)
      · have hf := ifp c9 hf
        refine kx_aload_n 48 C dX6_image_48 (lv_at hl 0 rfl) ?_
        obtain ⟨q11, h10, hf⟩ := ob hf
        refine kx_getp 49 C I fl_X6_image_16 h10 dX6_image_49 ?_
        refine kx_iload_n 52 C dX6_image_52 (lv_at hl 1 rfl) ?_
        refine kx_iconst 53 C dX6_image_53 ?_
        obtain ⟨S13, h12, hf⟩ := ob hf
        refine kx_zast 54 C I (by decide) h12 dX6_image_54 (fun H locs I => ?_)
        refine kx_iconst 55 C dX6_image_55 ?_
        exact kx_iret 56 C I hf dX6_image_56
      · have hf := ifn c9 hf
        refine kx_aload_n 25 C dX6_image_25 (lv_at hl 0 rfl) ?_
        obtain ⟨q15, h14, hf⟩ := ob hf
        refine kx_getp 26 C I fl_X6_image_13 h14 dX6_image_26 ?_
        refine kx_bipush 29 C dX6_image_29 (by decide) ?_
        refine kx_iload_n 31 C dX6_image_31 (lv_at hl 1 rfl) ?_
        refine kx_imul 32 C dX6_image_32 ?_
        refine kx_iload_n 33 C dX6_image_33 (lv_at hl 2 rfl) ?_
        refine kx_iadd 34 C dX6_image_34 ?_
        refine kx_aload_n 35 C dX6_image_35 (lv_at hl 0 rfl) ?_
        obtain ⟨q17, h16, hf⟩ := ob hf
        refine kx_getp 36 C I fl_X6_image_7 h16 dX6_image_36 ?_
        refine kx_iload_n 39 C dX6_image_39 (lv_at hl 2 rfl) ?_
        obtain ⟨x18, h19, hf⟩ := ob hf
        refine kx_iald 40 C I h19 dX6_image_40 ?_
        obtain ⟨S21, h20, hf⟩ := ob hf
        refine kx_iast 41 C I h20 dX6_image_41 (fun H locs I => ?_)
        obtain ⟨x22, e23, hf⟩ := nmx_e hf
        refine kx_iinc 42 C (lv' := [(2, .int (iI x22)), (0, .ref (xB G + p0)), (1, .int (iI i0))]) dX6_image_42 hl 2 rfl e23 (by decide) rfl (fun ls hl => ?_)
        refine kx_goto 45 19 C dX6_image_45 (by decide) ?_
        exact ih1 _ _ _ _ _ _ _ hf I (lv_sub hl [1, 2, 0] rfl)
set_option maxHeartbeats 4000000 in
set_option maxRecDepth 100000 in
theorem c_X6_image (G : xG) (l : Launch) (fu : Nat) (S S' : xS) (p0 : Nat) (i0 : Int) (r : Int) (hf : f_X6_image fu S p0 i0 = some (r, S')) : Met l yX6_image vsX6_image rm_X6_image (va_Pc [.ref (xB G + p0), .int (iI i0)] (xPre G S)) (xQi G r S') 0 0 (xA G) := by
  refine kx_met (ret := (some .int)) RX6 [(0, .ref (xB G + p0)), (1, .int (iI i0))] (by decide) rfl rfl (Nat.le_of_ble_eq_true rfl) rfl (fun p e s m below meth c ls C hin I hl => ?_)
  exact (w_X6_image C r S' fu).1 S _ _ _ _ _ _ hf I hl
def rm_X6_from : Room := { frames := 1, cells := 0, slots := 0, locals := 25 }
theorem hin_X6_from_RX6 : ∀ w ∈ wsX60, w ∈ vsX6_from := fun w h => inM (inlX6 w h)
theorem fl_X6_from_7 : xFl vsX6_from RX6 7 5 0 := ⟨RX6, TX6, 30, rfl, by decide, hin_X6_from_RX6, inM mq_4_16, rfl⟩
theorem fl_X6_from_13 : xFl vsX6_from RX6 13 5 1 := ⟨RX6, TX6, 30, rfl, by decide, hin_X6_from_RX6, inM mq_4_17, rfl⟩
theorem fl_X6_from_16 : xFl vsX6_from RX6 16 5 2 := ⟨RX6, TX6, 30, rfl, by decide, hin_X6_from_RX6, inM mq_4_19, rfl⟩
theorem nyS_X6_from : yX6_from.cls ≠ "java/lang/invoke/MethodHandle" ∧ yX6_from.cls ≠ "java/lang/invoke/VarHandle" ∧ (parseMethodDescriptor yX6_from.desc).map (fun d => d.parameters.length) = some 1 := by decide +kernel
theorem nyV_X6_from : yX6_from.cls = RX6 ∧ yX6_from.cls ≠ "java/lang/invoke/MethodHandle" ∧ yX6_from.cls ≠ "java/lang/invoke/VarHandle" ∧ (parseMethodDescriptor yX6_from.desc).map (fun d => d.parameters.length) = some 1 := by decide +kernel
set_option maxHeartbeats 4000000 in
set_option maxRecDepth 100000 in
theorem w_X6_from {G : xG} {p : Program} {l : Launch} {e : Env} {s : State} {m : MethodId} {args : Array Value} {below : List Frame} {meth : Method} {c : Code} (C : xK G p s m args meth c cX6_from 3 vsX6_from RX6 (some .int)) (r : Int) (S' : xS) : ∀ k : Nat,
  (∀ (S : xS) (p0 : Nat) (i0 i1 : Int) (H : Heap) (locs : List Loc) (ls : Array Slot), g_X6_from k 0 S p0 i0 i1 = some (r, S') → xI G S s H locs → lv_has ls 3 [(0, .ref (xB G + p0)), (1, .int (iI i0))] → W p l e rm_X6_from s m args below meth c H locs 0 0 (MQ below (xQi G r S') args s 0 0 (xA G)) (F0 m 0 ls [])) ∧
  (∀ (S : xS) (p0 : Nat) (i0 i1 : Int) (H : Heap) (locs : List Loc) (ls : Array Slot), g_X6_from k 1 S p0 i0 i1 = some (r, S') → xI G S s H locs → lv_has ls 3 [(0, .ref (xB G + p0)), (1, .int (iI i0)), (2, .int (iI i1))] → W p l e rm_X6_from s m args below meth c H locs 0 0 (MQ below (xQi G r S') args s 0 0 (xA G)) (F0 m 33 ls [])) := by
  intro k
  induction k with
  | zero => exact ⟨fun _ _ _ _ _ _ _ hf => (by cases hf), fun _ _ _ _ _ _ _ hf => (by cases hf)⟩
  | succ fu ih =>
    obtain ⟨ih0, ih1⟩ := ih
    refine ⟨?_, ?_⟩
    · intro S p0 i0 i1 H locs ls hf I hl
      replace hf : b_X6_from_0 (g_X6_from fu) fu S p0 i0 i1 = some (r, S') := hf
      unfold b_X6_from_0 at hf
      refine kx_iload_n 0 C dX6_from_0 (lv_at hl 1 rfl) ?_
      refine kx_i2l 1 C dX6_from_1 ?_
      refine kx_lconst 2 C (z := 0) dX6_from_2 rfl ?_
      refine kx_lconst 3 C (z := 1) dX6_from_3 rfl ?_
      obtain ⟨x3, S1, h2, hf⟩ := ob2 hf
      refine kx_callSi 4 C hl I (As := [.long (lI (wI i0)), .long (lI 0), .long (lI 1)]) (rest := []) (c_X6_in G l fu _ _ _ _ _ _ h2) (va_cwS 3 C.ts gX6_from_X6_in rfl rfl rfl nyS_X6_in ⟨Nat.le_of_ble_eq_true rfl, Nat.le_of_ble_eq_true rfl⟩) rfl rfl (Nat.le_of_ble_eq_true rfl) dX6_from_4 ⟨Nat.le_of_ble_eq_true rfl, Nat.le_of_ble_eq_true rfl⟩ (fun H locs I => ?_)
      refine kx_if_ne 7 17 C dX6_from_7 (by decide) (fun c4 => ?_) (fun c4 => ?_)
      · have hf := ifn c4 hf
        refine kx_aload_n 17 C dX6_from_17 (lv_at hl 0 rfl) ?_
        obtain ⟨q6, h5, hf⟩ := ob hf
        refine kx_getp 18 C I fl_X6_from_16 h5 dX6_from_18 ?_
        refine kx_iload_n 21 C dX6_from_21 (lv_at hl 1 rfl) ?_
        obtain ⟨x7, h8, hf⟩ := ob hf
        refine kx_zald 22 C I h8 dX6_from_22 ?_
        refine kx_if_ne 23 31 C dX6_from_23 (by decide) (fun c9 => ?_) (fun c9 => ?_)
        · have hf := ifn c9 hf
          refine kx_iconst 31 C dX6_from_31 ?_
          refine kx_istore_n 32 C (lv' := [(2, .int (iI 0)), (0, .ref (xB G + p0)), (1, .int (iI i0))]) dX6_from_32 hl (by decide) rfl rfl (fun ls hl => ?_)
          exact ih1 _ _ _ _ _ _ _ hf I (lv_sub hl [1, 2, 0] rfl)
        · have hf := ifp c9 hf
          refine kx_aload_n 26 C dX6_from_26 (lv_at hl 0 rfl) ?_
          obtain ⟨h13, hf⟩ := ift hf
          obtain ⟨x12, S10, h11, hf⟩ := ob2 hf
          refine kx_callVi 27 C hl I (ci := 5) (As := []) (rest := []) (c_X6_no G l fu _ _ _ _ h11) (cwV 0 C.ts gX6_from_X6_no rfl rfl rfl nyV_X6_no ⟨Nat.le_of_ble_eq_true rfl, Nat.le_of_ble_eq_true rfl⟩) rfl h13 rfl rfl (Nat.le_of_ble_eq_true rfl) dX6_from_27 ⟨Nat.le_of_ble_eq_true rfl, Nat.le_of_ble_eq_true rfl⟩ (fun H locs I => ?_)
          exact kx_iret 30 C I hf dX6_from_30
      · have hf := ifp c4 hf
        refine kx_aload_n 10 C dX6_from_10 (lv_at hl 0 rfl) ?_
        refine kx_bipush 11 C dX6_from_11 (by decide) ?_
        obtain ⟨h17, hf⟩ := ift hf
        obtain ⟨x16, S14, h15, hf⟩ := ob2 hf
        refine kx_callVi 13 C hl I (ci := 5) (As := [.int (iI ((-2)))]) (rest := []) (c_X6_bad G l fu _ _ _ _ _ h15) (cwV 1 C.ts gX6_from_X6_bad rfl rfl rfl nyV_X6_bad ⟨Nat.le_of_ble_eq_true rfl, Nat.le_of_ble_eq_true rfl⟩) rfl h17 rfl rfl (Nat.le_of_ble_eq_true rfl) dX6_from_13 ⟨Nat.le_of_ble_eq_true rfl, Nat.le_of_ble_eq_true rfl⟩ (fun H locs I => ?_)
        exact kx_iret 16 C I hf dX6_from_16
    · intro S p0 i0 i1 H locs ls hf I hl
      replace hf : b_X6_from_1 (g_X6_from fu) fu S p0 i0 i1 = some (r, S') := hf
      unfold b_X6_from_1 at hf
      refine kx_iload_n 33 C dX6_from_33 (lv_at hl 2 rfl) ?_
      refine kx_bipush 34 C dX6_from_34 (by decide) ?_
      refine kx_icmp_ge 36 62 C dX6_from_36 (by decide) (fun c18 => ?_) (fun c18 => ?_)
      · have hf := ifp c18 hf
        refine kx_iconst 62 C dX6_from_62 ?_
        exact kx_iret 63 C I hf dX6_from_63
      · have hf := ifn c18 hf
        refine kx_aload_n 39 C dX6_from_39 (lv_at hl 0 rfl) ?_
        obtain ⟨q20, h19, hf⟩ := ob hf
        refine kx_getp 40 C I fl_X6_from_7 h19 dX6_from_40 ?_
        refine kx_iload_n 43 C dX6_from_43 (lv_at hl 2 rfl) ?_
        refine kx_aload_n 44 C dX6_from_44 (lv_at hl 0 rfl) ?_
        obtain ⟨q22, h21, hf⟩ := ob hf
        refine kx_getp 45 C I fl_X6_from_13 h21 dX6_from_45 ?_
        refine kx_bipush 48 C dX6_from_48 (by decide) ?_
        refine kx_iload_n 50 C dX6_from_50 (lv_at hl 1 rfl) ?_
        refine kx_imul 51 C dX6_from_51 ?_
        refine kx_iload_n 52 C dX6_from_52 (lv_at hl 2 rfl) ?_
        refine kx_iadd 53 C dX6_from_53 ?_
        obtain ⟨x23, h24, hf⟩ := ob hf
        refine kx_iald 54 C I h24 dX6_from_54 ?_
        obtain ⟨S26, h25, hf⟩ := ob hf
        refine kx_iast 55 C I h25 dX6_from_55 (fun H locs I => ?_)
        obtain ⟨x27, e28, hf⟩ := nmx_e hf
        refine kx_iinc 56 C (lv' := [(2, .int (iI x27)), (0, .ref (xB G + p0)), (1, .int (iI i0))]) dX6_from_56 hl 2 rfl e28 (by decide) rfl (fun ls hl => ?_)
        refine kx_goto 59 33 C dX6_from_59 (by decide) ?_
        exact ih1 _ _ _ _ _ _ _ hf I (lv_sub hl [1, 2, 0] rfl)
set_option maxHeartbeats 4000000 in
set_option maxRecDepth 100000 in
theorem c_X6_from (G : xG) (l : Launch) (fu : Nat) (S S' : xS) (p0 : Nat) (i0 : Int) (r : Int) (hf : f_X6_from fu S p0 i0 = some (r, S')) : Met l yX6_from vsX6_from rm_X6_from (va_Pc [.ref (xB G + p0), .int (iI i0)] (xPre G S)) (xQi G r S') 0 0 (xA G) := by
  refine kx_met (ret := (some .int)) RX6 [(0, .ref (xB G + p0)), (1, .int (iI i0))] (by decide) rfl rfl (Nat.le_of_ble_eq_true rfl) rfl (fun p e s m below meth c ls C hin I hl => ?_)
  exact (w_X6_from C r S' fu).1 S _ _ _ _ _ _ hf I hl
def rm_X6_status : Room := { frames := 1, cells := 0, slots := 0, locals := 25 }
theorem hin_X6_status_RX6 : ∀ w ∈ wsX60, w ∈ vsX6_status := fun w h => inM (inlX6 w h)
theorem fl_X6_status_20 : xFl vsX6_status RX6 20 5 3 := ⟨RX6, TX6, 30, rfl, by decide, hin_X6_status_RX6, inM mq_4_20, rfl⟩
theorem mw_X6_status_0 : Cond.constantLong RX6 81 (2) ∈ vsX6_status := inM mq_6_5
theorem nyS_X6_status : yX6_status.cls ≠ "java/lang/invoke/MethodHandle" ∧ yX6_status.cls ≠ "java/lang/invoke/VarHandle" ∧ (parseMethodDescriptor yX6_status.desc).map (fun d => d.parameters.length) = some 1 := by decide +kernel
theorem nyV_X6_status : yX6_status.cls = RX6 ∧ yX6_status.cls ≠ "java/lang/invoke/MethodHandle" ∧ yX6_status.cls ≠ "java/lang/invoke/VarHandle" ∧ (parseMethodDescriptor yX6_status.desc).map (fun d => d.parameters.length) = some 1 := by decide +kernel
set_option maxHeartbeats 4000000 in
set_option maxRecDepth 100000 in
theorem c_X6_status (G : xG) (l : Launch) (fu : Nat) (S S' : xS) (p0 : Nat) (i0 : Int) (r : Int) (hf : f_X6_status fu S p0 i0 = some (r, S')) : Met l yX6_status vsX6_status rm_X6_status (va_Pc [.ref (xB G + p0), .int (iI i0)] (xPre G S)) (xQi G r S') 0 0 (xA G) := by
  refine kx_met (ret := (some .int)) RX6 [(0, .ref (xB G + p0)), (1, .int (iI i0))] (by decide) rfl rfl (Nat.le_of_ble_eq_true rfl) rfl (fun p e s m below meth c ls C hin I hl => ?_)
  unfold f_X6_status at hf
  refine kx_iload_n 0 C dX6_status_0 (lv_at hl 1 rfl) ?_
  refine kx_i2l 1 C dX6_status_1 ?_
  refine kx_lconst 2 C (z := 0) dX6_status_2 rfl ?_
  refine kx_ldc2 3 C (z := 2) mw_X6_status_0 dX6_status_3 (by decide) ?_
  obtain ⟨x3, S1, h2, hf⟩ := ob2 hf
  refine kx_callSi 6 C hl I (As := [.long (lI (wI i0)), .long (lI 0), .long (lI 2)]) (rest := []) (c_X6_in G l fu _ _ _ _ _ _ h2) (va_cwS 3 C.ts gX6_status_X6_in rfl rfl rfl nyS_X6_in ⟨Nat.le_of_ble_eq_true rfl, Nat.le_of_ble_eq_true rfl⟩) rfl rfl (Nat.le_of_ble_eq_true rfl) dX6_status_6 ⟨Nat.le_of_ble_eq_true rfl, Nat.le_of_ble_eq_true rfl⟩ (fun H locs I => ?_)
  refine kx_if_eq 9 21 C dX6_status_9 (by decide) (fun c4 => ?_) (fun c4 => ?_)
  · have hf := ifp c4 hf
    refine kx_aload_n 21 C dX6_status_21 (lv_at hl 0 rfl) ?_
    refine kx_iconst 22 C dX6_status_22 ?_
    obtain ⟨h8, hf⟩ := ift hf
    obtain ⟨x7, S5, h6, hf⟩ := ob2 hf
    refine kx_callVi 23 C hl I (ci := 5) (As := [.int (iI ((-1)))]) (rest := []) (c_X6_bad G l fu _ _ _ _ _ h6) (cwV 1 C.ts gX6_status_X6_bad rfl rfl rfl nyV_X6_bad ⟨Nat.le_of_ble_eq_true rfl, Nat.le_of_ble_eq_true rfl⟩) rfl h8 rfl rfl (Nat.le_of_ble_eq_true rfl) dX6_status_23 ⟨Nat.le_of_ble_eq_true rfl, Nat.le_of_ble_eq_true rfl⟩ (fun H locs I => ?_)
    exact kx_iret 26 C I hf dX6_status_26
  · have hf := ifn c4 hf
    refine kx_aload_n 12 C dX6_status_12 (lv_at hl 0 rfl) ?_
    obtain ⟨q10, h9, hf⟩ := ob hf
    refine kx_getp 13 C I fl_X6_status_20 h9 dX6_status_13 ?_
    refine kx_iload_n 16 C dX6_status_16 (lv_at hl 1 rfl) ?_
    obtain ⟨x11, h12, hf⟩ := ob hf
    refine kx_iald 17 C I h12 dX6_status_17 ?_
    refine kx_goto 18 26 C dX6_status_18 (by decide) ?_
    exact kx_iret 26 C I hf dX6_status_26
def rm_X6_counted : Room := { frames := 2, cells := 0, slots := 0, locals := 42 }
theorem hin_X6_counted_RX6 : ∀ w ∈ wsX60, w ∈ vsX6_counted := fun w h => inM (inlX6 w h)
theorem fl_X6_counted_7 : xFl vsX6_counted RX6 7 5 0 := ⟨RX6, TX6, 30, rfl, by decide, hin_X6_counted_RX6, inM mq_4_16, rfl⟩
theorem fl_X6_counted_271 : xFl vsX6_counted RX6 271 5 23 := ⟨RX6, TX6, 30, rfl, by decide, hin_X6_counted_RX6, inM mq_15_11, rfl⟩
theorem nyS_X6_counted : yX6_counted.cls ≠ "java/lang/invoke/MethodHandle" ∧ yX6_counted.cls ≠ "java/lang/invoke/VarHandle" ∧ (parseMethodDescriptor yX6_counted.desc).map (fun d => d.parameters.length) = some 1 := by decide +kernel
theorem nyV_X6_counted : yX6_counted.cls = RX6 ∧ yX6_counted.cls ≠ "java/lang/invoke/MethodHandle" ∧ yX6_counted.cls ≠ "java/lang/invoke/VarHandle" ∧ (parseMethodDescriptor yX6_counted.desc).map (fun d => d.parameters.length) = some 1 := by decide +kernel
set_option maxHeartbeats 4000000 in
set_option maxRecDepth 100000 in
theorem w_X6_counted {G : xG} {p : Program} {l : Launch} {e : Env} {s : State} {m : MethodId} {args : Array Value} {below : List Frame} {meth : Method} {c : Code} (C : xK G p s m args meth c cX6_counted 2 vsX6_counted RX6 (some .int)) (r : Int) (S' : xS) : ∀ k : Nat,
  (∀ (S : xS) (p0 : Nat) (i0 : Int) (H : Heap) (locs : List Loc) (ls : Array Slot), g_X6_counted k 0 S p0 i0 = some (r, S') → xI G S s H locs → lv_has ls 2 [(0, .ref (xB G + p0)), (1, .int (iI i0))] → W p l e rm_X6_counted s m args below meth c H locs 0 0 (MQ below (xQi G r S') args s 0 0 (xA G)) (F0 m 0 ls [])) ∧
  (∀ (S : xS) (p0 : Nat) (i0 : Int) (H : Heap) (locs : List Loc) (ls : Array Slot), g_X6_counted k 1 S p0 i0 = some (r, S') → xI G S s H locs → lv_has ls 2 [(0, .ref (xB G + p0)), (1, .int (iI i0))] → W p l e rm_X6_counted s m args below meth c H locs 0 0 (MQ below (xQi G r S') args s 0 0 (xA G)) (F0 m 44 ls [])) := by
  intro k
  induction k with
  | zero => exact ⟨fun _ _ _ _ _ _ hf => (by cases hf), fun _ _ _ _ _ _ hf => (by cases hf)⟩
  | succ fu ih =>
    obtain ⟨ih0, ih1⟩ := ih
    refine ⟨?_, ?_⟩
    · intro S p0 i0 H locs ls hf I hl
      replace hf : b_X6_counted_0 (g_X6_counted fu) fu S p0 i0 = some (r, S') := hf
      unfold b_X6_counted_0 at hf
      refine kx_iload_n 0 C dX6_counted_0 (lv_at hl 1 rfl) ?_
      by_cases c1 : wI i0 = 0
      · have hf := ifp c1 hf
        refine kx_tabIn 1 44 C 0 dX6_counted_1 c1 (by decide) rfl (by decide) ?_
        exact ih1 _ _ _ _ _ _ hf I (lv_sub hl [0, 1] rfl)
      have hf := ifn c1 hf
      by_cases c2 : wI i0 = 1
      · have hf := ifp c2 hf
        refine kx_tabIn 1 44 C 1 dX6_counted_1 c2 (by decide) rfl (by decide) ?_
        exact ih1 _ _ _ _ _ _ hf I (lv_sub hl [0, 1] rfl)
      have hf := ifn c2 hf
      by_cases c3 : wI i0 = 2
      · have hf := ifp c3 hf
        refine kx_tabIn 1 44 C 2 dX6_counted_1 c3 (by decide) rfl (by decide) ?_
        exact ih1 _ _ _ _ _ _ hf I (lv_sub hl [0, 1] rfl)
      have hf := ifn c3 hf
      by_cases c4 : wI i0 = 3
      · have hf := ifp c4 hf
        refine kx_tabIn 1 53 C 3 dX6_counted_1 c4 (by decide) rfl (by decide) ?_
        refine kx_aload_n 53 C dX6_counted_53 (lv_at hl 0 rfl) ?_
        obtain ⟨h8, hf⟩ := ift hf
        obtain ⟨x7, S5, h6, hf⟩ := ob2 hf
        refine kx_callVi 54 C hl I (ci := 5) (As := []) (rest := []) (c_X6_known G l fu _ _ _ _ h6) (cwV 0 C.ts gX6_counted_X6_known rfl rfl rfl nyV_X6_known ⟨Nat.le_of_ble_eq_true rfl, Nat.le_of_ble_eq_true rfl⟩) rfl h8 rfl rfl (Nat.le_of_ble_eq_true rfl) dX6_counted_54 ⟨Nat.le_of_ble_eq_true rfl, Nat.le_of_ble_eq_true rfl⟩ (fun H locs I => ?_)
        exact kx_iret 57 C I hf dX6_counted_57
      have hf := ifn c4 hf
      by_cases c9 : wI i0 = 4
      · have hf := ifp c9 hf
        refine kx_tabIn 1 58 C 4 dX6_counted_1 c9 (by decide) rfl (by decide) ?_
        refine kx_aload_n 58 C dX6_counted_58 (lv_at hl 0 rfl) ?_
        obtain ⟨q11, h10, hf⟩ := ob hf
        refine kx_getp 59 C I fl_X6_counted_7 h10 dX6_counted_59 ?_
        refine kx_bipush 62 C dX6_counted_62 (by decide) ?_
        obtain ⟨x12, h13, hf⟩ := ob hf
        refine kx_iald 64 C I h13 dX6_counted_64 ?_
        exact kx_iret 65 C I hf dX6_counted_65
      have hf := ifn c9 hf
      by_cases c14 : wI i0 = 5
      · have hf := ifp c14 hf
        refine kx_tabIn 1 66 C 5 dX6_counted_1 c14 (by decide) rfl (by decide) ?_
        refine kx_aload_n 66 C dX6_counted_66 (lv_at hl 0 rfl) ?_
        obtain ⟨q16, h15, hf⟩ := ob hf
        refine kx_getp 67 C I fl_X6_counted_7 h15 dX6_counted_67 ?_
        refine kx_bipush 70 C dX6_counted_70 (by decide) ?_
        obtain ⟨x17, h18, hf⟩ := ob hf
        refine kx_iald 72 C I h18 dX6_counted_72 ?_
        exact kx_iret 73 C I hf dX6_counted_73
      have hf := ifn c14 hf
      by_cases c19 : wI i0 = 6
      · have hf := ifp c19 hf
        refine kx_tabIn 1 74 C 6 dX6_counted_1 c19 (by decide) rfl (by decide) ?_
        refine kx_aload_n 74 C dX6_counted_74 (lv_at hl 0 rfl) ?_
        obtain ⟨x21, h20, hf⟩ := ob hf
        refine kx_geti 75 C I fl_X6_counted_271 h20 dX6_counted_75 ?_
        exact kx_iret 78 C I hf dX6_counted_78
      have hf := ifn c19 hf
      refine kx_tabOut 1 79 C dX6_counted_1 (by omega) (by decide) ?_
      refine kx_aload_n 79 C dX6_counted_79 (lv_at hl 0 rfl) ?_
      obtain ⟨q23, h22, hf⟩ := ob hf
      refine kx_getp 80 C I fl_X6_counted_7 h22 dX6_counted_80 ?_
      refine kx_bipush 83 C dX6_counted_83 (by decide) ?_
      obtain ⟨x24, h25, hf⟩ := ob hf
      refine kx_iald 85 C I h25 dX6_counted_85 ?_
      exact kx_iret 86 C I hf dX6_counted_86
    · intro S p0 i0 H locs ls hf I hl
      replace hf : b_X6_counted_1 (g_X6_counted fu) fu S p0 i0 = some (r, S') := hf
      unfold b_X6_counted_1 at hf
      refine kx_aload_n 44 C dX6_counted_44 (lv_at hl 0 rfl) ?_
      obtain ⟨q27, h26, hf⟩ := ob hf
      refine kx_getp 45 C I fl_X6_counted_7 h26 dX6_counted_45 ?_
      refine kx_iconst 48 C dX6_counted_48 ?_
      refine kx_iload_n 49 C dX6_counted_49 (lv_at hl 1 rfl) ?_
      refine kx_iadd 50 C dX6_counted_50 ?_
      obtain ⟨x28, h29, hf⟩ := ob hf
      refine kx_iald 51 C I h29 dX6_counted_51 ?_
      exact kx_iret 52 C I hf dX6_counted_52
set_option maxHeartbeats 4000000 in
set_option maxRecDepth 100000 in
theorem c_X6_counted (G : xG) (l : Launch) (fu : Nat) (S S' : xS) (p0 : Nat) (i0 : Int) (r : Int) (hf : f_X6_counted fu S p0 i0 = some (r, S')) : Met l yX6_counted vsX6_counted rm_X6_counted (va_Pc [.ref (xB G + p0), .int (iI i0)] (xPre G S)) (xQi G r S') 0 0 (xA G) := by
  refine kx_met (ret := (some .int)) RX6 [(0, .ref (xB G + p0)), (1, .int (iI i0))] (by decide) rfl rfl (Nat.le_of_ble_eq_true rfl) rfl (fun p e s m below meth c ls C hin I hl => ?_)
  exact (w_X6_counted C r S' fu).1 S _ _ _ _ _ hf I hl
def rm_X6_count : Room := { frames := 3, cells := 0, slots := 0, locals := 63 }
theorem mw_X6_count_0 : Cond.constantLong RX6 83 (7) ∈ vsX6_count := inM mq_6_6
theorem nyS_X6_count : yX6_count.cls ≠ "java/lang/invoke/MethodHandle" ∧ yX6_count.cls ≠ "java/lang/invoke/VarHandle" ∧ (parseMethodDescriptor yX6_count.desc).map (fun d => d.parameters.length) = some 1 := by decide +kernel
theorem nyV_X6_count : yX6_count.cls = RX6 ∧ yX6_count.cls ≠ "java/lang/invoke/MethodHandle" ∧ yX6_count.cls ≠ "java/lang/invoke/VarHandle" ∧ (parseMethodDescriptor yX6_count.desc).map (fun d => d.parameters.length) = some 1 := by decide +kernel
set_option maxHeartbeats 4000000 in
set_option maxRecDepth 100000 in
theorem c_X6_count (G : xG) (l : Launch) (fu : Nat) (S S' : xS) (p0 : Nat) (i0 : Int) (r : Int) (hf : f_X6_count fu S p0 i0 = some (r, S')) : Met l yX6_count vsX6_count rm_X6_count (va_Pc [.ref (xB G + p0), .int (iI i0)] (xPre G S)) (xQi G r S') 0 0 (xA G) := by
  refine kx_met (ret := (some .int)) RX6 [(0, .ref (xB G + p0)), (1, .int (iI i0))] (by decide) rfl rfl (Nat.le_of_ble_eq_true rfl) rfl (fun p e s m below meth c ls C hin I hl => ?_)
  unfold f_X6_count at hf
  refine kx_iload_n 0 C dX6_count_0 (lv_at hl 1 rfl) ?_
  refine kx_i2l 1 C dX6_count_1 ?_
  refine kx_lconst 2 C (z := 0) dX6_count_2 rfl ?_
  refine kx_ldc2 3 C (z := 7) mw_X6_count_0 dX6_count_3 (by decide) ?_
  obtain ⟨x3, S1, h2, hf⟩ := ob2 hf
  refine kx_callSi 6 C hl I (As := [.long (lI (wI i0)), .long (lI 0), .long (lI 7)]) (rest := []) (c_X6_in G l fu _ _ _ _ _ _ h2) (va_cwS 3 C.ts gX6_count_X6_in rfl rfl rfl nyS_X6_in ⟨Nat.le_of_ble_eq_true rfl, Nat.le_of_ble_eq_true rfl⟩) rfl rfl (Nat.le_of_ble_eq_true rfl) dX6_count_6 ⟨Nat.le_of_ble_eq_true rfl, Nat.le_of_ble_eq_true rfl⟩ (fun H locs I => ?_)
  refine kx_if_eq 9 20 C dX6_count_9 (by decide) (fun c4 => ?_) (fun c4 => ?_)
  · have hf := ifp c4 hf
    refine kx_aload_n 20 C dX6_count_20 (lv_at hl 0 rfl) ?_
    refine kx_bipush 21 C dX6_count_21 (by decide) ?_
    obtain ⟨h8, hf⟩ := ift hf
    obtain ⟨x7, S5, h6, hf⟩ := ob2 hf
    refine kx_callVi 23 C hl I (ci := 5) (As := [.int (iI ((-2)))]) (rest := []) (c_X6_bad G l fu _ _ _ _ _ h6) (cwV 1 C.ts gX6_count_X6_bad rfl rfl rfl nyV_X6_bad ⟨Nat.le_of_ble_eq_true rfl, Nat.le_of_ble_eq_true rfl⟩) rfl h8 rfl rfl (Nat.le_of_ble_eq_true rfl) dX6_count_23 ⟨Nat.le_of_ble_eq_true rfl, Nat.le_of_ble_eq_true rfl⟩ (fun H locs I => ?_)
    exact kx_iret 26 C I hf dX6_count_26
  · have hf := ifn c4 hf
    refine kx_aload_n 12 C dX6_count_12 (lv_at hl 0 rfl) ?_
    refine kx_iload_n 13 C dX6_count_13 (lv_at hl 1 rfl) ?_
    obtain ⟨h12, hf⟩ := ift hf
    obtain ⟨x11, S9, h10, hf⟩ := ob2 hf
    refine kx_callVi 14 C hl I (ci := 5) (As := [.int (iI i0)]) (rest := []) (c_X6_counted G l fu _ _ _ _ _ h10) (cwV 1 C.ts gX6_count_X6_counted rfl rfl rfl nyV_X6_counted ⟨Nat.le_of_ble_eq_true rfl, Nat.le_of_ble_eq_true rfl⟩) rfl h12 rfl rfl (Nat.le_of_ble_eq_true rfl) dX6_count_14 ⟨Nat.le_of_ble_eq_true rfl, Nat.le_of_ble_eq_true rfl⟩ (fun H locs I => ?_)
    refine kx_goto 17 26 C dX6_count_17 (by decide) ?_
    exact kx_iret 26 C I hf dX6_count_26
def rm_X6_digest : Room := { frames := 3, cells := 0, slots := 0, locals := 63 }
theorem hin_X6_digest_RX6 : ∀ w ∈ wsX60, w ∈ vsX6_digest := fun w h => inM (inlX6 w h)
theorem fl_X6_digest_7 : xFl vsX6_digest RX6 7 5 0 := ⟨RX6, TX6, 30, rfl, by decide, hin_X6_digest_RX6, inM mq_4_16, rfl⟩
theorem fl_X6_digest_23 : xFl vsX6_digest RX6 23 5 5 := ⟨RX6, TX6, 30, rfl, by decide, hin_X6_digest_RX6, inM mq_4_21, rfl⟩
theorem fl_X6_digest_226 : xFl vsX6_digest RX6 226 5 4 := ⟨RX6, TX6, 30, rfl, by decide, hin_X6_digest_RX6, inM mq_40_0, rfl⟩
theorem mw_X6_digest_0 : Cond.constantLong RX6 339 (823) ∈ vsX6_digest := inM mq_47_14
theorem mw_X6_digest_1 : Cond.constantLong RX6 341 (31) ∈ vsX6_digest := inM mq_47_15
theorem nyS_X6_digest : yX6_digest.cls ≠ "java/lang/invoke/MethodHandle" ∧ yX6_digest.cls ≠ "java/lang/invoke/VarHandle" ∧ (parseMethodDescriptor yX6_digest.desc).map (fun d => d.parameters.length) = some 0 := by decide +kernel
theorem nyV_X6_digest : yX6_digest.cls = RX6 ∧ yX6_digest.cls ≠ "java/lang/invoke/MethodHandle" ∧ yX6_digest.cls ≠ "java/lang/invoke/VarHandle" ∧ (parseMethodDescriptor yX6_digest.desc).map (fun d => d.parameters.length) = some 0 := by decide +kernel
set_option maxHeartbeats 4000000 in
set_option maxRecDepth 100000 in
theorem w_X6_digest {G : xG} {p : Program} {l : Launch} {e : Env} {s : State} {m : MethodId} {args : Array Value} {below : List Frame} {meth : Method} {c : Code} (C : xK G p s m args meth c cX6_digest 4 vsX6_digest RX6 (some .long)) (r : Int) (S' : xS) : ∀ k : Nat,
  (∀ (S : xS) (p0 : Nat) (i0 i1 : Int) (H : Heap) (locs : List Loc) (ls : Array Slot), g_X6_digest k 0 S p0 i0 i1 = some (r, S') → xI G S s H locs → lv_has ls 4 [(0, .ref (xB G + p0))] → W p l e rm_X6_digest s m args below meth c H locs 0 0 (MQ below (xQl G r S') args s 0 0 (xA G)) (F0 m 0 ls [])) ∧
  (∀ (S : xS) (p0 : Nat) (i0 i1 : Int) (H : Heap) (locs : List Loc) (ls : Array Slot), g_X6_digest k 1 S p0 i0 i1 = some (r, S') → xI G S s H locs → lv_has ls 4 [(0, .ref (xB G + p0)), (1, .long (lI i0)), (3, .int (iI i1))] → W p l e rm_X6_digest s m args below meth c H locs 0 0 (MQ below (xQl G r S') args s 0 0 (xA G)) (F0 m 6 ls [])) ∧
  (∀ (S : xS) (p0 : Nat) (i0 i1 : Int) (H : Heap) (locs : List Loc) (ls : Array Slot), g_X6_digest k 2 S p0 i0 i1 = some (r, S') → xI G S s H locs → lv_has ls 4 [(0, .ref (xB G + p0)), (1, .long (lI i0)), (3, .int (iI i1))] → W p l e rm_X6_digest s m args below meth c H locs 0 0 (MQ below (xQl G r S') args s 0 0 (xA G)) (F0 m 33 ls [])) ∧
  (∀ (S : xS) (p0 : Nat) (i0 i1 : Int) (H : Heap) (locs : List Loc) (ls : Array Slot), g_X6_digest k 3 S p0 i0 i1 = some (r, S') → xI G S s H locs → lv_has ls 4 [(0, .ref (xB G + p0)), (1, .long (lI i0)), (3, .int (iI i1))] → W p l e rm_X6_digest s m args below meth c H locs 0 0 (MQ below (xQl G r S') args s 0 0 (xA G)) (F0 m 80 ls [])) ∧
  (∀ (S : xS) (p0 : Nat) (i0 i1 : Int) (H : Heap) (locs : List Loc) (ls : Array Slot), g_X6_digest k 4 S p0 i0 i1 = some (r, S') → xI G S s H locs → lv_has ls 4 [(0, .ref (xB G + p0)), (1, .long (lI i0)), (3, .int (iI i1))] → W p l e rm_X6_digest s m args below meth c H locs 0 0 (MQ below (xQl G r S') args s 0 0 (xA G)) (F0 m 113 ls [])) ∧
  (∀ (S : xS) (p0 : Nat) (i0 i1 : Int) (H : Heap) (locs : List Loc) (ls : Array Slot), g_X6_digest k 5 S p0 i0 i1 = some (r, S') → xI G S s H locs → lv_has ls 4 [(0, .ref (xB G + p0)), (1, .long (lI i0)), (3, .int (iI i1))] → W p l e rm_X6_digest s m args below meth c H locs 0 0 (MQ below (xQl G r S') args s 0 0 (xA G)) (F0 m 151 ls [])) := by
  intro k
  induction k with
  | zero => exact ⟨fun _ _ _ _ _ _ _ hf => (by cases hf), fun _ _ _ _ _ _ _ hf => (by cases hf), fun _ _ _ _ _ _ _ hf => (by cases hf), fun _ _ _ _ _ _ _ hf => (by cases hf), fun _ _ _ _ _ _ _ hf => (by cases hf), fun _ _ _ _ _ _ _ hf => (by cases hf)⟩
  | succ fu ih =>
    obtain ⟨ih0, ih1, ih2, ih3, ih4, ih5⟩ := ih
    refine ⟨?_, ?_, ?_, ?_, ?_, ?_⟩
    · intro S p0 i0 i1 H locs ls hf I hl
      replace hf : b_X6_digest_0 (g_X6_digest fu) fu S p0 i0 i1 = some (r, S') := hf
      unfold b_X6_digest_0 at hf
      refine kx_ldc2 0 C (z := 823) mw_X6_digest_0 dX6_digest_0 (by decide) ?_
      refine kx_lstore_n 3 C (lv' := [(1, .long (lI 823)), (0, .ref (xB G + p0))]) dX6_digest_3 hl (by decide) rfl rfl (fun ls hl => ?_)
      refine kx_iconst 4 C dX6_digest_4 ?_
      refine kx_istore_n 5 C (lv' := [(3, .int (iI 0)), (1, .long (lI 823)), (0, .ref (xB G + p0))]) dX6_digest_5 hl (by decide) rfl rfl (fun ls hl => ?_)
      exact ih1 _ _ _ _ _ _ _ hf I (lv_sub hl [2, 1, 0] rfl)
    · intro S p0 i0 i1 H locs ls hf I hl
      replace hf : b_X6_digest_1 (g_X6_digest fu) fu S p0 i0 i1 = some (r, S') := hf
      unfold b_X6_digest_1 at hf
      refine kx_iload_n 6 C dX6_digest_6 (lv_at hl 2 rfl) ?_
      refine kx_bipush 7 C dX6_digest_7 (by decide) ?_
      refine kx_icmp_ge 9 31 C dX6_digest_9 (by decide) (fun c1 => ?_) (fun c1 => ?_)
      · have hf := ifp c1 hf
        refine kx_iconst 31 C dX6_digest_31 ?_
        refine kx_istore_n 32 C (lv' := [(3, .int (iI 0)), (0, .ref (xB G + p0)), (1, .long (lI i0))]) dX6_digest_32 hl (by decide) rfl rfl (fun ls hl => ?_)
        exact ih2 _ _ _ _ _ _ _ hf I (lv_sub hl [1, 2, 0] rfl)
      · have hf := ifn c1 hf
        refine kx_ldc2 12 C (z := 31) mw_X6_digest_1 dX6_digest_12 (by decide) ?_
        refine kx_lload_n 15 C dX6_digest_15 (lv_at hl 1 rfl) ?_
        refine kx_lmul 16 C dX6_digest_16 ?_
        refine kx_aload_n 17 C dX6_digest_17 (lv_at hl 0 rfl) ?_
        refine kx_iload_n 18 C dX6_digest_18 (lv_at hl 2 rfl) ?_
        obtain ⟨h5, hf⟩ := ift hf
        obtain ⟨x4, S2, h3, hf⟩ := ob2 hf
        refine kx_callVi 19 C hl I (ci := 5) (As := [.int (iI i1)]) (rest := [.long (lI (31 * i0))]) (c_X6_counted G l fu _ _ _ _ _ h3) (cwV 1 C.ts gX6_digest_X6_counted rfl rfl rfl nyV_X6_counted ⟨Nat.le_of_ble_eq_true rfl, Nat.le_of_ble_eq_true rfl⟩) rfl h5 rfl rfl (Nat.le_of_ble_eq_true rfl) dX6_digest_19 ⟨Nat.le_of_ble_eq_true rfl, Nat.le_of_ble_eq_true rfl⟩ (fun H locs I => ?_)
        refine kx_i2l 22 C dX6_digest_22 ?_
        refine kx_ladd 23 C dX6_digest_23 ?_
        obtain ⟨x6, e7, hf⟩ := nmx_e hf
        refine kx_lstore_n 24 C (lv' := [(1, .long (lI x6)), (0, .ref (xB G + p0)), (3, .int (iI i1))]) dX6_digest_24 hl (by decide) e7 rfl (fun ls hl => ?_)
        obtain ⟨x8, e9, hf⟩ := nmx_e hf
        refine kx_iinc 25 C (lv' := [(3, .int (iI x8)), (1, .long (lI x6)), (0, .ref (xB G + p0))]) dX6_digest_25 hl 2 rfl e9 (by decide) rfl (fun ls hl => ?_)
        refine kx_goto 28 6 C dX6_digest_28 (by decide) ?_
        exact ih1 _ _ _ _ _ _ _ hf I (lv_sub hl [2, 1, 0] rfl)
    · intro S p0 i0 i1 H locs ls hf I hl
      replace hf : b_X6_digest_2 (g_X6_digest fu) fu S p0 i0 i1 = some (r, S') := hf
      unfold b_X6_digest_2 at hf
      refine kx_iload_n 33 C dX6_digest_33 (lv_at hl 2 rfl) ?_
      refine kx_aload_n 34 C dX6_digest_34 (lv_at hl 0 rfl) ?_
      obtain ⟨h13, hf⟩ := ift hf
      obtain ⟨x12, S10, h11, hf⟩ := ob2 hf
      refine kx_callVi 35 C hl I (ci := 5) (As := []) (rest := [.int (iI i1)]) (c_X6_n G l fu _ _ _ _ h11) (cwV 0 C.ts gX6_digest_X6_n rfl rfl rfl nyV_X6_n ⟨Nat.le_of_ble_eq_true rfl, Nat.le_of_ble_eq_true rfl⟩) rfl h13 rfl rfl (Nat.le_of_ble_eq_true rfl) dX6_digest_35 ⟨Nat.le_of_ble_eq_true rfl, Nat.le_of_ble_eq_true rfl⟩ (fun H locs I => ?_)
      refine kx_icmp_ge 38 78 C dX6_digest_38 (by decide) (fun c14 => ?_) (fun c14 => ?_)
      · have hf := ifp c14 hf
        refine kx_iconst 78 C dX6_digest_78 ?_
        refine kx_istore_n 79 C (lv' := [(3, .int (iI 0)), (0, .ref (xB G + p0)), (1, .long (lI i0))]) dX6_digest_79 hl (by decide) rfl rfl (fun ls hl => ?_)
        exact ih3 _ _ _ _ _ _ _ hf I (lv_sub hl [1, 2, 0] rfl)
      · have hf := ifn c14 hf
        refine kx_ldc2 41 C (z := 31) mw_X6_digest_1 dX6_digest_41 (by decide) ?_
        refine kx_ldc2 44 C (z := 31) mw_X6_digest_1 dX6_digest_44 (by decide) ?_
        refine kx_lload_n 47 C dX6_digest_47 (lv_at hl 1 rfl) ?_
        refine kx_lmul 48 C dX6_digest_48 ?_
        refine kx_aload_n 49 C dX6_digest_49 (lv_at hl 0 rfl) ?_
        obtain ⟨q16, h15, hf⟩ := ob hf
        refine kx_getp 50 C I fl_X6_digest_7 h15 dX6_digest_50 ?_
        refine kx_iconst 53 C dX6_digest_53 ?_
        refine kx_iload_n 54 C dX6_digest_54 (lv_at hl 2 rfl) ?_
        refine kx_iadd 55 C dX6_digest_55 ?_
        obtain ⟨x17, h18, hf⟩ := ob hf
        refine kx_iald 56 C I h18 dX6_digest_56 ?_
        refine kx_i2l 57 C dX6_digest_57 ?_
        refine kx_ladd 58 C dX6_digest_58 ?_
        refine kx_lmul 59 C dX6_digest_59 ?_
        refine kx_aload_n 60 C dX6_digest_60 (lv_at hl 0 rfl) ?_
        obtain ⟨q20, h19, hf⟩ := ob hf
        refine kx_getp 61 C I fl_X6_digest_7 h19 dX6_digest_61 ?_
        refine kx_bipush 64 C dX6_digest_64 (by decide) ?_
        refine kx_iload_n 66 C dX6_digest_66 (lv_at hl 2 rfl) ?_
        refine kx_iadd 67 C dX6_digest_67 ?_
        obtain ⟨x21, h22, hf⟩ := ob hf
        refine kx_iald 68 C I h22 dX6_digest_68 ?_
        refine kx_i2l 69 C dX6_digest_69 ?_
        refine kx_ladd 70 C dX6_digest_70 ?_
        obtain ⟨x23, e24, hf⟩ := nmx_e hf
        refine kx_lstore_n 71 C (lv' := [(1, .long (lI x23)), (0, .ref (xB G + p0)), (3, .int (iI i1))]) dX6_digest_71 hl (by decide) e24 rfl (fun ls hl => ?_)
        obtain ⟨x25, e26, hf⟩ := nmx_e hf
        refine kx_iinc 72 C (lv' := [(3, .int (iI x25)), (1, .long (lI x23)), (0, .ref (xB G + p0))]) dX6_digest_72 hl 2 rfl e26 (by decide) rfl (fun ls hl => ?_)
        refine kx_goto 75 33 C dX6_digest_75 (by decide) ?_
        exact ih2 _ _ _ _ _ _ _ hf I (lv_sub hl [2, 1, 0] rfl)
    · intro S p0 i0 i1 H locs ls hf I hl
      replace hf : b_X6_digest_3 (g_X6_digest fu) fu S p0 i0 i1 = some (r, S') := hf
      unfold b_X6_digest_3 at hf
      refine kx_iload_n 80 C dX6_digest_80 (lv_at hl 2 rfl) ?_
      refine kx_aload_n 81 C dX6_digest_81 (lv_at hl 0 rfl) ?_
      obtain ⟨h30, hf⟩ := ift hf
      obtain ⟨x29, S27, h28, hf⟩ := ob2 hf
      refine kx_callVi 82 C hl I (ci := 5) (As := []) (rest := [.int (iI i1)]) (c_X6_n G l fu _ _ _ _ h28) (cwV 0 C.ts gX6_digest_X6_n rfl rfl rfl nyV_X6_n ⟨Nat.le_of_ble_eq_true rfl, Nat.le_of_ble_eq_true rfl⟩) rfl h30 rfl rfl (Nat.le_of_ble_eq_true rfl) dX6_digest_82 ⟨Nat.le_of_ble_eq_true rfl, Nat.le_of_ble_eq_true rfl⟩ (fun H locs I => ?_)
      refine kx_icmp_ge 85 111 C dX6_digest_85 (by decide) (fun c31 => ?_) (fun c31 => ?_)
      · have hf := ifp c31 hf
        refine kx_iconst 111 C dX6_digest_111 ?_
        refine kx_istore_n 112 C (lv' := [(3, .int (iI 0)), (0, .ref (xB G + p0)), (1, .long (lI i0))]) dX6_digest_112 hl (by decide) rfl rfl (fun ls hl => ?_)
        exact ih4 _ _ _ _ _ _ _ hf I (lv_sub hl [1, 2, 0] rfl)
      · have hf := ifn c31 hf
        refine kx_ldc2 88 C (z := 31) mw_X6_digest_1 dX6_digest_88 (by decide) ?_
        refine kx_lload_n 91 C dX6_digest_91 (lv_at hl 1 rfl) ?_
        refine kx_lmul 92 C dX6_digest_92 ?_
        refine kx_aload_n 93 C dX6_digest_93 (lv_at hl 0 rfl) ?_
        obtain ⟨q33, h32, hf⟩ := ob hf
        refine kx_getp 94 C I fl_X6_digest_7 h32 dX6_digest_94 ?_
        refine kx_bipush 97 C dX6_digest_97 (by decide) ?_
        refine kx_iload_n 99 C dX6_digest_99 (lv_at hl 2 rfl) ?_
        refine kx_iadd 100 C dX6_digest_100 ?_
        obtain ⟨x34, h35, hf⟩ := ob hf
        refine kx_iald 101 C I h35 dX6_digest_101 ?_
        refine kx_i2l 102 C dX6_digest_102 ?_
        refine kx_ladd 103 C dX6_digest_103 ?_
        obtain ⟨x36, e37, hf⟩ := nmx_e hf
        refine kx_lstore_n 104 C (lv' := [(1, .long (lI x36)), (0, .ref (xB G + p0)), (3, .int (iI i1))]) dX6_digest_104 hl (by decide) e37 rfl (fun ls hl => ?_)
        obtain ⟨x38, e39, hf⟩ := nmx_e hf
        refine kx_iinc 105 C (lv' := [(3, .int (iI x38)), (1, .long (lI x36)), (0, .ref (xB G + p0))]) dX6_digest_105 hl 2 rfl e39 (by decide) rfl (fun ls hl => ?_)
        refine kx_goto 108 80 C dX6_digest_108 (by decide) ?_
        exact ih3 _ _ _ _ _ _ _ hf I (lv_sub hl [2, 1, 0] rfl)
    · intro S p0 i0 i1 H locs ls hf I hl
      replace hf : b_X6_digest_4 (g_X6_digest fu) fu S p0 i0 i1 = some (r, S') := hf
      unfold b_X6_digest_4 at hf
      refine kx_iload_n 113 C dX6_digest_113 (lv_at hl 2 rfl) ?_
      refine kx_iconst 114 C dX6_digest_114 ?_
      refine kx_aload_n 115 C dX6_digest_115 (lv_at hl 0 rfl) ?_
      obtain ⟨q41, h40, hf⟩ := ob hf
      refine kx_getp 116 C I fl_X6_digest_7 h40 dX6_digest_116 ?_
      refine kx_bipush 119 C dX6_digest_119 (by decide) ?_
      obtain ⟨x42, h43, hf⟩ := ob hf
      refine kx_iald 121 C I h43 dX6_digest_121 ?_
      refine kx_imul 122 C dX6_digest_122 ?_
      refine kx_icmp_ge 123 149 C dX6_digest_123 (by decide) (fun c44 => ?_) (fun c44 => ?_)
      · have hf := ifp c44 hf
        refine kx_iconst 149 C dX6_digest_149 ?_
        refine kx_istore_n 150 C (lv' := [(3, .int (iI 0)), (0, .ref (xB G + p0)), (1, .long (lI i0))]) dX6_digest_150 hl (by decide) rfl rfl (fun ls hl => ?_)
        exact ih5 _ _ _ _ _ _ _ hf I (lv_sub hl [1, 2, 0] rfl)
      · have hf := ifn c44 hf
        refine kx_ldc2 126 C (z := 31) mw_X6_digest_1 dX6_digest_126 (by decide) ?_
        refine kx_lload_n 129 C dX6_digest_129 (lv_at hl 1 rfl) ?_
        refine kx_lmul 130 C dX6_digest_130 ?_
        refine kx_aload_n 131 C dX6_digest_131 (lv_at hl 0 rfl) ?_
        obtain ⟨q46, h45, hf⟩ := ob hf
        refine kx_getp 132 C I fl_X6_digest_7 h45 dX6_digest_132 ?_
        refine kx_bipush 135 C dX6_digest_135 (by decide) ?_
        refine kx_iload_n 137 C dX6_digest_137 (lv_at hl 2 rfl) ?_
        refine kx_iadd 138 C dX6_digest_138 ?_
        obtain ⟨x47, h48, hf⟩ := ob hf
        refine kx_iald 139 C I h48 dX6_digest_139 ?_
        refine kx_i2l 140 C dX6_digest_140 ?_
        refine kx_ladd 141 C dX6_digest_141 ?_
        obtain ⟨x49, e50, hf⟩ := nmx_e hf
        refine kx_lstore_n 142 C (lv' := [(1, .long (lI x49)), (0, .ref (xB G + p0)), (3, .int (iI i1))]) dX6_digest_142 hl (by decide) e50 rfl (fun ls hl => ?_)
        obtain ⟨x51, e52, hf⟩ := nmx_e hf
        refine kx_iinc 143 C (lv' := [(3, .int (iI x51)), (1, .long (lI x49)), (0, .ref (xB G + p0))]) dX6_digest_143 hl 2 rfl e52 (by decide) rfl (fun ls hl => ?_)
        refine kx_goto 146 113 C dX6_digest_146 (by decide) ?_
        exact ih4 _ _ _ _ _ _ _ hf I (lv_sub hl [2, 1, 0] rfl)
    · intro S p0 i0 i1 H locs ls hf I hl
      replace hf : b_X6_digest_5 (g_X6_digest fu) fu S p0 i0 i1 = some (r, S') := hf
      unfold b_X6_digest_5 at hf
      refine kx_iload_n 151 C dX6_digest_151 (lv_at hl 2 rfl) ?_
      refine kx_aload_n 152 C dX6_digest_152 (lv_at hl 0 rfl) ?_
      obtain ⟨q54, h53, hf⟩ := ob hf
      refine kx_getp 153 C I fl_X6_digest_7 h53 dX6_digest_153 ?_
      refine kx_bipush 156 C dX6_digest_156 (by decide) ?_
      obtain ⟨x55, h56, hf⟩ := ob hf
      refine kx_iald 158 C I h56 dX6_digest_158 ?_
      refine kx_icmp_ge 159 185 C dX6_digest_159 (by decide) (fun c57 => ?_) (fun c57 => ?_)
      · have hf := ifp c57 hf
        refine kx_ldc2 185 C (z := 31) mw_X6_digest_1 dX6_digest_185 (by decide) ?_
        refine kx_ldc2 188 C (z := 31) mw_X6_digest_1 dX6_digest_188 (by decide) ?_
        refine kx_lload_n 191 C dX6_digest_191 (lv_at hl 1 rfl) ?_
        refine kx_lmul 192 C dX6_digest_192 ?_
        refine kx_aload_n 193 C dX6_digest_193 (lv_at hl 0 rfl) ?_
        obtain ⟨x59, h58, hf⟩ := ob hf
        refine kx_getl 194 C I fl_X6_digest_226 h58 dX6_digest_194 ?_
        refine kx_ladd 197 C dX6_digest_197 ?_
        refine kx_lmul 198 C dX6_digest_198 ?_
        refine kx_aload_n 199 C dX6_digest_199 (lv_at hl 0 rfl) ?_
        obtain ⟨x61, h60, hf⟩ := ob hf
        refine kx_getl 200 C I fl_X6_digest_23 h60 dX6_digest_200 ?_
        refine kx_ladd 203 C dX6_digest_203 ?_
        exact kx_lret 204 C I hf dX6_digest_204
      · have hf := ifn c57 hf
        refine kx_ldc2 162 C (z := 31) mw_X6_digest_1 dX6_digest_162 (by decide) ?_
        refine kx_lload_n 165 C dX6_digest_165 (lv_at hl 1 rfl) ?_
        refine kx_lmul 166 C dX6_digest_166 ?_
        refine kx_aload_n 167 C dX6_digest_167 (lv_at hl 0 rfl) ?_
        obtain ⟨q63, h62, hf⟩ := ob hf
        refine kx_getp 168 C I fl_X6_digest_7 h62 dX6_digest_168 ?_
        refine kx_bipush 171 C dX6_digest_171 (by decide) ?_
        refine kx_iload_n 173 C dX6_digest_173 (lv_at hl 2 rfl) ?_
        refine kx_iadd 174 C dX6_digest_174 ?_
        obtain ⟨x64, h65, hf⟩ := ob hf
        refine kx_iald 175 C I h65 dX6_digest_175 ?_
        refine kx_i2l 176 C dX6_digest_176 ?_
        refine kx_ladd 177 C dX6_digest_177 ?_
        obtain ⟨x66, e67, hf⟩ := nmx_e hf
        refine kx_lstore_n 178 C (lv' := [(1, .long (lI x66)), (0, .ref (xB G + p0)), (3, .int (iI i1))]) dX6_digest_178 hl (by decide) e67 rfl (fun ls hl => ?_)
        obtain ⟨x68, e69, hf⟩ := nmx_e hf
        refine kx_iinc 179 C (lv' := [(3, .int (iI x68)), (1, .long (lI x66)), (0, .ref (xB G + p0))]) dX6_digest_179 hl 2 rfl e69 (by decide) rfl (fun ls hl => ?_)
        refine kx_goto 182 151 C dX6_digest_182 (by decide) ?_
        exact ih5 _ _ _ _ _ _ _ hf I (lv_sub hl [2, 1, 0] rfl)
set_option maxHeartbeats 4000000 in
set_option maxRecDepth 100000 in
theorem c_X6_digest (G : xG) (l : Launch) (fu : Nat) (S S' : xS) (p0 : Nat) (r : Int) (hf : f_X6_digest fu S p0 = some (r, S')) : Met l yX6_digest vsX6_digest rm_X6_digest (va_Pc [.ref (xB G + p0)] (xPre G S)) (xQl G r S') 0 0 (xA G) := by
  refine kx_met (ret := (some .long)) RX6 [(0, .ref (xB G + p0))] (by decide) rfl rfl (Nat.le_of_ble_eq_true rfl) rfl (fun p e s m below meth c ls C hin I hl => ?_)
  exact (w_X6_digest C r S' fu).1 S _ _ _ _ _ _ hf I hl
