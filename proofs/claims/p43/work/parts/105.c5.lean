def rm_X5_till : Room := { frames := 6, cells := 11, slots := 10139, locals := 142 }
theorem hin_X5_till_RX0 : ∀ w ∈ wsX00, w ∈ vsX5_till := fun w h => inM (inlX0 w h)
theorem hin_X5_till_RX1 : ∀ w ∈ wsX10, w ∈ vsX5_till := fun w h => inM (inlX1 w h)
theorem hin_X5_till_RX5 : ∀ w ∈ wsX50, w ∈ vsX5_till := fun w h => inM (inlX5 w h)
theorem fl_X5_till_10 : xFl vsX5_till RX5 10 4 0 := ⟨RX5, TX5, 13, rfl, by decide, hin_X5_till_RX5, inM mq_1_15, rfl⟩
theorem fl_X5_till_37 : xFl vsX5_till RX5 37 4 5 := ⟨RX5, TX5, 13, rfl, by decide, hin_X5_till_RX5, inM mq_2_3, rfl⟩
theorem fl_X5_till_69 : xFl vsX5_till RX5 69 1 0 := ⟨RX1, TX1, 14, rfl, by decide, hin_X5_till_RX1, inM mq_5_19, rfl⟩
theorem fl_X5_till_233 : xFl vsX5_till RX5 233 0 1 := ⟨RX0, TX0, 9, rfl, by decide, hin_X5_till_RX0, inM mq_34_7, rfl⟩
theorem fl_X5_till_239 : xFl vsX5_till RX5 239 0 0 := ⟨RX0, TX0, 9, rfl, by decide, hin_X5_till_RX0, inM mq_38_1, rfl⟩
theorem nyS_X5_till : yX5_till.cls ≠ "java/lang/invoke/MethodHandle" ∧ yX5_till.cls ≠ "java/lang/invoke/VarHandle" ∧ (parseMethodDescriptor yX5_till.desc).map (fun d => d.parameters.length) = some 1 := by decide +kernel
theorem nyV_X5_till : yX5_till.cls = RX5 ∧ yX5_till.cls ≠ "java/lang/invoke/MethodHandle" ∧ yX5_till.cls ≠ "java/lang/invoke/VarHandle" ∧ (parseMethodDescriptor yX5_till.desc).map (fun d => d.parameters.length) = some 1 := by decide +kernel
set_option maxHeartbeats 4000000 in
set_option maxRecDepth 100000 in
theorem w_X5_till {G : xG} {p : Program} {l : Launch} {e : Env} {s : State} {m : MethodId} {args : Array Value} {below : List Frame} {meth : Method} {c : Code} (C : xK G p s m args meth c cX5_till 5 vsX5_till RX5 (some .int)) (r : Int) (S' : xS) : ∀ k : Nat,
  (∀ (S : xS) (p0 p1 : Nat) (i0 i1 : Int) (H : Heap) (locs : List Loc) (ls : Array Slot), g_X5_till k 0 S p0 p1 i0 i1 = some (r, S') → xI G S s H locs → lv_has ls 5 [(0, .ref (xB G + p0)), (1, .int (iI i0))] → W p l e rm_X5_till s m args below meth c H locs 0 0 (MQ below (xQi G r S') args s 11 10139 (xA G)) (F0 m 0 ls [])) ∧
  (∀ (S : xS) (p0 p1 : Nat) (i0 i1 : Int) (H : Heap) (locs : List Loc) (ls : Array Slot), g_X5_till k 1 S p0 p1 i0 i1 = some (r, S') → xI G S s H locs → lv_has ls 5 [(0, .ref (xB G + p0)), (1, .int (iI i0)), (2, .ref (xB G + p1)), (3, .int (iI i1))] → W p l e rm_X5_till s m args below meth c H locs 11 10139 (MQ below (xQi G r S') args s 11 10139 (xA G)) (F0 m 17 ls [])) := by
  intro k
  induction k with
  | zero => exact ⟨fun _ _ _ _ _ _ _ _ hf => (by cases hf), fun _ _ _ _ _ _ _ _ hf => (by cases hf)⟩
  | succ fu ih =>
    obtain ⟨ih0, ih1⟩ := ih
    refine ⟨?_, ?_⟩
    · intro S p0 p1 i0 i1 H locs ls hf I hl
      replace hf : b_X5_till_0 (g_X5_till fu) fu S p0 p1 i0 i1 = some (r, S') := hf
      unfold b_X5_till_0 at hf
      refine kx_iload_n 0 C dX5_till_0 (lv_at hl 1 rfl) ?_
      refine kx_iconst 1 C dX5_till_1 ?_
      refine kx_icmp_ge 2 10 C dX5_till_2 (by decide) (fun c1 => ?_) (fun c1 => ?_)
      · have hf := ifp c1 hf
        refine kx_aload_n 10 C dX5_till_10 (lv_at hl 0 rfl) ?_
        obtain ⟨h5, hf⟩ := ift hf
        obtain ⟨q4, S2, h3, hf⟩ := ob2 hf
        refine kx_callVp 11 C hl I (ci := 4) (As := []) (rest := []) (c_X5_reachNow G l fu _ _ _ _ h3) (cwV 0 C.ts gX5_till_X5_reachNow rfl rfl rfl nyV_X5_reachNow ⟨Nat.le_of_ble_eq_true rfl, Nat.le_of_ble_eq_true rfl⟩) rfl h5 rfl rfl (Nat.le_of_ble_eq_true rfl) dX5_till_11 ⟨Nat.le_of_ble_eq_true rfl, Nat.le_of_ble_eq_true rfl⟩ (fun H locs I => ?_)
        refine kx_astore_n 14 C (lv' := [(2, .ref (xB G + q4)), (0, .ref (xB G + p0)), (1, .int (iI i0))]) dX5_till_14 hl (by decide) rfl (fun ls hl => ?_)
        refine kx_iconst 15 C dX5_till_15 ?_
        refine kx_istore_n 16 C (lv' := [(3, .int (iI 0)), (2, .ref (xB G + q4)), (0, .ref (xB G + p0)), (1, .int (iI i0))]) dX5_till_16 hl (by decide) rfl rfl (fun ls hl => ?_)
        exact ih1 _ _ _ _ _ _ _ _ hf I (lv_sub hl [2, 3, 1, 0] rfl)
      · have hf := ifn c1 hf
        refine kx_aload_n 5 C dX5_till_5 (lv_at hl 0 rfl) ?_
        obtain ⟨h9, hf⟩ := ift hf
        obtain ⟨x8, S6, h7, hf⟩ := ob2 hf
        refine kx_callVi 6 C hl I (ci := 4) (As := []) (rest := []) (c_X5_refuseQuestion G l fu _ _ _ _ h7) (cwV 0 C.ts gX5_till_X5_refuseQuestion rfl rfl rfl nyV_X5_refuseQuestion ⟨Nat.le_of_ble_eq_true rfl, Nat.le_of_ble_eq_true rfl⟩) rfl h9 rfl rfl (Nat.le_of_ble_eq_true rfl) dX5_till_6 ⟨Nat.le_of_ble_eq_true rfl, Nat.le_of_ble_eq_true rfl⟩ (fun H locs I => ?_)
        refine W.widen (k := 11) (n := 10139) (Nat.le_of_ble_eq_true rfl) (Nat.le_of_ble_eq_true rfl) ?_
        exact kx_iret 9 C I hf dX5_till_9
    · intro S p0 p1 i0 i1 H locs ls hf I hl
      replace hf : b_X5_till_1 (g_X5_till fu) fu S p0 p1 i0 i1 = some (r, S') := hf
      unfold b_X5_till_1 at hf
      refine kx_iload_n 17 C dX5_till_17 (lv_at hl 3 rfl) ?_
      refine kx_aload_n 18 C dX5_till_18 (lv_at hl 2 rfl) ?_
      obtain ⟨x11, h10, hf⟩ := ob hf
      refine kx_geti 19 C I fl_X5_till_233 h10 dX5_till_19 ?_
      refine kx_icmp_ge 22 74 C dX5_till_22 (by decide) (fun c12 => ?_) (fun c12 => ?_)
      · have hf := ifp c12 hf
        refine kx_iconst 74 C dX5_till_74 ?_
        exact kx_iret 75 C I hf dX5_till_75
      · have hf := ifn c12 hf
        refine kx_aload_n 25 C dX5_till_25 (lv_at hl 2 rfl) ?_
        obtain ⟨q14, h13, hf⟩ := ob hf
        refine kx_getp 26 C I fl_X5_till_239 h13 dX5_till_26 ?_
        refine kx_iload_n 29 C dX5_till_29 (lv_at hl 3 rfl) ?_
        obtain ⟨x15, h16, hf⟩ := ob hf
        refine kx_iald 30 C I h16 dX5_till_30 ?_
        refine kx_istore 31 C (lv' := [(4, .int (iI x15)), (0, .ref (xB G + p0)), (1, .int (iI i0)), (2, .ref (xB G + p1)), (3, .int (iI i1))]) dX5_till_31 hl (by decide) rfl rfl (fun ls hl => ?_)
        refine kx_aload_n 33 C dX5_till_33 (lv_at hl 1 rfl) ?_
        obtain ⟨q18, h17, hf⟩ := ob hf
        refine kx_getp 34 C I fl_X5_till_37 h17 dX5_till_34 ?_
        refine kx_aload_n 37 C dX5_till_37 (lv_at hl 1 rfl) ?_
        obtain ⟨q20, h19, hf⟩ := ob hf
        refine kx_getp 38 C I fl_X5_till_10 h19 dX5_till_38 ?_
        obtain ⟨x22, h21, hf⟩ := ob hf
        refine kx_geti 41 C I fl_X5_till_69 h21 dX5_till_41 ?_
        refine kx_iload 44 C dX5_till_44 (lv_at hl 0 rfl) ?_
        obtain ⟨z25, S23, h24, hf⟩ := ob2 hf
        refine kx_callSv 46 C hl I (As := [.ref (xB G + q18), .int (iI x22), .int (iI x15)]) (rest := []) (c_X4_setToRank G l fu _ _ _ _ _ _ h24) (va_cwS 3 C.ts gX5_till_X4_setToRank rfl rfl rfl nyS_X4_setToRank ⟨Nat.le_of_ble_eq_true rfl, Nat.le_of_ble_eq_true rfl⟩) rfl rfl (Nat.le_of_ble_eq_true rfl) dX5_till_46 ⟨Nat.le_of_ble_eq_true rfl, Nat.le_of_ble_eq_true rfl⟩ (fun H locs I => ?_)
        refine kx_aload_n 49 C dX5_till_49 (lv_at hl 1 rfl) ?_
        refine kx_aload_n 50 C dX5_till_50 (lv_at hl 1 rfl) ?_
        obtain ⟨q27, h26, hf⟩ := ob hf
        refine kx_getp 51 C I fl_X5_till_37 h26 dX5_till_51 ?_
        obtain ⟨h31, hf⟩ := ift hf
        obtain ⟨x30, S28, h29, hf⟩ := ob2 hf
        refine kx_callVi 54 C hl I (ci := 4) (As := [.ref (xB G + q27)]) (rest := []) (c_X5_doAllFind G l fu _ _ _ _ _ h29) (cwV 1 C.ts gX5_till_X5_doAllFind rfl rfl rfl nyV_X5_doAllFind ⟨Nat.le_of_ble_eq_true rfl, Nat.le_of_ble_eq_true rfl⟩) rfl h31 rfl rfl (Nat.le_of_ble_eq_true rfl) dX5_till_54 ⟨Nat.le_of_ble_eq_true rfl, Nat.le_of_ble_eq_true rfl⟩ (fun H locs I => ?_)
        refine kx_if_eq 57 68 C dX5_till_57 (by decide) (fun c32 => ?_) (fun c32 => ?_)
        · have hf := ifp c32 hf
          obtain ⟨x33, e34, hf⟩ := nmx_e hf
          refine kx_iinc 68 C (lv' := [(3, .int (iI x33)), (4, .int (iI x15)), (0, .ref (xB G + p0)), (1, .int (iI i0)), (2, .ref (xB G + p1))]) dX5_till_68 hl 4 rfl e34 (by decide) rfl (fun ls hl => ?_)
          refine kx_goto 71 17 C dX5_till_71 (by decide) ?_
          exact ih1 _ _ _ _ _ _ _ _ hf I (lv_sub hl [2, 3, 4, 0] rfl)
        · have hf := ifn c32 hf
          refine kx_aload_n 60 C dX5_till_60 (lv_at hl 3 rfl) ?_
          refine kx_iload 61 C dX5_till_61 (lv_at hl 0 rfl) ?_
          refine kx_iload_n 63 C dX5_till_63 (lv_at hl 2 rfl) ?_
          obtain ⟨h38, hf⟩ := ift hf
          obtain ⟨x37, S35, h36, hf⟩ := ob2 hf
          refine kx_callVi 64 C hl I (ci := 0) (As := [.int (iI x15), .int (iI i0)]) (rest := []) (c_X0_moveTo G l fu _ _ _ _ _ _ h36) (cwV 2 C.ts gX5_till_X0_moveTo rfl rfl rfl nyV_X0_moveTo ⟨Nat.le_of_ble_eq_true rfl, Nat.le_of_ble_eq_true rfl⟩) rfl h38 rfl rfl (Nat.le_of_ble_eq_true rfl) dX5_till_64 ⟨Nat.le_of_ble_eq_true rfl, Nat.le_of_ble_eq_true rfl⟩ (fun H locs I => ?_)
          exact kx_iret 67 C I hf dX5_till_67
set_option maxHeartbeats 4000000 in
set_option maxRecDepth 100000 in
theorem c_X5_till (G : xG) (l : Launch) (fu : Nat) (S S' : xS) (p0 : Nat) (i0 : Int) (r : Int) (hf : f_X5_till fu S p0 i0 = some (r, S')) : Met l yX5_till vsX5_till rm_X5_till (va_Pc [.ref (xB G + p0), .int (iI i0)] (xPre G S)) (xQi G r S') 11 10139 (xA G) := by
  refine kx_met (ret := (some .int)) RX5 [(0, .ref (xB G + p0)), (1, .int (iI i0))] (by decide) rfl rfl (Nat.le_of_ble_eq_true rfl) rfl (fun p e s m below meth c ls C hin I hl => ?_)
  exact (w_X5_till C r S' fu).1 S _ _ _ _ _ _ _ hf I hl
def rm_X5_mayTrialBe : Room := { frames := 3, cells := 0, slots := 0, locals := 75 }
theorem hin_X5_mayTrialBe_RX1 : ∀ w ∈ wsX10, w ∈ vsX5_mayTrialBe := fun w h => inM (inlX1 w h)
theorem hin_X5_mayTrialBe_RX2 : ∀ w ∈ wsX20, w ∈ vsX5_mayTrialBe := fun w h => inM (inlX2 w h)
theorem hin_X5_mayTrialBe_RX5 : ∀ w ∈ wsX50, w ∈ vsX5_mayTrialBe := fun w h => inM (inlX5 w h)
theorem fl_X5_mayTrialBe_10 : xFl vsX5_mayTrialBe RX5 10 4 0 := ⟨RX5, TX5, 13, rfl, by decide, hin_X5_mayTrialBe_RX5, inM mq_1_15, rfl⟩
theorem fl_X5_mayTrialBe_33 : xFl vsX5_mayTrialBe RX5 33 4 4 := ⟨RX5, TX5, 13, rfl, by decide, hin_X5_mayTrialBe_RX5, inM mq_2_1, rfl⟩
theorem fl_X5_mayTrialBe_37 : xFl vsX5_mayTrialBe RX5 37 4 5 := ⟨RX5, TX5, 13, rfl, by decide, hin_X5_mayTrialBe_RX5, inM mq_2_3, rfl⟩
theorem fl_X5_mayTrialBe_69 : xFl vsX5_mayTrialBe RX5 69 1 0 := ⟨RX1, TX1, 14, rfl, by decide, hin_X5_mayTrialBe_RX1, inM mq_5_19, rfl⟩
theorem fl_X5_mayTrialBe_90 : xFl vsX5_mayTrialBe RX5 90 1 5 := ⟨RX1, TX1, 14, rfl, by decide, hin_X5_mayTrialBe_RX1, inM mq_7_13, rfl⟩
theorem fl_X5_mayTrialBe_123 : xFl vsX5_mayTrialBe RX5 123 1 4 := ⟨RX1, TX1, 14, rfl, by decide, hin_X5_mayTrialBe_RX1, inM mq_12_19, rfl⟩
theorem fl_X5_mayTrialBe_129 : xFl vsX5_mayTrialBe RX5 129 1 6 := ⟨RX1, TX1, 14, rfl, by decide, hin_X5_mayTrialBe_RX1, inM mq_13_11, rfl⟩
theorem fl_X5_mayTrialBe_178 : xFl vsX5_mayTrialBe RX5 178 2 1 := ⟨RX2, TX2, 4, rfl, by decide, hin_X5_mayTrialBe_RX2, inM mq_25_14, rfl⟩
theorem fl_X5_mayTrialBe_301 : xFl vsX5_mayTrialBe RX5 301 1 7 := ⟨RX1, TX1, 14, rfl, by decide, hin_X5_mayTrialBe_RX1, inM mq_38_22, rfl⟩
theorem fl_X5_mayTrialBe_304 : xFl vsX5_mayTrialBe RX5 304 1 8 := ⟨RX1, TX1, 14, rfl, by decide, hin_X5_mayTrialBe_RX1, inM mq_38_23, rfl⟩
theorem fl_X5_mayTrialBe_315 : xFl vsX5_mayTrialBe RX5 315 2 2 := ⟨RX2, TX2, 4, rfl, by decide, hin_X5_mayTrialBe_RX2, inM mq_27_20, rfl⟩
theorem nyS_X5_mayTrialBe : yX5_mayTrialBe.cls ≠ "java/lang/invoke/MethodHandle" ∧ yX5_mayTrialBe.cls ≠ "java/lang/invoke/VarHandle" ∧ (parseMethodDescriptor yX5_mayTrialBe.desc).map (fun d => d.parameters.length) = some 0 := by decide +kernel
theorem nyV_X5_mayTrialBe : yX5_mayTrialBe.cls = RX5 ∧ yX5_mayTrialBe.cls ≠ "java/lang/invoke/MethodHandle" ∧ yX5_mayTrialBe.cls ≠ "java/lang/invoke/VarHandle" ∧ (parseMethodDescriptor yX5_mayTrialBe.desc).map (fun d => d.parameters.length) = some 0 := by decide +kernel
set_option maxHeartbeats 4000000 in
set_option maxRecDepth 100000 in
theorem w_X5_mayTrialBe {G : xG} {p : Program} {l : Launch} {e : Env} {s : State} {m : MethodId} {args : Array Value} {below : List Frame} {meth : Method} {c : Code} (C : xK G p s m args meth c cX5_mayTrialBe 4 vsX5_mayTrialBe RX5 (some .boolean)) (r : Int) (S' : xS) : ∀ k : Nat,
  (∀ (S : xS) (p0 : Nat) (i0 i1 : Int) (H : Heap) (locs : List Loc) (ls : Array Slot), g_X5_mayTrialBe k 0 S p0 i0 i1 = some (r, S') → xI G S s H locs → lv_has ls 4 [(0, .ref (xB G + p0))] → W p l e rm_X5_mayTrialBe s m args below meth c H locs 0 0 (MQ below (xQi G r S') args s 0 0 (xA G)) (F0 m 0 ls [])) ∧
  (∀ (S : xS) (p0 : Nat) (i0 i1 : Int) (H : Heap) (locs : List Loc) (ls : Array Slot), g_X5_mayTrialBe k 1 S p0 i0 i1 = some (r, S') → xI G S s H locs → lv_has ls 4 [(0, .ref (xB G + p0)), (1, .int (iI i0))] → W p l e rm_X5_mayTrialBe s m args below meth c H locs 0 0 (MQ below (xQi G r S') args s 0 0 (xA G)) (F0 m 2 ls [])) ∧
  (∀ (S : xS) (p0 : Nat) (i0 i1 : Int) (H : Heap) (locs : List Loc) (ls : Array Slot), g_X5_mayTrialBe k 2 S p0 i0 i1 = some (r, S') → xI G S s H locs → lv_has ls 4 [(0, .ref (xB G + p0)), (1, .int (iI i0))] → W p l e rm_X5_mayTrialBe s m args below meth c H locs 0 0 (MQ below (xQi G r S') args s 0 0 (xA G)) (F0 m 46 ls [])) ∧
  (∀ (S : xS) (p0 : Nat) (i0 i1 : Int) (H : Heap) (locs : List Loc) (ls : Array Slot), g_X5_mayTrialBe k 3 S p0 i0 i1 = some (r, S') → xI G S s H locs → lv_has ls 4 [(0, .ref (xB G + p0)), (1, .int (iI i0))] → W p l e rm_X5_mayTrialBe s m args below meth c H locs 0 0 (MQ below (xQi G r S') args s 0 0 (xA G)) (F0 m 54 ls [])) ∧
  (∀ (S : xS) (p0 : Nat) (i0 i1 : Int) (H : Heap) (locs : List Loc) (ls : Array Slot), g_X5_mayTrialBe k 4 S p0 i0 i1 = some (r, S') → xI G S s H locs → lv_has ls 4 [(0, .ref (xB G + p0)), (1, .int (iI i0))] → W p l e rm_X5_mayTrialBe s m args below meth c H locs 0 0 (MQ below (xQi G r S') args s 0 0 (xA G)) (F0 m 121 ls [.int (iI i1)])) := by
  intro k
  induction k with
  | zero => exact ⟨fun _ _ _ _ _ _ _ hf => (by cases hf), fun _ _ _ _ _ _ _ hf => (by cases hf), fun _ _ _ _ _ _ _ hf => (by cases hf), fun _ _ _ _ _ _ _ hf => (by cases hf), fun _ _ _ _ _ _ _ hf => (by cases hf)⟩
  | succ fu ih =>
    obtain ⟨ih0, ih1, ih2, ih3, ih4⟩ := ih
    refine ⟨?_, ?_, ?_, ?_, ?_⟩
    · intro S p0 i0 i1 H locs ls hf I hl
      replace hf : b_X5_mayTrialBe_0 (g_X5_mayTrialBe fu) fu S p0 i0 i1 = some (r, S') := hf
      unfold b_X5_mayTrialBe_0 at hf
      refine kx_iconst 0 C dX5_mayTrialBe_0 ?_
      refine kx_istore_n 1 C (lv' := [(1, .int (iI 0)), (0, .ref (xB G + p0))]) dX5_mayTrialBe_1 hl (by decide) rfl rfl (fun ls hl => ?_)
      exact ih1 _ _ _ _ _ _ _ hf I (lv_sub hl [1, 0] rfl)
    · intro S p0 i0 i1 H locs ls hf I hl
      replace hf : b_X5_mayTrialBe_1 (g_X5_mayTrialBe fu) fu S p0 i0 i1 = some (r, S') := hf
      unfold b_X5_mayTrialBe_1 at hf
      refine kx_iload_n 2 C dX5_mayTrialBe_2 (lv_at hl 1 rfl) ?_
      refine kx_aload_n 3 C dX5_mayTrialBe_3 (lv_at hl 0 rfl) ?_
      obtain ⟨q2, h1, hf⟩ := ob hf
      refine kx_getp 4 C I fl_X5_mayTrialBe_10 h1 dX5_mayTrialBe_4 ?_
      obtain ⟨x4, h3, hf⟩ := ob hf
      refine kx_geti 7 C I fl_X5_mayTrialBe_69 h3 dX5_mayTrialBe_7 ?_
      refine kx_icmp_ge 10 52 C dX5_mayTrialBe_10 (by decide) (fun c5 => ?_) (fun c5 => ?_)
      · have hf := ifp c5 hf
        refine kx_iconst 52 C dX5_mayTrialBe_52 ?_
        refine kx_istore_n 53 C (lv' := [(1, .int (iI 0)), (0, .ref (xB G + p0))]) dX5_mayTrialBe_53 hl (by decide) rfl rfl (fun ls hl => ?_)
        exact ih3 _ _ _ _ _ _ _ hf I (lv_sub hl [1, 0] rfl)
      · have hf := ifn c5 hf
        refine kx_aload_n 13 C dX5_mayTrialBe_13 (lv_at hl 0 rfl) ?_
        obtain ⟨q7, h6, hf⟩ := ob hf
        refine kx_getp 14 C I fl_X5_mayTrialBe_10 h6 dX5_mayTrialBe_14 ?_
        obtain ⟨q9, h8, hf⟩ := ob hf
        refine kx_getp 17 C I fl_X5_mayTrialBe_123 h8 dX5_mayTrialBe_17 ?_
        refine kx_iload_n 20 C dX5_mayTrialBe_20 (lv_at hl 1 rfl) ?_
        obtain ⟨x10, h11, hf⟩ := ob hf
        refine kx_iald 21 C I h11 dX5_mayTrialBe_21 ?_
        refine kx_iconst 22 C dX5_mayTrialBe_22 ?_
        refine kx_icmp_eq 23 46 C dX5_mayTrialBe_23 (by decide) (fun c12 => ?_) (fun c12 => ?_)
        · have hf := ifp c12 hf
          exact ih2 _ _ _ _ _ _ _ hf I (lv_sub hl [0, 1] rfl)
        · have hf := ifn c12 hf
          refine kx_aload_n 26 C dX5_mayTrialBe_26 (lv_at hl 0 rfl) ?_
          obtain ⟨q14, h13, hf⟩ := ob hf
          refine kx_getp 27 C I fl_X5_mayTrialBe_10 h13 dX5_mayTrialBe_27 ?_
          obtain ⟨q16, h15, hf⟩ := ob hf
          refine kx_getp 30 C I fl_X5_mayTrialBe_123 h15 dX5_mayTrialBe_30 ?_
          refine kx_iload_n 33 C dX5_mayTrialBe_33 (lv_at hl 1 rfl) ?_
          obtain ⟨x17, h18, hf⟩ := ob hf
          refine kx_iald 34 C I h18 dX5_mayTrialBe_34 ?_
          refine kx_aload_n 35 C dX5_mayTrialBe_35 (lv_at hl 0 rfl) ?_
          obtain ⟨q20, h19, hf⟩ := ob hf
          refine kx_getp 36 C I fl_X5_mayTrialBe_37 h19 dX5_mayTrialBe_36 ?_
          refine kx_iload_n 39 C dX5_mayTrialBe_39 (lv_at hl 1 rfl) ?_
          obtain ⟨x21, h22, hf⟩ := ob hf
          refine kx_iald 40 C I h22 dX5_mayTrialBe_40 ?_
          refine kx_icmp_eq 41 46 C dX5_mayTrialBe_41 (by decide) (fun c23 => ?_) (fun c23 => ?_)
          · have hf := ifp c23 hf
            exact ih2 _ _ _ _ _ _ _ hf I (lv_sub hl [0, 1] rfl)
          · have hf := ifn c23 hf
            refine kx_iconst 44 C dX5_mayTrialBe_44 ?_
            exact kx_zret 45 C I (by decide) hf dX5_mayTrialBe_45
    · intro S p0 i0 i1 H locs ls hf I hl
      replace hf : b_X5_mayTrialBe_2 (g_X5_mayTrialBe fu) fu S p0 i0 i1 = some (r, S') := hf
      unfold b_X5_mayTrialBe_2 at hf
      obtain ⟨x24, e25, hf⟩ := nmx_e hf
      refine kx_iinc 46 C (lv' := [(1, .int (iI x24)), (0, .ref (xB G + p0))]) dX5_mayTrialBe_46 hl 1 rfl e25 (by decide) rfl (fun ls hl => ?_)
      refine kx_goto 49 2 C dX5_mayTrialBe_49 (by decide) ?_
      exact ih1 _ _ _ _ _ _ _ hf I (lv_sub hl [1, 0] rfl)
    · intro S p0 i0 i1 H locs ls hf I hl
      replace hf : b_X5_mayTrialBe_3 (g_X5_mayTrialBe fu) fu S p0 i0 i1 = some (r, S') := hf
      unfold b_X5_mayTrialBe_3 at hf
      refine kx_iload_n 54 C dX5_mayTrialBe_54 (lv_at hl 1 rfl) ?_
      refine kx_aload_n 55 C dX5_mayTrialBe_55 (lv_at hl 0 rfl) ?_
      obtain ⟨q27, h26, hf⟩ := ob hf
      refine kx_getp 56 C I fl_X5_mayTrialBe_10 h26 dX5_mayTrialBe_56 ?_
      obtain ⟨x29, h28, hf⟩ := ob hf
      refine kx_geti 59 C I fl_X5_mayTrialBe_129 h28 dX5_mayTrialBe_59 ?_
      refine kx_icmp_ge 62 143 C dX5_mayTrialBe_62 (by decide) (fun c30 => ?_) (fun c30 => ?_)
      · have hf := ifp c30 hf
        refine kx_iconst 143 C dX5_mayTrialBe_143 ?_
        exact kx_zret 144 C I (by decide) hf dX5_mayTrialBe_144
      · have hf := ifn c30 hf
        refine kx_aload_n 65 C dX5_mayTrialBe_65 (lv_at hl 0 rfl) ?_
        obtain ⟨q32, h31, hf⟩ := ob hf
        refine kx_getp 66 C I fl_X5_mayTrialBe_10 h31 dX5_mayTrialBe_66 ?_
        obtain ⟨q34, h33, hf⟩ := ob hf
        refine kx_getp 69 C I fl_X5_mayTrialBe_301 h33 dX5_mayTrialBe_69 ?_
        refine kx_iload_n 72 C dX5_mayTrialBe_72 (lv_at hl 1 rfl) ?_
        obtain ⟨x35, h36, hf⟩ := ob hf
        refine kx_iald 73 C I h36 dX5_mayTrialBe_73 ?_
        refine kx_istore_n 74 C (lv' := [(2, .int (iI x35)), (0, .ref (xB G + p0)), (1, .int (iI i0))]) dX5_mayTrialBe_74 hl (by decide) rfl rfl (fun ls hl => ?_)
        refine kx_aload_n 75 C dX5_mayTrialBe_75 (lv_at hl 1 rfl) ?_
        obtain ⟨q38, h37, hf⟩ := ob hf
        refine kx_getp 76 C I fl_X5_mayTrialBe_33 h37 dX5_mayTrialBe_76 ?_
        refine kx_aload_n 79 C dX5_mayTrialBe_79 (lv_at hl 1 rfl) ?_
        obtain ⟨q40, h39, hf⟩ := ob hf
        refine kx_getp 80 C I fl_X5_mayTrialBe_10 h39 dX5_mayTrialBe_80 ?_
        refine kx_aload_n 83 C dX5_mayTrialBe_83 (lv_at hl 1 rfl) ?_
        obtain ⟨q42, h41, hf⟩ := ob hf
        refine kx_getp 84 C I fl_X5_mayTrialBe_37 h41 dX5_mayTrialBe_84 ?_
        refine kx_iload_n 87 C dX5_mayTrialBe_87 (lv_at hl 0 rfl) ?_
        refine kx_aload_n 88 C dX5_mayTrialBe_88 (lv_at hl 1 rfl) ?_
        obtain ⟨q44, h43, hf⟩ := ob hf
        refine kx_getp 89 C I fl_X5_mayTrialBe_10 h43 dX5_mayTrialBe_89 ?_
        obtain ⟨q46, h45, hf⟩ := ob hf
        refine kx_getp 92 C I fl_X5_mayTrialBe_90 h45 dX5_mayTrialBe_92 ?_
        refine kx_iload_n 95 C dX5_mayTrialBe_95 (lv_at hl 0 rfl) ?_
        obtain ⟨x47, h48, hf⟩ := ob hf
        refine kx_iald 96 C I h48 dX5_mayTrialBe_96 ?_
        obtain ⟨h52, hf⟩ := ift hf
        obtain ⟨z51, S49, h50, hf⟩ := ob2 hf
        refine kx_callVv 97 C hl I (ci := 2) (As := [.ref (xB G + q40), .ref (xB G + q42), .int (iI x35), .int (iI x47)]) (rest := []) (c_X2_seek G l fu _ _ _ _ _ _ _ _ h50) (cwV 4 C.ts gX5_mayTrialBe_X2_seek rfl rfl rfl nyV_X2_seek ⟨Nat.le_of_ble_eq_true rfl, Nat.le_of_ble_eq_true rfl⟩) rfl h52 rfl rfl (Nat.le_of_ble_eq_true rfl) dX5_mayTrialBe_97 ⟨Nat.le_of_ble_eq_true rfl, Nat.le_of_ble_eq_true rfl⟩ (fun H locs I => ?_)
        refine kx_aload_n 100 C dX5_mayTrialBe_100 (lv_at hl 1 rfl) ?_
        obtain ⟨q54, h53, hf⟩ := ob hf
        refine kx_getp 101 C I fl_X5_mayTrialBe_33 h53 dX5_mayTrialBe_101 ?_
        obtain ⟨x56, h55, hf⟩ := ob hf
        refine kx_geti 104 C I fl_X5_mayTrialBe_315 h55 dX5_mayTrialBe_104 ?_
        refine kx_if_eq 107 120 C dX5_mayTrialBe_107 (by decide) (fun c57 => ?_) (fun c57 => ?_)
        · have hf := ifp c57 hf
          refine kx_iconst 120 C dX5_mayTrialBe_120 ?_
          exact ih4 _ _ _ _ _ _ _ hf I (lv_sub hl [1, 2] rfl)
        · have hf := ifn c57 hf
          refine kx_aload_n 110 C dX5_mayTrialBe_110 (lv_at hl 1 rfl) ?_
          obtain ⟨q59, h58, hf⟩ := ob hf
          refine kx_getp 111 C I fl_X5_mayTrialBe_33 h58 dX5_mayTrialBe_111 ?_
          obtain ⟨x61, h60, hf⟩ := ob hf
          refine kx_geti 114 C I fl_X5_mayTrialBe_178 h60 dX5_mayTrialBe_114 ?_
          refine kx_goto 117 121 C dX5_mayTrialBe_117 (by decide) ?_
          exact ih4 _ _ _ _ _ _ _ hf I (lv_sub hl [1, 2] rfl)
    · intro S p0 i0 i1 H locs ls hf I hl
      replace hf : b_X5_mayTrialBe_4 (g_X5_mayTrialBe fu) fu S p0 i0 i1 = some (r, S') := hf
      unfold b_X5_mayTrialBe_4 at hf
      refine kx_istore_n 121 C (lv' := [(3, .int (iI i1)), (0, .ref (xB G + p0)), (1, .int (iI i0))]) dX5_mayTrialBe_121 hl (by decide) rfl rfl (fun ls hl => ?_)
      refine kx_iload_n 122 C dX5_mayTrialBe_122 (lv_at hl 0 rfl) ?_
      refine kx_aload_n 123 C dX5_mayTrialBe_123 (lv_at hl 1 rfl) ?_
      obtain ⟨q63, h62, hf⟩ := ob hf
      refine kx_getp 124 C I fl_X5_mayTrialBe_10 h62 dX5_mayTrialBe_124 ?_
      obtain ⟨q65, h64, hf⟩ := ob hf
      refine kx_getp 127 C I fl_X5_mayTrialBe_304 h64 dX5_mayTrialBe_127 ?_
      refine kx_iload_n 130 C dX5_mayTrialBe_130 (lv_at hl 2 rfl) ?_
      obtain ⟨x66, h67, hf⟩ := ob hf
      refine kx_iald 131 C I h67 dX5_mayTrialBe_131 ?_
      refine kx_icmp_eq 132 137 C dX5_mayTrialBe_132 (by decide) (fun c68 => ?_) (fun c68 => ?_)
      · have hf := ifp c68 hf
        obtain ⟨x69, e70, hf⟩ := nmx_e hf
        refine kx_iinc 137 C (lv' := [(1, .int (iI x69)), (3, .int (iI i1)), (0, .ref (xB G + p0))]) dX5_mayTrialBe_137 hl 2 rfl e70 (by decide) rfl (fun ls hl => ?_)
        refine kx_goto 140 54 C dX5_mayTrialBe_140 (by decide) ?_
        exact ih3 _ _ _ _ _ _ _ hf I (lv_sub hl [2, 0] rfl)
      · have hf := ifn c68 hf
        refine kx_iconst 135 C dX5_mayTrialBe_135 ?_
        exact kx_zret 136 C I (by decide) hf dX5_mayTrialBe_136
set_option maxHeartbeats 4000000 in
set_option maxRecDepth 100000 in
theorem c_X5_mayTrialBe (G : xG) (l : Launch) (fu : Nat) (S S' : xS) (p0 : Nat) (r : Int) (hf : f_X5_mayTrialBe fu S p0 = some (r, S')) : Met l yX5_mayTrialBe vsX5_mayTrialBe rm_X5_mayTrialBe (va_Pc [.ref (xB G + p0)] (xPre G S)) (xQi G r S') 0 0 (xA G) := by
  refine kx_met (ret := (some .boolean)) RX5 [(0, .ref (xB G + p0))] (by decide) rfl rfl (Nat.le_of_ble_eq_true rfl) rfl (fun p e s m below meth c ls C hin I hl => ?_)
  exact (w_X5_mayTrialBe C r S' fu).1 S _ _ _ _ _ _ hf I hl
def rm_X5_mayBe : Room := { frames := 4, cells := 0, slots := 0, locals := 98 }
theorem hin_X5_mayBe_RX1 : ∀ w ∈ wsX10, w ∈ vsX5_mayBe := fun w h => inM (inlX1 w h)
theorem hin_X5_mayBe_RX5 : ∀ w ∈ wsX50, w ∈ vsX5_mayBe := fun w h => inM (inlX5 w h)
theorem fl_X5_mayBe_10 : xFl vsX5_mayBe RX5 10 4 0 := ⟨RX5, TX5, 13, rfl, by decide, hin_X5_mayBe_RX5, inM mq_1_15, rfl⟩
theorem fl_X5_mayBe_37 : xFl vsX5_mayBe RX5 37 4 5 := ⟨RX5, TX5, 13, rfl, by decide, hin_X5_mayBe_RX5, inM mq_2_3, rfl⟩
theorem fl_X5_mayBe_69 : xFl vsX5_mayBe RX5 69 1 0 := ⟨RX1, TX1, 14, rfl, by decide, hin_X5_mayBe_RX1, inM mq_5_19, rfl⟩
theorem mw_X5_mayBe_0 : Cond.fieldLink RX5 201 "BoxRings" "WAYS_OF" "[I" ∈ vsX5_mayBe := inM mq_10_21
theorem nyS_X5_mayBe : yX5_mayBe.cls ≠ "java/lang/invoke/MethodHandle" ∧ yX5_mayBe.cls ≠ "java/lang/invoke/VarHandle" ∧ (parseMethodDescriptor yX5_mayBe.desc).map (fun d => d.parameters.length) = some 1 := by decide +kernel
theorem nyV_X5_mayBe : yX5_mayBe.cls = RX5 ∧ yX5_mayBe.cls ≠ "java/lang/invoke/MethodHandle" ∧ yX5_mayBe.cls ≠ "java/lang/invoke/VarHandle" ∧ (parseMethodDescriptor yX5_mayBe.desc).map (fun d => d.parameters.length) = some 1 := by decide +kernel
set_option maxHeartbeats 4000000 in
set_option maxRecDepth 100000 in
theorem w_X5_mayBe {G : xG} {p : Program} {l : Launch} {e : Env} {s : State} {m : MethodId} {args : Array Value} {below : List Frame} {meth : Method} {c : Code} (C : xK G p s m args meth c cX5_mayBe 5 vsX5_mayBe RX5 (some .int)) (r : Int) (S' : xS) : ∀ k : Nat,
  (∀ (S : xS) (p0 : Nat) (i0 i1 i2 i3 : Int) (H : Heap) (locs : List Loc) (ls : Array Slot), g_X5_mayBe k 0 S p0 i0 i1 i2 i3 = some (r, S') → xI G S s H locs → lv_has ls 5 [(0, .ref (xB G + p0)), (1, .int (iI i0))] → W p l e rm_X5_mayBe s m args below meth c H locs 0 0 (MQ below (xQi G r S') args s 0 0 (xA G)) (F0 m 0 ls [])) ∧
  (∀ (S : xS) (p0 : Nat) (i0 i1 i2 i3 : Int) (H : Heap) (locs : List Loc) (ls : Array Slot), g_X5_mayBe k 1 S p0 i0 i1 i2 i3 = some (r, S') → xI G S s H locs → lv_has ls 5 [(0, .ref (xB G + p0)), (1, .int (iI i0)), (2, .int (iI i1)), (3, .int (iI i2)), (4, .int (iI i3))] → W p l e rm_X5_mayBe s m args below meth c H locs 0 0 (MQ below (xQi G r S') args s 0 0 (xA G)) (F0 m 31 ls [])) ∧
  (∀ (S : xS) (p0 : Nat) (i0 i1 i2 i3 : Int) (H : Heap) (locs : List Loc) (ls : Array Slot), g_X5_mayBe k 2 S p0 i0 i1 i2 i3 = some (r, S') → xI G S s H locs → lv_has ls 5 [(0, .ref (xB G + p0)), (1, .int (iI i0)), (2, .int (iI i1)), (3, .int (iI i2)), (4, .int (iI i3))] → W p l e rm_X5_mayBe s m args below meth c H locs 0 0 (MQ below (xQi G r S') args s 0 0 (xA G)) (F0 m 59 ls [])) := by
  intro k
  induction k with
  | zero => exact ⟨fun _ _ _ _ _ _ _ _ _ hf => (by cases hf), fun _ _ _ _ _ _ _ _ _ hf => (by cases hf), fun _ _ _ _ _ _ _ _ _ hf => (by cases hf)⟩
  | succ fu ih =>
    obtain ⟨ih0, ih1, ih2⟩ := ih
    refine ⟨?_, ?_, ?_⟩
    · intro S p0 i0 i1 i2 i3 H locs ls hf I hl
      replace hf : b_X5_mayBe_0 (g_X5_mayBe fu) fu S p0 i0 i1 i2 i3 = some (r, S') := hf
      unfold b_X5_mayBe_0 at hf
      refine kx_iload_n 0 C dX5_mayBe_0 (lv_at hl 1 rfl) ?_
      refine kx_iconst 1 C dX5_mayBe_1 ?_
      refine kx_icmp_ge 2 10 C dX5_mayBe_2 (by decide) (fun c1 => ?_) (fun c1 => ?_)
      · have hf := ifp c1 hf
        refine kx_aload_n 10 C dX5_mayBe_10 (lv_at hl 0 rfl) ?_
        obtain ⟨q3, h2, hf⟩ := ob hf
        refine kx_getp 11 C I fl_X5_mayBe_10 h2 dX5_mayBe_11 ?_
        obtain ⟨x5, h4, hf⟩ := ob hf
        refine kx_geti 14 C I fl_X5_mayBe_69 h4 dX5_mayBe_14 ?_
        refine kx_istore_n 17 C (lv' := [(2, .int (iI x5)), (0, .ref (xB G + p0)), (1, .int (iI i0))]) dX5_mayBe_17 hl (by decide) rfl rfl (fun ls hl => ?_)
        refine kx_iconst 18 C dX5_mayBe_18 ?_
        refine kx_istore_n 19 C (lv' := [(3, .int (iI 0)), (2, .int (iI x5)), (0, .ref (xB G + p0)), (1, .int (iI i0))]) dX5_mayBe_19 hl (by decide) rfl rfl (fun ls hl => ?_)
        refine kx_aload_n 20 C dX5_mayBe_20 (lv_at hl 2 rfl) ?_
        obtain ⟨q7, h6, hf⟩ := ob hf
        refine kx_getp 21 C I fl_X5_mayBe_37 h6 dX5_mayBe_21 ?_
        refine kx_iload_n 24 C dX5_mayBe_24 (lv_at hl 1 rfl) ?_
        obtain ⟨z10, S8, h9, hf⟩ := ob2 hf
        refine kx_callSv 25 C hl I (As := [.ref (xB G + q7), .int (iI x5)]) (rest := []) (c_X4_setToFirst G l fu _ _ _ _ _ h9) (va_cwS 2 C.ts gX5_mayBe_X4_setToFirst rfl rfl rfl nyS_X4_setToFirst ⟨Nat.le_of_ble_eq_true rfl, Nat.le_of_ble_eq_true rfl⟩) rfl rfl (Nat.le_of_ble_eq_true rfl) dX5_mayBe_25 ⟨Nat.le_of_ble_eq_true rfl, Nat.le_of_ble_eq_true rfl⟩ (fun H locs I => ?_)
        refine kx_iconst 28 C dX5_mayBe_28 ?_
        refine kx_istore 29 C (lv' := [(4, .int (iI 0)), (3, .int (iI 0)), (2, .int (iI x5)), (0, .ref (xB G + p0)), (1, .int (iI i0))]) dX5_mayBe_29 hl (by decide) rfl rfl (fun ls hl => ?_)
        exact ih1 _ _ _ _ _ _ _ _ _ hf I (lv_sub hl [3, 4, 2, 1, 0] rfl)
      · have hf := ifn c1 hf
        refine kx_aload_n 5 C dX5_mayBe_5 (lv_at hl 0 rfl) ?_
        obtain ⟨h14, hf⟩ := ift hf
        obtain ⟨x13, S11, h12, hf⟩ := ob2 hf
        refine kx_callVi 6 C hl I (ci := 4) (As := []) (rest := []) (c_X5_refuseQuestion G l fu _ _ _ _ h12) (cwV 0 C.ts gX5_mayBe_X5_refuseQuestion rfl rfl rfl nyV_X5_refuseQuestion ⟨Nat.le_of_ble_eq_true rfl, Nat.le_of_ble_eq_true rfl⟩) rfl h14 rfl rfl (Nat.le_of_ble_eq_true rfl) dX5_mayBe_6 ⟨Nat.le_of_ble_eq_true rfl, Nat.le_of_ble_eq_true rfl⟩ (fun H locs I => ?_)
        exact kx_iret 9 C I hf dX5_mayBe_9
    · intro S p0 i0 i1 i2 i3 H locs ls hf I hl
      replace hf : b_X5_mayBe_1 (g_X5_mayBe fu) fu S p0 i0 i1 i2 i3 = some (r, S') := hf
      unfold b_X5_mayBe_1 at hf
      refine kx_iload 31 C dX5_mayBe_31 (lv_at hl 4 rfl) ?_
      refine kx_gets 33 C I mw_X5_mayBe_0 dX5_mayBe_33 ?_
      refine kx_iload_n 36 C dX5_mayBe_36 (lv_at hl 2 rfl) ?_
      obtain ⟨x15, h16, hf⟩ := ob hf
      refine kx_tab 37 C I h16 dX5_mayBe_37 ?_
      refine kx_icmp_ge 38 73 C dX5_mayBe_38 (by decide) (fun c17 => ?_) (fun c17 => ?_)
      · have hf := ifp c17 hf
        refine kx_iload_n 73 C dX5_mayBe_73 (lv_at hl 1 rfl) ?_
        refine kx_iconst 74 C dX5_mayBe_74 ?_
        refine kx_icmp_ne 75 82 C dX5_mayBe_75 (by decide) (fun c18 => ?_) (fun c18 => ?_)
        · have hf := ifn c18 hf
          refine kx_bipush 82 C dX5_mayBe_82 (by decide) ?_
          exact kx_iret 84 C I hf dX5_mayBe_84
        · have hf := ifp c18 hf
          refine kx_iload_n 78 C dX5_mayBe_78 (lv_at hl 3 rfl) ?_
          refine kx_goto 79 84 C dX5_mayBe_79 (by decide) ?_
          exact kx_iret 84 C I hf dX5_mayBe_84
      · have hf := ifn c17 hf
        refine kx_aload_n 41 C dX5_mayBe_41 (lv_at hl 0 rfl) ?_
        obtain ⟨h22, hf⟩ := ift hf
        obtain ⟨x21, S19, h20, hf⟩ := ob2 hf
        refine kx_callVi 42 C hl I (ci := 4) (As := []) (rest := []) (c_X5_mayTrialBe G l fu _ _ _ _ h20) (cwV 0 C.ts gX5_mayBe_X5_mayTrialBe rfl rfl rfl nyV_X5_mayTrialBe ⟨Nat.le_of_ble_eq_true rfl, Nat.le_of_ble_eq_true rfl⟩) rfl h22 rfl rfl (Nat.le_of_ble_eq_true rfl) dX5_mayBe_42 ⟨Nat.le_of_ble_eq_true rfl, Nat.le_of_ble_eq_true rfl⟩ (fun H locs I => ?_)
        refine kx_if_eq 45 59 C dX5_mayBe_45 (by decide) (fun c23 => ?_) (fun c23 => ?_)
        · have hf := ifp c23 hf
          exact ih2 _ _ _ _ _ _ _ _ _ hf I (lv_sub hl [0, 1, 2, 3, 4] rfl)
        · have hf := ifn c23 hf
          refine kx_iload_n 48 C dX5_mayBe_48 (lv_at hl 3 rfl) ?_
          refine kx_iload_n 49 C dX5_mayBe_49 (lv_at hl 1 rfl) ?_
          refine kx_icmp_ne 50 56 C dX5_mayBe_50 (by decide) (fun c24 => ?_) (fun c24 => ?_)
          · have hf := ifn c24 hf
            obtain ⟨x25, e26, hf⟩ := nmx_e hf
            refine kx_iinc 56 C (lv' := [(3, .int (iI x25)), (0, .ref (xB G + p0)), (1, .int (iI i0)), (2, .int (iI i1)), (4, .int (iI i3))]) dX5_mayBe_56 hl 3 rfl e26 (by decide) rfl (fun ls hl => ?_)
            exact ih2 _ _ _ _ _ _ _ _ _ hf I (lv_sub hl [1, 2, 3, 0, 4] rfl)
          · have hf := ifp c24 hf
            refine kx_iload 53 C dX5_mayBe_53 (lv_at hl 4 rfl) ?_
            exact kx_iret 55 C I hf dX5_mayBe_55
    · intro S p0 i0 i1 i2 i3 H locs ls hf I hl
      replace hf : b_X5_mayBe_2 (g_X5_mayBe fu) fu S p0 i0 i1 i2 i3 = some (r, S') := hf
      unfold b_X5_mayBe_2 at hf
      refine kx_aload_n 59 C dX5_mayBe_59 (lv_at hl 0 rfl) ?_
      obtain ⟨q28, h27, hf⟩ := ob hf
      refine kx_getp 60 C I fl_X5_mayBe_37 h27 dX5_mayBe_60 ?_
      refine kx_iload_n 63 C dX5_mayBe_63 (lv_at hl 2 rfl) ?_
      obtain ⟨z31, S29, h30, hf⟩ := ob2 hf
      refine kx_callSv 64 C hl I (As := [.ref (xB G + q28), .int (iI i1)]) (rest := []) (c_X4_setToNext G l fu _ _ _ _ _ h30) (va_cwS 2 C.ts gX5_mayBe_X4_setToNext rfl rfl rfl nyS_X4_setToNext ⟨Nat.le_of_ble_eq_true rfl, Nat.le_of_ble_eq_true rfl⟩) rfl rfl (Nat.le_of_ble_eq_true rfl) dX5_mayBe_64 ⟨Nat.le_of_ble_eq_true rfl, Nat.le_of_ble_eq_true rfl⟩ (fun H locs I => ?_)
      obtain ⟨x32, e33, hf⟩ := nmx_e hf
      refine kx_iinc 67 C (lv' := [(4, .int (iI x32)), (0, .ref (xB G + p0)), (1, .int (iI i0)), (2, .int (iI i1)), (3, .int (iI i2))]) dX5_mayBe_67 hl 4 rfl e33 (by decide) rfl (fun ls hl => ?_)
      refine kx_goto 70 31 C dX5_mayBe_70 (by decide) ?_
      exact ih1 _ _ _ _ _ _ _ _ _ hf I (lv_sub hl [1, 2, 3, 4, 0] rfl)
set_option maxHeartbeats 4000000 in
set_option maxRecDepth 100000 in
theorem c_X5_mayBe (G : xG) (l : Launch) (fu : Nat) (S S' : xS) (p0 : Nat) (i0 : Int) (r : Int) (hf : f_X5_mayBe fu S p0 i0 = some (r, S')) : Met l yX5_mayBe vsX5_mayBe rm_X5_mayBe (va_Pc [.ref (xB G + p0), .int (iI i0)] (xPre G S)) (xQi G r S') 0 0 (xA G) := by
  refine kx_met (ret := (some .int)) RX5 [(0, .ref (xB G + p0)), (1, .int (iI i0))] (by decide) rfl rfl (Nat.le_of_ble_eq_true rfl) rfl (fun p e s m below meth c ls C hin I hl => ?_)
  exact (w_X5_mayBe C r S' fu).1 S _ _ _ _ _ _ _ _ hf I hl
def rm_X5_setFraction : Room := { frames := 2, cells := 0, slots := 0, locals := 53 }
theorem hin_X5_setFraction_RX5 : ∀ w ∈ wsX50, w ∈ vsX5_setFraction := fun w h => inM (inlX5 w h)
theorem fl_X5_setFraction_48 : xFl vsX5_setFraction RX5 48 4 8 := ⟨RX5, TX5, 13, rfl, by decide, hin_X5_setFraction_RX5, inM mq_2_6, rfl⟩
theorem fl_X5_setFraction_52 : xFl vsX5_setFraction RX5 52 4 9 := ⟨RX5, TX5, 13, rfl, by decide, hin_X5_setFraction_RX5, inM mq_2_7, rfl⟩
theorem nyS_X5_setFraction : yX5_setFraction.cls ≠ "java/lang/invoke/MethodHandle" ∧ yX5_setFraction.cls ≠ "java/lang/invoke/VarHandle" ∧ (parseMethodDescriptor yX5_setFraction.desc).map (fun d => d.parameters.length) = some 2 := by decide +kernel
theorem nyV_X5_setFraction : yX5_setFraction.cls = RX5 ∧ yX5_setFraction.cls ≠ "java/lang/invoke/MethodHandle" ∧ yX5_setFraction.cls ≠ "java/lang/invoke/VarHandle" ∧ (parseMethodDescriptor yX5_setFraction.desc).map (fun d => d.parameters.length) = some 2 := by decide +kernel
set_option maxHeartbeats 4000000 in
set_option maxRecDepth 100000 in
theorem c_X5_setFraction (G : xG) (l : Launch) (fu : Nat) (S S' : xS) (p0 : Nat) (i0 : Int) (i1 : Int) (r : Int) (hf : f_X5_setFraction fu S p0 i0 i1 = some (r, S')) : Met l yX5_setFraction vsX5_setFraction rm_X5_setFraction (va_Pc [.ref (xB G + p0), .long (lI i0), .long (lI i1)] (xPre G S)) (xQv G S') 0 0 (xA G) := by
  refine kx_met (ret := none) RX5 [(0, .ref (xB G + p0)), (1, .long (lI i0)), (3, .long (lI i1))] (by decide) rfl rfl (Nat.le_of_ble_eq_true rfl) rfl (fun p e s m below meth c ls C hin I hl => ?_)
  unfold f_X5_setFraction at hf
  refine kx_lload_n 0 C dX5_setFraction_0 (lv_at hl 1 rfl) ?_
  refine kx_lload_n 1 C dX5_setFraction_1 (lv_at hl 2 rfl) ?_
  obtain ⟨x3, S1, h2, hf⟩ := ob2 hf
  refine kx_callSl 2 C hl I (As := [.long (lI i0), .long (lI i1)]) (rest := []) (c_X5_commonDivisor G l fu _ _ _ _ _ h2) (va_cwS 2 C.ts gX5_setFraction_X5_commonDivisor rfl rfl rfl nyS_X5_commonDivisor ⟨Nat.le_of_ble_eq_true rfl, Nat.le_of_ble_eq_true rfl⟩) rfl rfl (Nat.le_of_ble_eq_true rfl) dX5_setFraction_2 ⟨Nat.le_of_ble_eq_true rfl, Nat.le_of_ble_eq_true rfl⟩ (fun H locs I => ?_)
  refine kx_lstore 5 C (lv' := [(5, .long (lI x3)), (0, .ref (xB G + p0)), (1, .long (lI i0)), (3, .long (lI i1))]) dX5_setFraction_5 hl (by decide) rfl rfl (fun ls hl => ?_)
  refine kx_aload_n 7 C dX5_setFraction_7 (lv_at hl 1 rfl) ?_
  refine kx_lload_n 8 C dX5_setFraction_8 (lv_at hl 2 rfl) ?_
  refine kx_lload 9 C dX5_setFraction_9 (lv_at hl 0 rfl) ?_
  obtain ⟨h4, hf⟩ := ifz hf
  refine kx_ldiv 11 C dX5_setFraction_11 h4 ?_
  obtain ⟨S6, h5, hf⟩ := ob hf
  refine kx_putl 12 C I fl_X5_setFraction_48 fw_RX5_8 h5 dX5_setFraction_12 (fun H locs I => ?_)
  refine kx_aload_n 15 C dX5_setFraction_15 (lv_at hl 1 rfl) ?_
  refine kx_lload_n 16 C dX5_setFraction_16 (lv_at hl 3 rfl) ?_
  refine kx_lload 17 C dX5_setFraction_17 (lv_at hl 0 rfl) ?_
  obtain ⟨h7, hf⟩ := ifz hf
  refine kx_ldiv 19 C dX5_setFraction_19 h7 ?_
  obtain ⟨S9, h8, hf⟩ := ob hf
  refine kx_putl 20 C I fl_X5_setFraction_52 fw_RX5_9 h8 dX5_setFraction_20 (fun H locs I => ?_)
  exact kx_vret 23 C I hf dX5_setFraction_23
def rm_X5_chance : Room := { frames := 5, cells := 0, slots := 0, locals := 121 }
theorem hin_X5_chance_RX1 : ∀ w ∈ wsX10, w ∈ vsX5_chance := fun w h => inM (inlX1 w h)
theorem hin_X5_chance_RX5 : ∀ w ∈ wsX50, w ∈ vsX5_chance := fun w h => inM (inlX5 w h)
theorem fl_X5_chance_10 : xFl vsX5_chance RX5 10 4 0 := ⟨RX5, TX5, 13, rfl, by decide, hin_X5_chance_RX5, inM mq_1_15, rfl⟩
theorem fl_X5_chance_37 : xFl vsX5_chance RX5 37 4 5 := ⟨RX5, TX5, 13, rfl, by decide, hin_X5_chance_RX5, inM mq_2_3, rfl⟩
theorem fl_X5_chance_69 : xFl vsX5_chance RX5 69 1 0 := ⟨RX1, TX1, 14, rfl, by decide, hin_X5_chance_RX1, inM mq_5_19, rfl⟩
theorem mw_X5_chance_0 : Cond.fieldLink RX5 201 "BoxRings" "WAYS_OF" "[I" ∈ vsX5_chance := inM mq_10_21
theorem nyS_X5_chance : yX5_chance.cls ≠ "java/lang/invoke/MethodHandle" ∧ yX5_chance.cls ≠ "java/lang/invoke/VarHandle" ∧ (parseMethodDescriptor yX5_chance.desc).map (fun d => d.parameters.length) = some 1 := by decide +kernel
theorem nyV_X5_chance : yX5_chance.cls = RX5 ∧ yX5_chance.cls ≠ "java/lang/invoke/MethodHandle" ∧ yX5_chance.cls ≠ "java/lang/invoke/VarHandle" ∧ (parseMethodDescriptor yX5_chance.desc).map (fun d => d.parameters.length) = some 1 := by decide +kernel
set_option maxHeartbeats 4000000 in
set_option maxRecDepth 100000 in
theorem w_X5_chance {G : xG} {p : Program} {l : Launch} {e : Env} {s : State} {m : MethodId} {args : Array Value} {below : List Frame} {meth : Method} {c : Code} (C : xK G p s m args meth c cX5_chance 6 vsX5_chance RX5 (some .int)) (r : Int) (S' : xS) : ∀ k : Nat,
  (∀ (S : xS) (p0 : Nat) (i0 i1 i2 i3 i4 i5 : Int) (H : Heap) (locs : List Loc) (ls : Array Slot), g_X5_chance k 0 S p0 i0 i1 i2 i3 i4 i5 = some (r, S') → xI G S s H locs → lv_has ls 6 [(0, .ref (xB G + p0)), (1, .int (iI i0))] → W p l e rm_X5_chance s m args below meth c H locs 0 0 (MQ below (xQi G r S') args s 0 0 (xA G)) (F0 m 0 ls [])) ∧
  (∀ (S : xS) (p0 : Nat) (i0 i1 i2 i3 i4 i5 : Int) (H : Heap) (locs : List Loc) (ls : Array Slot), g_X5_chance k 1 S p0 i0 i1 i2 i3 i4 i5 = some (r, S') → xI G S s H locs → lv_has ls 6 [(0, .ref (xB G + p0))] → W p l e rm_X5_chance s m args below meth c H locs 0 0 (MQ below (xQi G r S') args s 0 0 (xA G)) (F0 m 19 ls [])) ∧
  (∀ (S : xS) (p0 : Nat) (i0 i1 i2 i3 i4 i5 : Int) (H : Heap) (locs : List Loc) (ls : Array Slot), g_X5_chance k 2 S p0 i0 i1 i2 i3 i4 i5 = some (r, S') → xI G S s H locs → lv_has ls 6 [(0, .ref (xB G + p0)), (1, .int (iI i0)), (2, .int (iI i1)), (3, .int (iI i2)), (4, .int (iI i3)), (5, .int (iI i4))] → W p l e rm_X5_chance s m args below meth c H locs 0 0 (MQ below (xQi G r S') args s 0 0 (xA G)) (F0 m 40 ls [])) ∧
  (∀ (S : xS) (p0 : Nat) (i0 i1 i2 i3 i4 i5 : Int) (H : Heap) (locs : List Loc) (ls : Array Slot), g_X5_chance k 3 S p0 i0 i1 i2 i3 i4 i5 = some (r, S') → xI G S s H locs → lv_has ls 6 [(0, .ref (xB G + p0)), (1, .int (iI i0)), (2, .int (iI i1)), (3, .int (iI i2)), (5, .int (iI i3))] → W p l e rm_X5_chance s m args below meth c H locs 0 0 (MQ below (xQi G r S') args s 0 0 (xA G)) (F0 m 79 ls [.int (iI i5), .int (iI i4)])) ∧
  (∀ (S : xS) (p0 : Nat) (i0 i1 i2 i3 i4 i5 : Int) (H : Heap) (locs : List Loc) (ls : Array Slot), g_X5_chance k 4 S p0 i0 i1 i2 i3 i4 i5 = some (r, S') → xI G S s H locs → lv_has ls 6 [(0, .ref (xB G + p0)), (1, .int (iI i0)), (2, .int (iI i1)), (3, .int (iI i2)), (4, .int (iI i3)), (5, .int (iI i4))] → W p l e rm_X5_chance s m args below meth c H locs 0 0 (MQ below (xQi G r S') args s 0 0 (xA G)) (F0 m 82 ls [])) := by
  intro k
  induction k with
  | zero => exact ⟨fun _ _ _ _ _ _ _ _ _ _ _ hf => (by cases hf), fun _ _ _ _ _ _ _ _ _ _ _ hf => (by cases hf), fun _ _ _ _ _ _ _ _ _ _ _ hf => (by cases hf), fun _ _ _ _ _ _ _ _ _ _ _ hf => (by cases hf), fun _ _ _ _ _ _ _ _ _ _ _ hf => (by cases hf)⟩
  | succ fu ih =>
    obtain ⟨ih0, ih1, ih2, ih3, ih4⟩ := ih
    refine ⟨?_, ?_, ?_, ?_, ?_⟩
    · intro S p0 i0 i1 i2 i3 i4 i5 H locs ls hf I hl
      replace hf : b_X5_chance_0 (g_X5_chance fu) fu S p0 i0 i1 i2 i3 i4 i5 = some (r, S') := hf
      unfold b_X5_chance_0 at hf
      refine kx_aload_n 0 C dX5_chance_0 (lv_at hl 0 rfl) ?_
      obtain ⟨q2, h1, hf⟩ := ob hf
      refine kx_getp 1 C I fl_X5_chance_10 h1 dX5_chance_1 ?_
      obtain ⟨x4, h3, hf⟩ := ob hf
      refine kx_geti 4 C I fl_X5_chance_69 h3 dX5_chance_4 ?_
      refine kx_istore_n 7 C (lv' := [(2, .int (iI x4)), (0, .ref (xB G + p0)), (1, .int (iI i0))]) dX5_chance_7 hl (by decide) rfl rfl (fun ls hl => ?_)
      refine kx_iload_n 8 C dX5_chance_8 (lv_at hl 2 rfl) ?_
      refine kx_if_lt 9 19 C dX5_chance_9 (by decide) (fun c5 => ?_) (fun c5 => ?_)
      · have hf := ifp c5 hf
        exact ih1 _ _ _ _ _ _ _ _ _ _ _ hf I (lv_sub hl [1] rfl)
      · have hf := ifn c5 hf
        refine kx_iload_n 12 C dX5_chance_12 (lv_at hl 2 rfl) ?_
        refine kx_iconst 13 C dX5_chance_13 ?_
        refine kx_iload_n 14 C dX5_chance_14 (lv_at hl 0 rfl) ?_
        refine kx_ishl 15 C dX5_chance_15 ?_
        refine kx_icmp_lt 16 24 C dX5_chance_16 (by decide) (fun c6 => ?_) (fun c6 => ?_)
        · have hf := ifp c6 hf
          refine kx_iconst 24 C dX5_chance_24 ?_
          refine kx_istore_n 25 C (lv' := [(3, .int (iI 0)), (2, .int (iI x4)), (0, .ref (xB G + p0)), (1, .int (iI i0))]) dX5_chance_25 hl (by decide) rfl rfl (fun ls hl => ?_)
          refine kx_iconst 26 C dX5_chance_26 ?_
          refine kx_istore 27 C (lv' := [(4, .int (iI 0)), (3, .int (iI 0)), (2, .int (iI x4)), (0, .ref (xB G + p0)), (1, .int (iI i0))]) dX5_chance_27 hl (by decide) rfl rfl (fun ls hl => ?_)
          refine kx_aload_n 29 C dX5_chance_29 (lv_at hl 3 rfl) ?_
          obtain ⟨q8, h7, hf⟩ := ob hf
          refine kx_getp 30 C I fl_X5_chance_37 h7 dX5_chance_30 ?_
          refine kx_iload_n 33 C dX5_chance_33 (lv_at hl 2 rfl) ?_
          obtain ⟨z11, S9, h10, hf⟩ := ob2 hf
          refine kx_callSv 34 C hl I (As := [.ref (xB G + q8), .int (iI x4)]) (rest := []) (c_X4_setToFirst G l fu _ _ _ _ _ h10) (va_cwS 2 C.ts gX5_chance_X4_setToFirst rfl rfl rfl nyS_X4_setToFirst ⟨Nat.le_of_ble_eq_true rfl, Nat.le_of_ble_eq_true rfl⟩) rfl rfl (Nat.le_of_ble_eq_true rfl) dX5_chance_34 ⟨Nat.le_of_ble_eq_true rfl, Nat.le_of_ble_eq_true rfl⟩ (fun H locs I => ?_)
          refine kx_iconst 37 C dX5_chance_37 ?_
          refine kx_istore 38 C (lv' := [(5, .int (iI 0)), (4, .int (iI 0)), (3, .int (iI 0)), (2, .int (iI x4)), (0, .ref (xB G + p0)), (1, .int (iI i0))]) dX5_chance_38 hl (by decide) rfl rfl (fun ls hl => ?_)
          exact ih2 _ _ _ _ _ _ _ _ _ _ _ hf I (lv_sub hl [4, 5, 3, 2, 1, 0] rfl)
        · have hf := ifn c6 hf
          exact ih1 _ _ _ _ _ _ _ _ _ _ _ hf I (lv_sub hl [1] rfl)
    · intro S p0 i0 i1 i2 i3 i4 i5 H locs ls hf I hl
      replace hf : b_X5_chance_1 (g_X5_chance fu) fu S p0 i0 i1 i2 i3 i4 i5 = some (r, S') := hf
      unfold b_X5_chance_1 at hf
      refine kx_aload_n 19 C dX5_chance_19 (lv_at hl 0 rfl) ?_
      obtain ⟨h15, hf⟩ := ift hf
      obtain ⟨x14, S12, h13, hf⟩ := ob2 hf
      refine kx_callVi 20 C hl I (ci := 4) (As := []) (rest := []) (c_X5_refuseBad G l fu _ _ _ _ h13) (cwV 0 C.ts gX5_chance_X5_refuseBad rfl rfl rfl nyV_X5_refuseBad ⟨Nat.le_of_ble_eq_true rfl, Nat.le_of_ble_eq_true rfl⟩) rfl h15 rfl rfl (Nat.le_of_ble_eq_true rfl) dX5_chance_20 ⟨Nat.le_of_ble_eq_true rfl, Nat.le_of_ble_eq_true rfl⟩ (fun H locs I => ?_)
      exact kx_iret 23 C I hf dX5_chance_23
    · intro S p0 i0 i1 i2 i3 i4 i5 H locs ls hf I hl
      replace hf : b_X5_chance_2 (g_X5_chance fu) fu S p0 i0 i1 i2 i3 i4 i5 = some (r, S') := hf
      unfold b_X5_chance_2 at hf
      refine kx_iload 40 C dX5_chance_40 (lv_at hl 5 rfl) ?_
      refine kx_gets 42 C I mw_X5_chance_0 dX5_chance_42 ?_
      refine kx_iload_n 45 C dX5_chance_45 (lv_at hl 2 rfl) ?_
      obtain ⟨x16, h17, hf⟩ := ob hf
      refine kx_tab 46 C I h17 dX5_chance_46 ?_
      refine kx_icmp_ge 47 96 C dX5_chance_47 (by decide) (fun c18 => ?_) (fun c18 => ?_)
      · have hf := ifp c18 hf
        refine kx_iload_n 96 C dX5_chance_96 (lv_at hl 3 rfl) ?_
        refine kx_if_ne 97 105 C dX5_chance_97 (by decide) (fun c19 => ?_) (fun c19 => ?_)
        · have hf := ifn c19 hf
          refine kx_aload_n 105 C dX5_chance_105 (lv_at hl 0 rfl) ?_
          refine kx_iload 106 C dX5_chance_106 (lv_at hl 4 rfl) ?_
          refine kx_i2l 108 C dX5_chance_108 ?_
          refine kx_iload_n 109 C dX5_chance_109 (lv_at hl 3 rfl) ?_
          refine kx_i2l 110 C dX5_chance_110 ?_
          obtain ⟨h23, hf⟩ := ift hf
          obtain ⟨z22, S20, h21, hf⟩ := ob2 hf
          refine kx_callVv 111 C hl I (ci := 4) (As := [.long (lI (wI i3)), .long (lI (wI i2))]) (rest := []) (c_X5_setFraction G l fu _ _ _ _ _ _ h21) (cwV 2 C.ts gX5_chance_X5_setFraction rfl rfl rfl nyV_X5_setFraction ⟨Nat.le_of_ble_eq_true rfl, Nat.le_of_ble_eq_true rfl⟩) rfl h23 rfl rfl (Nat.le_of_ble_eq_true rfl) dX5_chance_111 ⟨Nat.le_of_ble_eq_true rfl, Nat.le_of_ble_eq_true rfl⟩ (fun H locs I => ?_)
          refine kx_iconst 114 C dX5_chance_114 ?_
          exact kx_iret 115 C I hf dX5_chance_115
        · have hf := ifp c19 hf
          refine kx_aload_n 100 C dX5_chance_100 (lv_at hl 0 rfl) ?_
          obtain ⟨h27, hf⟩ := ift hf
          obtain ⟨x26, S24, h25, hf⟩ := ob2 hf
          refine kx_callVi 101 C hl I (ci := 4) (As := []) (rest := []) (c_X5_refuseNo G l fu _ _ _ _ h25) (cwV 0 C.ts gX5_chance_X5_refuseNo rfl rfl rfl nyV_X5_refuseNo ⟨Nat.le_of_ble_eq_true rfl, Nat.le_of_ble_eq_true rfl⟩) rfl h27 rfl rfl (Nat.le_of_ble_eq_true rfl) dX5_chance_101 ⟨Nat.le_of_ble_eq_true rfl, Nat.le_of_ble_eq_true rfl⟩ (fun H locs I => ?_)
          exact kx_iret 104 C I hf dX5_chance_104
      · have hf := ifn c18 hf
        refine kx_aload_n 50 C dX5_chance_50 (lv_at hl 0 rfl) ?_
        obtain ⟨h31, hf⟩ := ift hf
        obtain ⟨x30, S28, h29, hf⟩ := ob2 hf
        refine kx_callVi 51 C hl I (ci := 4) (As := []) (rest := []) (c_X5_mayTrialBe G l fu _ _ _ _ h29) (cwV 0 C.ts gX5_chance_X5_mayTrialBe rfl rfl rfl nyV_X5_mayTrialBe ⟨Nat.le_of_ble_eq_true rfl, Nat.le_of_ble_eq_true rfl⟩) rfl h31 rfl rfl (Nat.le_of_ble_eq_true rfl) dX5_chance_51 ⟨Nat.le_of_ble_eq_true rfl, Nat.le_of_ble_eq_true rfl⟩ (fun H locs I => ?_)
        refine kx_if_eq 54 82 C dX5_chance_54 (by decide) (fun c32 => ?_) (fun c32 => ?_)
        · have hf := ifp c32 hf
          exact ih4 _ _ _ _ _ _ _ _ _ _ _ hf I (lv_sub hl [0, 1, 2, 3, 4, 5] rfl)
        · have hf := ifn c32 hf
          obtain ⟨x33, e34, hf⟩ := nmx_e hf
          refine kx_iinc 57 C (lv' := [(3, .int (iI x33)), (0, .ref (xB G + p0)), (1, .int (iI i0)), (2, .int (iI i1)), (4, .int (iI i3)), (5, .int (iI i4))]) dX5_chance_57 hl 3 rfl e34 (by decide) rfl (fun ls hl => ?_)
          refine kx_iload 60 C dX5_chance_60 (lv_at hl 4 rfl) ?_
          refine kx_aload_n 62 C dX5_chance_62 (lv_at hl 1 rfl) ?_
          refine kx_aload_n 63 C dX5_chance_63 (lv_at hl 1 rfl) ?_
          obtain ⟨q36, h35, hf⟩ := ob hf
          refine kx_getp 64 C I fl_X5_chance_37 h35 dX5_chance_64 ?_
          refine kx_iload_n 67 C dX5_chance_67 (lv_at hl 2 rfl) ?_
          obtain ⟨h40, hf⟩ := ift hf
          obtain ⟨x39, S37, h38, hf⟩ := ob2 hf
          refine kx_callVi 68 C hl I (ci := 4) (As := [.ref (xB G + q36), .int (iI i0)]) (rest := [.int (iI i3)]) (c_X5_doTheseFind G l fu _ _ _ _ _ _ h38) (cwV 2 C.ts gX5_chance_X5_doTheseFind rfl rfl rfl nyV_X5_doTheseFind ⟨Nat.le_of_ble_eq_true rfl, Nat.le_of_ble_eq_true rfl⟩) rfl h40 rfl rfl (Nat.le_of_ble_eq_true rfl) dX5_chance_68 ⟨Nat.le_of_ble_eq_true rfl, Nat.le_of_ble_eq_true rfl⟩ (fun H locs I => ?_)
          refine kx_if_eq 71 78 C dX5_chance_71 (by decide) (fun c41 => ?_) (fun c41 => ?_)
          · have hf := ifp c41 hf
            refine kx_iconst 78 C dX5_chance_78 ?_
            exact ih3 _ _ _ _ _ _ _ _ _ _ _ hf I (lv_sub hl [1, 2, 3, 0, 5] rfl)
          · have hf := ifn c41 hf
            refine kx_iconst 74 C dX5_chance_74 ?_
            refine kx_goto 75 79 C dX5_chance_75 (by decide) ?_
            exact ih3 _ _ _ _ _ _ _ _ _ _ _ hf I (lv_sub hl [1, 2, 3, 0, 5] rfl)
    · intro S p0 i0 i1 i2 i3 i4 i5 H locs ls hf I hl
      replace hf : b_X5_chance_3 (g_X5_chance fu) fu S p0 i0 i1 i2 i3 i4 i5 = some (r, S') := hf
      unfold b_X5_chance_3 at hf
      refine kx_iadd 79 C dX5_chance_79 ?_
      obtain ⟨x42, e43, hf⟩ := nmx_e hf
      refine kx_istore 80 C (lv' := [(4, .int (iI x42)), (0, .ref (xB G + p0)), (1, .int (iI i0)), (2, .int (iI i1)), (3, .int (iI i2)), (5, .int (iI i3))]) dX5_chance_80 hl (by decide) e43 rfl (fun ls hl => ?_)
      exact ih4 _ _ _ _ _ _ _ _ _ _ _ hf I (lv_sub hl [1, 2, 3, 4, 0, 5] rfl)
    · intro S p0 i0 i1 i2 i3 i4 i5 H locs ls hf I hl
      replace hf : b_X5_chance_4 (g_X5_chance fu) fu S p0 i0 i1 i2 i3 i4 i5 = some (r, S') := hf
      unfold b_X5_chance_4 at hf
      refine kx_aload_n 82 C dX5_chance_82 (lv_at hl 0 rfl) ?_
      obtain ⟨q45, h44, hf⟩ := ob hf
      refine kx_getp 83 C I fl_X5_chance_37 h44 dX5_chance_83 ?_
      refine kx_iload_n 86 C dX5_chance_86 (lv_at hl 2 rfl) ?_
      obtain ⟨z48, S46, h47, hf⟩ := ob2 hf
      refine kx_callSv 87 C hl I (As := [.ref (xB G + q45), .int (iI i1)]) (rest := []) (c_X4_setToNext G l fu _ _ _ _ _ h47) (va_cwS 2 C.ts gX5_chance_X4_setToNext rfl rfl rfl nyS_X4_setToNext ⟨Nat.le_of_ble_eq_true rfl, Nat.le_of_ble_eq_true rfl⟩) rfl rfl (Nat.le_of_ble_eq_true rfl) dX5_chance_87 ⟨Nat.le_of_ble_eq_true rfl, Nat.le_of_ble_eq_true rfl⟩ (fun H locs I => ?_)
      obtain ⟨x49, e50, hf⟩ := nmx_e hf
      refine kx_iinc 90 C (lv' := [(5, .int (iI x49)), (0, .ref (xB G + p0)), (1, .int (iI i0)), (2, .int (iI i1)), (3, .int (iI i2)), (4, .int (iI i3))]) dX5_chance_90 hl 5 rfl e50 (by decide) rfl (fun ls hl => ?_)
      refine kx_goto 93 40 C dX5_chance_93 (by decide) ?_
      exact ih2 _ _ _ _ _ _ _ _ _ _ _ hf I (lv_sub hl [1, 2, 3, 4, 5, 0] rfl)
set_option maxHeartbeats 4000000 in
set_option maxRecDepth 100000 in
theorem c_X5_chance (G : xG) (l : Launch) (fu : Nat) (S S' : xS) (p0 : Nat) (i0 : Int) (r : Int) (hf : f_X5_chance fu S p0 i0 = some (r, S')) : Met l yX5_chance vsX5_chance rm_X5_chance (va_Pc [.ref (xB G + p0), .int (iI i0)] (xPre G S)) (xQi G r S') 0 0 (xA G) := by
  refine kx_met (ret := (some .int)) RX5 [(0, .ref (xB G + p0)), (1, .int (iI i0))] (by decide) rfl rfl (Nat.le_of_ble_eq_true rfl) rfl (fun p e s m below meth c ls C hin I hl => ?_)
  exact (w_X5_chance C r S' fu).1 S _ _ _ _ _ _ _ _ _ _ hf I hl
def rm_X5_tallySlips : Room := { frames := 4, cells := 0, slots := 0, locals := 98 }
theorem hin_X5_tallySlips_RX1 : ∀ w ∈ wsX10, w ∈ vsX5_tallySlips := fun w h => inM (inlX1 w h)
theorem hin_X5_tallySlips_RX5 : ∀ w ∈ wsX50, w ∈ vsX5_tallySlips := fun w h => inM (inlX5 w h)
theorem fl_X5_tallySlips_10 : xFl vsX5_tallySlips RX5 10 4 0 := ⟨RX5, TX5, 13, rfl, by decide, hin_X5_tallySlips_RX5, inM mq_1_15, rfl⟩
theorem fl_X5_tallySlips_37 : xFl vsX5_tallySlips RX5 37 4 5 := ⟨RX5, TX5, 13, rfl, by decide, hin_X5_tallySlips_RX5, inM mq_2_3, rfl⟩
theorem fl_X5_tallySlips_41 : xFl vsX5_tallySlips RX5 41 4 6 := ⟨RX5, TX5, 13, rfl, by decide, hin_X5_tallySlips_RX5, inM mq_2_4, rfl⟩
theorem fl_X5_tallySlips_69 : xFl vsX5_tallySlips RX5 69 1 0 := ⟨RX1, TX1, 14, rfl, by decide, hin_X5_tallySlips_RX1, inM mq_5_19, rfl⟩
theorem mw_X5_tallySlips_0 : Cond.fieldLink RX5 201 "BoxRings" "WAYS_OF" "[I" ∈ vsX5_tallySlips := inM mq_10_21
theorem nyS_X5_tallySlips : yX5_tallySlips.cls ≠ "java/lang/invoke/MethodHandle" ∧ yX5_tallySlips.cls ≠ "java/lang/invoke/VarHandle" ∧ (parseMethodDescriptor yX5_tallySlips.desc).map (fun d => d.parameters.length) = some 0 := by decide +kernel
theorem nyV_X5_tallySlips : yX5_tallySlips.cls = RX5 ∧ yX5_tallySlips.cls ≠ "java/lang/invoke/MethodHandle" ∧ yX5_tallySlips.cls ≠ "java/lang/invoke/VarHandle" ∧ (parseMethodDescriptor yX5_tallySlips.desc).map (fun d => d.parameters.length) = some 0 := by decide +kernel
set_option maxHeartbeats 4000000 in
set_option maxRecDepth 100000 in
theorem w_X5_tallySlips {G : xG} {p : Program} {l : Launch} {e : Env} {s : State} {m : MethodId} {args : Array Value} {below : List Frame} {meth : Method} {c : Code} (C : xK G p s m args meth c cX5_tallySlips 5 vsX5_tallySlips RX5 (some .int)) (r : Int) (S' : xS) : ∀ k : Nat,
  (∀ (S : xS) (p0 : Nat) (i0 i1 i2 i3 : Int) (H : Heap) (locs : List Loc) (ls : Array Slot), g_X5_tallySlips k 0 S p0 i0 i1 i2 i3 = some (r, S') → xI G S s H locs → lv_has ls 5 [(0, .ref (xB G + p0))] → W p l e rm_X5_tallySlips s m args below meth c H locs 0 0 (MQ below (xQi G r S') args s 0 0 (xA G)) (F0 m 0 ls [])) ∧
  (∀ (S : xS) (p0 : Nat) (i0 i1 i2 i3 : Int) (H : Heap) (locs : List Loc) (ls : Array Slot), g_X5_tallySlips k 1 S p0 i0 i1 i2 i3 = some (r, S') → xI G S s H locs → lv_has ls 5 [(0, .ref (xB G + p0)), (1, .int (iI i0)), (2, .int (iI i1)), (3, .int (iI i2))] → W p l e rm_X5_tallySlips s m args below meth c H locs 0 0 (MQ below (xQi G r S') args s 0 0 (xA G)) (F0 m 28 ls [])) ∧
  (∀ (S : xS) (p0 : Nat) (i0 i1 i2 i3 : Int) (H : Heap) (locs : List Loc) (ls : Array Slot), g_X5_tallySlips k 2 S p0 i0 i1 i2 i3 = some (r, S') → xI G S s H locs → lv_has ls 5 [(0, .ref (xB G + p0)), (1, .int (iI i0)), (2, .int (iI i1)), (3, .int (iI i2)), (4, .int (iI i3))] → W p l e rm_X5_tallySlips s m args below meth c H locs 0 0 (MQ below (xQi G r S') args s 0 0 (xA G)) (F0 m 50 ls [])) ∧
  (∀ (S : xS) (p0 : Nat) (i0 i1 i2 i3 : Int) (H : Heap) (locs : List Loc) (ls : Array Slot), g_X5_tallySlips k 3 S p0 i0 i1 i2 i3 = some (r, S') → xI G S s H locs → lv_has ls 5 [(0, .ref (xB G + p0)), (1, .int (iI i0)), (2, .int (iI i1)), (3, .int (iI i2))] → W p l e rm_X5_tallySlips s m args below meth c H locs 0 0 (MQ below (xQi G r S') args s 0 0 (xA G)) (F0 m 84 ls [])) := by
  intro k
  induction k with
  | zero => exact ⟨fun _ _ _ _ _ _ _ _ _ hf => (by cases hf), fun _ _ _ _ _ _ _ _ _ hf => (by cases hf), fun _ _ _ _ _ _ _ _ _ hf => (by cases hf), fun _ _ _ _ _ _ _ _ _ hf => (by cases hf)⟩
  | succ fu ih =>
    obtain ⟨ih0, ih1, ih2, ih3⟩ := ih
    refine ⟨?_, ?_, ?_, ?_⟩
    · intro S p0 i0 i1 i2 i3 H locs ls hf I hl
      replace hf : b_X5_tallySlips_0 (g_X5_tallySlips fu) fu S p0 i0 i1 i2 i3 = some (r, S') := hf
      unfold b_X5_tallySlips_0 at hf
      refine kx_aload_n 0 C dX5_tallySlips_0 (lv_at hl 0 rfl) ?_
      obtain ⟨q2, h1, hf⟩ := ob hf
      refine kx_getp 1 C I fl_X5_tallySlips_10 h1 dX5_tallySlips_1 ?_
      obtain ⟨x4, h3, hf⟩ := ob hf
      refine kx_geti 4 C I fl_X5_tallySlips_69 h3 dX5_tallySlips_4 ?_
      refine kx_istore_n 7 C (lv' := [(1, .int (iI x4)), (0, .ref (xB G + p0))]) dX5_tallySlips_7 hl (by decide) rfl rfl (fun ls hl => ?_)
      refine kx_iconst 8 C dX5_tallySlips_8 ?_
      refine kx_istore_n 9 C (lv' := [(2, .int (iI 0)), (1, .int (iI x4)), (0, .ref (xB G + p0))]) dX5_tallySlips_9 hl (by decide) rfl rfl (fun ls hl => ?_)
      refine kx_aload_n 10 C dX5_tallySlips_10 (lv_at hl 2 rfl) ?_
      obtain ⟨q6, h5, hf⟩ := ob hf
      refine kx_getp 11 C I fl_X5_tallySlips_41 h5 dX5_tallySlips_11 ?_
      refine kx_iconst 14 C dX5_tallySlips_14 ?_
      obtain ⟨z9, S7, h8, hf⟩ := ob2 hf
      refine kx_callSv 15 C hl I (As := [.ref (xB G + q6), .int (iI 0)]) (rest := []) (c_J7_fill_53178 G l fu _ _ _ _ _ h8) (va_cwS 2 C.ts gX5_tallySlips_J7_fill_53178 rfl rfl rfl nyS_J7_fill_53178 ⟨Nat.le_of_ble_eq_true rfl, Nat.le_of_ble_eq_true rfl⟩) rfl rfl (Nat.le_of_ble_eq_true rfl) dX5_tallySlips_15 ⟨Nat.le_of_ble_eq_true rfl, Nat.le_of_ble_eq_true rfl⟩ (fun H locs I => ?_)
      refine kx_aload_n 18 C dX5_tallySlips_18 (lv_at hl 2 rfl) ?_
      obtain ⟨q11, h10, hf⟩ := ob hf
      refine kx_getp 19 C I fl_X5_tallySlips_37 h10 dX5_tallySlips_19 ?_
      refine kx_iload_n 22 C dX5_tallySlips_22 (lv_at hl 1 rfl) ?_
      obtain ⟨z14, S12, h13, hf⟩ := ob2 hf
      refine kx_callSv 23 C hl I (As := [.ref (xB G + q11), .int (iI x4)]) (rest := []) (c_X4_setToFirst G l fu _ _ _ _ _ h13) (va_cwS 2 C.ts gX5_tallySlips_X4_setToFirst rfl rfl rfl nyS_X4_setToFirst ⟨Nat.le_of_ble_eq_true rfl, Nat.le_of_ble_eq_true rfl⟩) rfl rfl (Nat.le_of_ble_eq_true rfl) dX5_tallySlips_23 ⟨Nat.le_of_ble_eq_true rfl, Nat.le_of_ble_eq_true rfl⟩ (fun H locs I => ?_)
      refine kx_iconst 26 C dX5_tallySlips_26 ?_
      refine kx_istore_n 27 C (lv' := [(3, .int (iI 0)), (2, .int (iI 0)), (1, .int (iI x4)), (0, .ref (xB G + p0))]) dX5_tallySlips_27 hl (by decide) rfl rfl (fun ls hl => ?_)
      exact ih1 _ _ _ _ _ _ _ _ _ hf I (lv_sub hl [3, 2, 1, 0] rfl)
    · intro S p0 i0 i1 i2 i3 H locs ls hf I hl
      replace hf : b_X5_tallySlips_1 (g_X5_tallySlips fu) fu S p0 i0 i1 i2 i3 = some (r, S') := hf
      unfold b_X5_tallySlips_1 at hf
      refine kx_iload_n 28 C dX5_tallySlips_28 (lv_at hl 3 rfl) ?_
      refine kx_gets 29 C I mw_X5_tallySlips_0 dX5_tallySlips_29 ?_
      refine kx_iload_n 32 C dX5_tallySlips_32 (lv_at hl 1 rfl) ?_
      obtain ⟨x15, h16, hf⟩ := ob hf
      refine kx_tab 33 C I h16 dX5_tallySlips_33 ?_
      refine kx_icmp_ge 34 98 C dX5_tallySlips_34 (by decide) (fun c17 => ?_) (fun c17 => ?_)
      · have hf := ifp c17 hf
        refine kx_iload_n 98 C dX5_tallySlips_98 (lv_at hl 2 rfl) ?_
        exact kx_iret 99 C I hf dX5_tallySlips_99
      · have hf := ifn c17 hf
        refine kx_aload_n 37 C dX5_tallySlips_37 (lv_at hl 0 rfl) ?_
        obtain ⟨h21, hf⟩ := ift hf
        obtain ⟨x20, S18, h19, hf⟩ := ob2 hf
        refine kx_callVi 38 C hl I (ci := 4) (As := []) (rest := []) (c_X5_mayTrialBe G l fu _ _ _ _ h19) (cwV 0 C.ts gX5_tallySlips_X5_mayTrialBe rfl rfl rfl nyV_X5_mayTrialBe ⟨Nat.le_of_ble_eq_true rfl, Nat.le_of_ble_eq_true rfl⟩) rfl h21 rfl rfl (Nat.le_of_ble_eq_true rfl) dX5_tallySlips_38 ⟨Nat.le_of_ble_eq_true rfl, Nat.le_of_ble_eq_true rfl⟩ (fun H locs I => ?_)
        refine kx_if_eq 41 84 C dX5_tallySlips_41 (by decide) (fun c22 => ?_) (fun c22 => ?_)
        · have hf := ifp c22 hf
          exact ih3 _ _ _ _ _ _ _ _ _ hf I (lv_sub hl [0, 1, 2, 3] rfl)
        · have hf := ifn c22 hf
          obtain ⟨x23, e24, hf⟩ := nmx_e hf
          refine kx_iinc 44 C (lv' := [(2, .int (iI x23)), (0, .ref (xB G + p0)), (1, .int (iI i0)), (3, .int (iI i2))]) dX5_tallySlips_44 hl 2 rfl e24 (by decide) rfl (fun ls hl => ?_)
          refine kx_iconst 47 C dX5_tallySlips_47 ?_
          refine kx_istore 48 C (lv' := [(4, .int (iI 0)), (2, .int (iI x23)), (0, .ref (xB G + p0)), (1, .int (iI i0)), (3, .int (iI i2))]) dX5_tallySlips_48 hl (by decide) rfl rfl (fun ls hl => ?_)
          exact ih2 _ _ _ _ _ _ _ _ _ hf I (lv_sub hl [2, 3, 1, 4, 0] rfl)
    · intro S p0 i0 i1 i2 i3 H locs ls hf I hl
      replace hf : b_X5_tallySlips_2 (g_X5_tallySlips fu) fu S p0 i0 i1 i2 i3 = some (r, S') := hf
      unfold b_X5_tallySlips_2 at hf
      refine kx_iload 50 C dX5_tallySlips_50 (lv_at hl 4 rfl) ?_
      refine kx_iload_n 52 C dX5_tallySlips_52 (lv_at hl 1 rfl) ?_
      refine kx_icmp_ge 53 84 C dX5_tallySlips_53 (by decide) (fun c25 => ?_) (fun c25 => ?_)
      · have hf := ifp c25 hf
        exact ih3 _ _ _ _ _ _ _ _ _ hf I (lv_sub hl [0, 1, 2, 3] rfl)
      · have hf := ifn c25 hf
        refine kx_aload_n 56 C dX5_tallySlips_56 (lv_at hl 0 rfl) ?_
        obtain ⟨q27, h26, hf⟩ := ob hf
        refine kx_getp 57 C I fl_X5_tallySlips_41 h26 dX5_tallySlips_57 ?_
        refine kx_iload 60 C dX5_tallySlips_60 (lv_at hl 4 rfl) ?_
        refine kx_bipush 62 C dX5_tallySlips_62 (by decide) ?_
        refine kx_imul 64 C dX5_tallySlips_64 ?_
        refine kx_aload_n 65 C dX5_tallySlips_65 (lv_at hl 0 rfl) ?_
        obtain ⟨q29, h28, hf⟩ := ob hf
        refine kx_getp 66 C I fl_X5_tallySlips_37 h28 dX5_tallySlips_66 ?_
        refine kx_iload 69 C dX5_tallySlips_69 (lv_at hl 4 rfl) ?_
        obtain ⟨x30, h31, hf⟩ := ob hf
        refine kx_iald 71 C I h31 dX5_tallySlips_71 ?_
        refine kx_iadd 72 C dX5_tallySlips_72 ?_
        refine kx_dup2 73 C dX5_tallySlips_73 rfl rfl ?_
        obtain ⟨x32, h33, hf⟩ := ob hf
        refine kx_iald 74 C I h33 dX5_tallySlips_74 ?_
        refine kx_iconst 75 C dX5_tallySlips_75 ?_
        refine kx_iadd 76 C dX5_tallySlips_76 ?_
        obtain ⟨S35, h34, hf⟩ := ob hf
        refine kx_iast 77 C I h34 dX5_tallySlips_77 (fun H locs I => ?_)
        obtain ⟨x36, e37, hf⟩ := nmx_e hf
        refine kx_iinc 78 C (lv' := [(4, .int (iI x36)), (0, .ref (xB G + p0)), (1, .int (iI i0)), (2, .int (iI i1)), (3, .int (iI i2))]) dX5_tallySlips_78 hl 4 rfl e37 (by decide) rfl (fun ls hl => ?_)
        refine kx_goto 81 50 C dX5_tallySlips_81 (by decide) ?_
        exact ih2 _ _ _ _ _ _ _ _ _ hf I (lv_sub hl [1, 2, 3, 4, 0] rfl)
    · intro S p0 i0 i1 i2 i3 H locs ls hf I hl
      replace hf : b_X5_tallySlips_3 (g_X5_tallySlips fu) fu S p0 i0 i1 i2 i3 = some (r, S') := hf
      unfold b_X5_tallySlips_3 at hf
      refine kx_aload_n 84 C dX5_tallySlips_84 (lv_at hl 0 rfl) ?_
      obtain ⟨q39, h38, hf⟩ := ob hf
      refine kx_getp 85 C I fl_X5_tallySlips_37 h38 dX5_tallySlips_85 ?_
      refine kx_iload_n 88 C dX5_tallySlips_88 (lv_at hl 1 rfl) ?_
      obtain ⟨z42, S40, h41, hf⟩ := ob2 hf
      refine kx_callSv 89 C hl I (As := [.ref (xB G + q39), .int (iI i0)]) (rest := []) (c_X4_setToNext G l fu _ _ _ _ _ h41) (va_cwS 2 C.ts gX5_tallySlips_X4_setToNext rfl rfl rfl nyS_X4_setToNext ⟨Nat.le_of_ble_eq_true rfl, Nat.le_of_ble_eq_true rfl⟩) rfl rfl (Nat.le_of_ble_eq_true rfl) dX5_tallySlips_89 ⟨Nat.le_of_ble_eq_true rfl, Nat.le_of_ble_eq_true rfl⟩ (fun H locs I => ?_)
      obtain ⟨x43, e44, hf⟩ := nmx_e hf
      refine kx_iinc 92 C (lv' := [(3, .int (iI x43)), (0, .ref (xB G + p0)), (1, .int (iI i0)), (2, .int (iI i1))]) dX5_tallySlips_92 hl 3 rfl e44 (by decide) rfl (fun ls hl => ?_)
      refine kx_goto 95 28 C dX5_tallySlips_95 (by decide) ?_
      exact ih1 _ _ _ _ _ _ _ _ _ hf I (lv_sub hl [1, 2, 3, 0] rfl)
set_option maxHeartbeats 4000000 in
set_option maxRecDepth 100000 in
theorem c_X5_tallySlips (G : xG) (l : Launch) (fu : Nat) (S S' : xS) (p0 : Nat) (r : Int) (hf : f_X5_tallySlips fu S p0 = some (r, S')) : Met l yX5_tallySlips vsX5_tallySlips rm_X5_tallySlips (va_Pc [.ref (xB G + p0)] (xPre G S)) (xQi G r S') 0 0 (xA G) := by
  refine kx_met (ret := (some .int)) RX5 [(0, .ref (xB G + p0))] (by decide) rfl rfl (Nat.le_of_ble_eq_true rfl) rfl (fun p e s m below meth c ls C hin I hl => ?_)
  exact (w_X5_tallySlips C r S' fu).1 S _ _ _ _ _ _ _ _ hf I hl
def rm_X5_sumOfSquares : Room := { frames := 0, cells := 0, slots := 0, locals := 0 }
theorem hin_X5_sumOfSquares_RX1 : ∀ w ∈ wsX10, w ∈ vsX5_sumOfSquares := fun w h => inM (inlX1 w h)
theorem hin_X5_sumOfSquares_RX5 : ∀ w ∈ wsX50, w ∈ vsX5_sumOfSquares := fun w h => inM (inlX5 w h)
theorem fl_X5_sumOfSquares_10 : xFl vsX5_sumOfSquares RX5 10 4 0 := ⟨RX5, TX5, 13, rfl, by decide, hin_X5_sumOfSquares_RX5, inM mq_1_15, rfl⟩
theorem fl_X5_sumOfSquares_41 : xFl vsX5_sumOfSquares RX5 41 4 6 := ⟨RX5, TX5, 13, rfl, by decide, hin_X5_sumOfSquares_RX5, inM mq_2_4, rfl⟩
theorem fl_X5_sumOfSquares_69 : xFl vsX5_sumOfSquares RX5 69 1 0 := ⟨RX1, TX1, 14, rfl, by decide, hin_X5_sumOfSquares_RX1, inM mq_5_19, rfl⟩
theorem nyS_X5_sumOfSquares : yX5_sumOfSquares.cls ≠ "java/lang/invoke/MethodHandle" ∧ yX5_sumOfSquares.cls ≠ "java/lang/invoke/VarHandle" ∧ (parseMethodDescriptor yX5_sumOfSquares.desc).map (fun d => d.parameters.length) = some 1 := by decide +kernel
theorem nyV_X5_sumOfSquares : yX5_sumOfSquares.cls = RX5 ∧ yX5_sumOfSquares.cls ≠ "java/lang/invoke/MethodHandle" ∧ yX5_sumOfSquares.cls ≠ "java/lang/invoke/VarHandle" ∧ (parseMethodDescriptor yX5_sumOfSquares.desc).map (fun d => d.parameters.length) = some 1 := by decide +kernel
set_option maxHeartbeats 4000000 in
set_option maxRecDepth 100000 in
theorem w_X5_sumOfSquares {G : xG} {p : Program} {l : Launch} {e : Env} {s : State} {m : MethodId} {args : Array Value} {below : List Frame} {meth : Method} {c : Code} (C : xK G p s m args meth c cX5_sumOfSquares 7 vsX5_sumOfSquares RX5 (some .long)) (r : Int) (S' : xS) : ∀ k : Nat,
  (∀ (S : xS) (p0 : Nat) (i0 i1 i2 : Int) (H : Heap) (locs : List Loc) (ls : Array Slot), g_X5_sumOfSquares k 0 S p0 i0 i1 i2 = some (r, S') → xI G S s H locs → lv_has ls 7 [(0, .ref (xB G + p0)), (1, .int (iI i0))] → W p l e rm_X5_sumOfSquares s m args below meth c H locs 0 0 (MQ below (xQl G r S') args s 0 0 (xA G)) (F0 m 0 ls [])) ∧
  (∀ (S : xS) (p0 : Nat) (i0 i1 i2 : Int) (H : Heap) (locs : List Loc) (ls : Array Slot), g_X5_sumOfSquares k 1 S p0 i0 i1 i2 = some (r, S') → xI G S s H locs → lv_has ls 7 [(0, .ref (xB G + p0)), (1, .int (iI i0)), (2, .long (lI i1)), (4, .int (iI i2))] → W p l e rm_X5_sumOfSquares s m args below meth c H locs 0 0 (MQ below (xQl G r S') args s 0 0 (xA G)) (F0 m 5 ls [])) := by
  intro k
  induction k with
  | zero => exact ⟨fun _ _ _ _ _ _ _ _ hf => (by cases hf), fun _ _ _ _ _ _ _ _ hf => (by cases hf)⟩
  | succ fu ih =>
    obtain ⟨ih0, ih1⟩ := ih
    refine ⟨?_, ?_⟩
    · intro S p0 i0 i1 i2 H locs ls hf I hl
      replace hf : b_X5_sumOfSquares_0 (g_X5_sumOfSquares fu) fu S p0 i0 i1 i2 = some (r, S') := hf
      unfold b_X5_sumOfSquares_0 at hf
      refine kx_lconst 0 C (z := 0) dX5_sumOfSquares_0 rfl ?_
      refine kx_lstore_n 1 C (lv' := [(2, .long (lI 0)), (0, .ref (xB G + p0)), (1, .int (iI i0))]) dX5_sumOfSquares_1 hl (by decide) rfl rfl (fun ls hl => ?_)
      refine kx_iconst 2 C dX5_sumOfSquares_2 ?_
      refine kx_istore 3 C (lv' := [(4, .int (iI 0)), (2, .long (lI 0)), (0, .ref (xB G + p0)), (1, .int (iI i0))]) dX5_sumOfSquares_3 hl (by decide) rfl rfl (fun ls hl => ?_)
      exact ih1 _ _ _ _ _ _ _ _ hf I (lv_sub hl [2, 3, 1, 0] rfl)
    · intro S p0 i0 i1 i2 H locs ls hf I hl
      replace hf : b_X5_sumOfSquares_1 (g_X5_sumOfSquares fu) fu S p0 i0 i1 i2 = some (r, S') := hf
      unfold b_X5_sumOfSquares_1 at hf
      refine kx_iload 5 C dX5_sumOfSquares_5 (lv_at hl 3 rfl) ?_
      refine kx_aload_n 7 C dX5_sumOfSquares_7 (lv_at hl 0 rfl) ?_
      obtain ⟨q2, h1, hf⟩ := ob hf
      refine kx_getp 8 C I fl_X5_sumOfSquares_10 h1 dX5_sumOfSquares_8 ?_
      obtain ⟨x4, h3, hf⟩ := ob hf
      refine kx_geti 11 C I fl_X5_sumOfSquares_69 h3 dX5_sumOfSquares_11 ?_
      refine kx_icmp_ge 14 46 C dX5_sumOfSquares_14 (by decide) (fun c5 => ?_) (fun c5 => ?_)
      · have hf := ifp c5 hf
        refine kx_lload_n 46 C dX5_sumOfSquares_46 (lv_at hl 2 rfl) ?_
        exact kx_lret 47 C I hf dX5_sumOfSquares_47
      · have hf := ifn c5 hf
        refine kx_aload_n 17 C dX5_sumOfSquares_17 (lv_at hl 0 rfl) ?_
        obtain ⟨q7, h6, hf⟩ := ob hf
        refine kx_getp 18 C I fl_X5_sumOfSquares_41 h6 dX5_sumOfSquares_18 ?_
        refine kx_iload_n 21 C dX5_sumOfSquares_21 (lv_at hl 1 rfl) ?_
        refine kx_bipush 22 C dX5_sumOfSquares_22 (by decide) ?_
        refine kx_imul 24 C dX5_sumOfSquares_24 ?_
        refine kx_iload 25 C dX5_sumOfSquares_25 (lv_at hl 3 rfl) ?_
        refine kx_iadd 27 C dX5_sumOfSquares_27 ?_
        obtain ⟨x8, h9, hf⟩ := ob hf
        refine kx_iald 28 C I h9 dX5_sumOfSquares_28 ?_
        refine kx_i2l 29 C dX5_sumOfSquares_29 ?_
        obtain ⟨x10, e11, hf⟩ := nmx_e hf
        refine kx_lstore 30 C (lv' := [(5, .long (lI x10)), (0, .ref (xB G + p0)), (1, .int (iI i0)), (2, .long (lI i1)), (4, .int (iI i2))]) dX5_sumOfSquares_30 hl (by decide) e11 rfl (fun ls hl => ?_)
        refine kx_lload_n 32 C dX5_sumOfSquares_32 (lv_at hl 3 rfl) ?_
        refine kx_lload 33 C dX5_sumOfSquares_33 (lv_at hl 0 rfl) ?_
        refine kx_lload 35 C dX5_sumOfSquares_35 (lv_at hl 0 rfl) ?_
        refine kx_lmul 37 C dX5_sumOfSquares_37 ?_
        refine kx_ladd 38 C dX5_sumOfSquares_38 ?_
        obtain ⟨x12, e13, hf⟩ := nmx_e hf
        refine kx_lstore_n 39 C (lv' := [(2, .long (lI x12)), (5, .long (lI x10)), (0, .ref (xB G + p0)), (1, .int (iI i0)), (4, .int (iI i2))]) dX5_sumOfSquares_39 hl (by decide) e13 rfl (fun ls hl => ?_)
        obtain ⟨x14, e15, hf⟩ := nmx_e hf
        refine kx_iinc 40 C (lv' := [(4, .int (iI x14)), (2, .long (lI x12)), (5, .long (lI x10)), (0, .ref (xB G + p0)), (1, .int (iI i0))]) dX5_sumOfSquares_40 hl 4 rfl e15 (by decide) rfl (fun ls hl => ?_)
        refine kx_goto 43 5 C dX5_sumOfSquares_43 (by decide) ?_
        exact ih1 _ _ _ _ _ _ _ _ hf I (lv_sub hl [3, 4, 1, 0] rfl)
set_option maxHeartbeats 4000000 in
set_option maxRecDepth 100000 in
theorem c_X5_sumOfSquares (G : xG) (l : Launch) (fu : Nat) (S S' : xS) (p0 : Nat) (i0 : Int) (r : Int) (hf : f_X5_sumOfSquares fu S p0 i0 = some (r, S')) : Met l yX5_sumOfSquares vsX5_sumOfSquares rm_X5_sumOfSquares (va_Pc [.ref (xB G + p0), .int (iI i0)] (xPre G S)) (xQl G r S') 0 0 (xA G) := by
  refine kx_met (ret := (some .long)) RX5 [(0, .ref (xB G + p0)), (1, .int (iI i0))] (by decide) rfl rfl (Nat.le_of_ble_eq_true rfl) rfl (fun p e s m below meth c ls C hin I hl => ?_)
  exact (w_X5_sumOfSquares C r S' fu).1 S _ _ _ _ _ _ _ hf I hl
def rm_X5_look : Room := { frames := 5, cells := 0, slots := 0, locals := 122 }
theorem hin_X5_look_RX1 : ∀ w ∈ wsX10, w ∈ vsX5_look := fun w h => inM (inlX1 w h)
theorem hin_X5_look_RX5 : ∀ w ∈ wsX50, w ∈ vsX5_look := fun w h => inM (inlX5 w h)
theorem fl_X5_look_10 : xFl vsX5_look RX5 10 4 0 := ⟨RX5, TX5, 13, rfl, by decide, hin_X5_look_RX5, inM mq_1_15, rfl⟩
theorem fl_X5_look_69 : xFl vsX5_look RX5 69 1 0 := ⟨RX1, TX1, 14, rfl, by decide, hin_X5_look_RX1, inM mq_5_19, rfl⟩
theorem fl_X5_look_123 : xFl vsX5_look RX5 123 1 4 := ⟨RX1, TX1, 14, rfl, by decide, hin_X5_look_RX1, inM mq_12_19, rfl⟩
theorem nyS_X5_look : yX5_look.cls ≠ "java/lang/invoke/MethodHandle" ∧ yX5_look.cls ≠ "java/lang/invoke/VarHandle" ∧ (parseMethodDescriptor yX5_look.desc).map (fun d => d.parameters.length) = some 0 := by decide +kernel
theorem nyV_X5_look : yX5_look.cls = RX5 ∧ yX5_look.cls ≠ "java/lang/invoke/MethodHandle" ∧ yX5_look.cls ≠ "java/lang/invoke/VarHandle" ∧ (parseMethodDescriptor yX5_look.desc).map (fun d => d.parameters.length) = some 0 := by decide +kernel
set_option maxHeartbeats 4000000 in
set_option maxRecDepth 100000 in
theorem w_X5_look {G : xG} {p : Program} {l : Launch} {e : Env} {s : State} {m : MethodId} {args : Array Value} {below : List Frame} {meth : Method} {c : Code} (C : xK G p s m args meth c cX5_look 8 vsX5_look RX5 (some .int)) (r : Int) (S' : xS) : ∀ k : Nat,
  (∀ (S : xS) (p0 : Nat) (i0 i1 i2 i3 : Int) (H : Heap) (locs : List Loc) (ls : Array Slot), g_X5_look k 0 S p0 i0 i1 i2 i3 = some (r, S') → xI G S s H locs → lv_has ls 8 [(0, .ref (xB G + p0))] → W p l e rm_X5_look s m args below meth c H locs 0 0 (MQ below (xQi G r S') args s 0 0 (xA G)) (F0 m 0 ls [])) ∧
  (∀ (S : xS) (p0 : Nat) (i0 i1 i2 i3 : Int) (H : Heap) (locs : List Loc) (ls : Array Slot), g_X5_look k 1 S p0 i0 i1 i2 i3 = some (r, S') → xI G S s H locs → lv_has ls 8 [(0, .ref (xB G + p0)), (1, .int (iI i0)), (2, .int (iI i1)), (3, .long (lI i2)), (5, .int (iI i3))] → W p l e rm_X5_look s m args below meth c H locs 0 0 (MQ below (xQi G r S') args s 0 0 (xA G)) (F0 m 21 ls [])) ∧
  (∀ (S : xS) (p0 : Nat) (i0 i1 i2 i3 : Int) (H : Heap) (locs : List Loc) (ls : Array Slot), g_X5_look k 2 S p0 i0 i1 i2 i3 = some (r, S') → xI G S s H locs → lv_has ls 8 [(0, .ref (xB G + p0)), (1, .int (iI i0)), (5, .int (iI i1)), (6, .long (lI i2))] → W p l e rm_X5_look s m args below meth c H locs 0 0 (MQ below (xQi G r S') args s 0 0 (xA G)) (F0 m 67 ls [])) ∧
  (∀ (S : xS) (p0 : Nat) (i0 i1 i2 i3 : Int) (H : Heap) (locs : List Loc) (ls : Array Slot), g_X5_look k 3 S p0 i0 i1 i2 i3 = some (r, S') → xI G S s H locs → lv_has ls 8 [(0, .ref (xB G + p0)), (1, .int (iI i0)), (2, .int (iI i1)), (3, .long (lI i2)), (5, .int (iI i3))] → W p l e rm_X5_look s m args below meth c H locs 0 0 (MQ below (xQi G r S') args s 0 0 (xA G)) (F0 m 73 ls [])) := by
  intro k
  induction k with
  | zero => exact ⟨fun _ _ _ _ _ _ _ _ _ hf => (by cases hf), fun _ _ _ _ _ _ _ _ _ hf => (by cases hf), fun _ _ _ _ _ _ _ _ _ hf => (by cases hf), fun _ _ _ _ _ _ _ _ _ hf => (by cases hf)⟩
  | succ fu ih =>
    obtain ⟨ih0, ih1, ih2, ih3⟩ := ih
    refine ⟨?_, ?_, ?_, ?_⟩
    · intro S p0 i0 i1 i2 i3 H locs ls hf I hl
      replace hf : b_X5_look_0 (g_X5_look fu) fu S p0 i0 i1 i2 i3 = some (r, S') := hf
      unfold b_X5_look_0 at hf
      refine kx_aload_n 0 C dX5_look_0 (lv_at hl 0 rfl) ?_
      obtain ⟨h4, hf⟩ := ift hf
      obtain ⟨x3, S1, h2, hf⟩ := ob2 hf
      refine kx_callVi 1 C hl I (ci := 4) (As := []) (rest := []) (c_X5_tallySlips G l fu _ _ _ _ h2) (cwV 0 C.ts gX5_look_X5_tallySlips rfl rfl rfl nyV_X5_tallySlips ⟨Nat.le_of_ble_eq_true rfl, Nat.le_of_ble_eq_true rfl⟩) rfl h4 rfl rfl (Nat.le_of_ble_eq_true rfl) dX5_look_1 ⟨Nat.le_of_ble_eq_true rfl, Nat.le_of_ble_eq_true rfl⟩ (fun H locs I => ?_)
      refine kx_istore_n 4 C (lv' := [(1, .int (iI x3)), (0, .ref (xB G + p0))]) dX5_look_4 hl (by decide) rfl rfl (fun ls hl => ?_)
      refine kx_iload_n 5 C dX5_look_5 (lv_at hl 0 rfl) ?_
      refine kx_if_ne 6 14 C dX5_look_6 (by decide) (fun c5 => ?_) (fun c5 => ?_)
      · have hf := ifn c5 hf
        refine kx_iconst 14 C dX5_look_14 ?_
        refine kx_istore_n 15 C (lv' := [(2, .int (iI ((-1)))), (1, .int (iI x3)), (0, .ref (xB G + p0))]) dX5_look_15 hl (by decide) rfl rfl (fun ls hl => ?_)
        refine kx_lconst 16 C (z := 0) dX5_look_16 rfl ?_
        refine kx_lstore_n 17 C (lv' := [(3, .long (lI 0)), (2, .int (iI ((-1)))), (1, .int (iI x3)), (0, .ref (xB G + p0))]) dX5_look_17 hl (by decide) rfl rfl (fun ls hl => ?_)
        refine kx_iconst 18 C dX5_look_18 ?_
        refine kx_istore 19 C (lv' := [(5, .int (iI 0)), (3, .long (lI 0)), (2, .int (iI ((-1)))), (1, .int (iI x3)), (0, .ref (xB G + p0))]) dX5_look_19 hl (by decide) rfl rfl (fun ls hl => ?_)
        exact ih1 _ _ _ _ _ _ _ _ _ hf I (lv_sub hl [4, 3, 2, 1, 0] rfl)
      · have hf := ifp c5 hf
        refine kx_aload_n 9 C dX5_look_9 (lv_at hl 1 rfl) ?_
        obtain ⟨h9, hf⟩ := ift hf
        obtain ⟨x8, S6, h7, hf⟩ := ob2 hf
        refine kx_callVi 10 C hl I (ci := 4) (As := []) (rest := []) (c_X5_refuseNo G l fu _ _ _ _ h7) (cwV 0 C.ts gX5_look_X5_refuseNo rfl rfl rfl nyV_X5_refuseNo ⟨Nat.le_of_ble_eq_true rfl, Nat.le_of_ble_eq_true rfl⟩) rfl h9 rfl rfl (Nat.le_of_ble_eq_true rfl) dX5_look_10 ⟨Nat.le_of_ble_eq_true rfl, Nat.le_of_ble_eq_true rfl⟩ (fun H locs I => ?_)
        exact kx_iret 13 C I hf dX5_look_13
    · intro S p0 i0 i1 i2 i3 H locs ls hf I hl
      replace hf : b_X5_look_1 (g_X5_look fu) fu S p0 i0 i1 i2 i3 = some (r, S') := hf
      unfold b_X5_look_1 at hf
      refine kx_iload 21 C dX5_look_21 (lv_at hl 4 rfl) ?_
      refine kx_aload_n 23 C dX5_look_23 (lv_at hl 0 rfl) ?_
      obtain ⟨q11, h10, hf⟩ := ob hf
      refine kx_getp 24 C I fl_X5_look_10 h10 dX5_look_24 ?_
      obtain ⟨x13, h12, hf⟩ := ob hf
      refine kx_geti 27 C I fl_X5_look_69 h12 dX5_look_27 ?_
      refine kx_icmp_ge 30 79 C dX5_look_30 (by decide) (fun c14 => ?_) (fun c14 => ?_)
      · have hf := ifp c14 hf
        refine kx_iload_n 79 C dX5_look_79 (lv_at hl 2 rfl) ?_
        refine kx_iconst 80 C dX5_look_80 ?_
        refine kx_icmp_eq 81 91 C dX5_look_81 (by decide) (fun c15 => ?_) (fun c15 => ?_)
        · have hf := ifp c15 hf
          refine kx_iload_n 91 C dX5_look_91 (lv_at hl 2 rfl) ?_
          exact kx_iret 92 C I hf dX5_look_92
        · have hf := ifn c15 hf
          refine kx_aload_n 84 C dX5_look_84 (lv_at hl 0 rfl) ?_
          refine kx_lload_n 85 C dX5_look_85 (lv_at hl 3 rfl) ?_
          refine kx_iload_n 86 C dX5_look_86 (lv_at hl 1 rfl) ?_
          refine kx_i2l 87 C dX5_look_87 ?_
          obtain ⟨h19, hf⟩ := ift hf
          obtain ⟨z18, S16, h17, hf⟩ := ob2 hf
          refine kx_callVv 88 C hl I (ci := 4) (As := [.long (lI i2), .long (lI (wI i0))]) (rest := []) (c_X5_setFraction G l fu _ _ _ _ _ _ h17) (cwV 2 C.ts gX5_look_X5_setFraction rfl rfl rfl nyV_X5_setFraction ⟨Nat.le_of_ble_eq_true rfl, Nat.le_of_ble_eq_true rfl⟩) rfl h19 rfl rfl (Nat.le_of_ble_eq_true rfl) dX5_look_88 ⟨Nat.le_of_ble_eq_true rfl, Nat.le_of_ble_eq_true rfl⟩ (fun H locs I => ?_)
          refine kx_iload_n 91 C dX5_look_91 (lv_at hl 2 rfl) ?_
          exact kx_iret 92 C I hf dX5_look_92
      · have hf := ifn c14 hf
        refine kx_aload_n 33 C dX5_look_33 (lv_at hl 0 rfl) ?_
        obtain ⟨q21, h20, hf⟩ := ob hf
        refine kx_getp 34 C I fl_X5_look_10 h20 dX5_look_34 ?_
        obtain ⟨q23, h22, hf⟩ := ob hf
        refine kx_getp 37 C I fl_X5_look_123 h22 dX5_look_37 ?_
        refine kx_iload 40 C dX5_look_40 (lv_at hl 4 rfl) ?_
        obtain ⟨x24, h25, hf⟩ := ob hf
        refine kx_iald 42 C I h25 dX5_look_42 ?_
        refine kx_iconst 43 C dX5_look_43 ?_
        refine kx_icmp_ne 44 73 C dX5_look_44 (by decide) (fun c26 => ?_) (fun c26 => ?_)
        · have hf := ifn c26 hf
          exact ih3 _ _ _ _ _ _ _ _ _ hf I (lv_sub hl [0, 1, 2, 3, 4] rfl)
        · have hf := ifp c26 hf
          refine kx_aload_n 47 C dX5_look_47 (lv_at hl 0 rfl) ?_
          refine kx_iload 48 C dX5_look_48 (lv_at hl 4 rfl) ?_
          obtain ⟨h30, hf⟩ := ift hf
          obtain ⟨x29, S27, h28, hf⟩ := ob2 hf
          refine kx_callVl 50 C hl I (ci := 4) (As := [.int (iI i3)]) (rest := []) (c_X5_sumOfSquares G l fu _ _ _ _ _ h28) (cwV 1 C.ts gX5_look_X5_sumOfSquares rfl rfl rfl nyV_X5_sumOfSquares ⟨Nat.le_of_ble_eq_true rfl, Nat.le_of_ble_eq_true rfl⟩) rfl h30 rfl rfl (Nat.le_of_ble_eq_true rfl) dX5_look_50 ⟨Nat.le_of_ble_eq_true rfl, Nat.le_of_ble_eq_true rfl⟩ (fun H locs I => ?_)
          refine kx_lstore 53 C (lv' := [(6, .long (lI x29)), (0, .ref (xB G + p0)), (1, .int (iI i0)), (2, .int (iI i1)), (3, .long (lI i2)), (5, .int (iI i3))]) dX5_look_53 hl (by decide) rfl rfl (fun ls hl => ?_)
          refine kx_iload_n 55 C dX5_look_55 (lv_at hl 3 rfl) ?_
          refine kx_iconst 56 C dX5_look_56 ?_
          refine kx_icmp_eq 57 67 C dX5_look_57 (by decide) (fun c31 => ?_) (fun c31 => ?_)
          · have hf := ifp c31 hf
            exact ih2 _ _ _ _ _ _ _ _ _ hf I (lv_sub hl [1, 2, 5, 0] rfl)
          · have hf := ifn c31 hf
            refine kx_lload 60 C dX5_look_60 (lv_at hl 0 rfl) ?_
            refine kx_lload_n 62 C dX5_look_62 (lv_at hl 4 rfl) ?_
            refine kx_lcmp 63 C dX5_look_63 ?_
            refine kx_if_ge 64 73 C dX5_look_64 (by decide) (fun c32 => ?_) (fun c32 => ?_)
            · have hf := ifp c32 hf
              exact ih3 _ _ _ _ _ _ _ _ _ hf I (lv_sub hl [1, 2, 3, 4, 5] rfl)
            · have hf := ifn c32 hf
              exact ih2 _ _ _ _ _ _ _ _ _ hf I (lv_sub hl [1, 2, 5, 0] rfl)
    · intro S p0 i0 i1 i2 i3 H locs ls hf I hl
      replace hf : b_X5_look_2 (g_X5_look fu) fu S p0 i0 i1 i2 i3 = some (r, S') := hf
      unfold b_X5_look_2 at hf
      refine kx_iload 67 C dX5_look_67 (lv_at hl 2 rfl) ?_
      refine kx_istore_n 69 C (lv' := [(2, .int (iI i1)), (0, .ref (xB G + p0)), (1, .int (iI i0)), (5, .int (iI i1)), (6, .long (lI i2))]) dX5_look_69 hl (by decide) rfl rfl (fun ls hl => ?_)
      refine kx_lload 70 C dX5_look_70 (lv_at hl 4 rfl) ?_
      refine kx_lstore_n 72 C (lv' := [(3, .long (lI i2)), (2, .int (iI i1)), (0, .ref (xB G + p0)), (1, .int (iI i0)), (5, .int (iI i1)), (6, .long (lI i2))]) dX5_look_72 hl (by decide) rfl rfl (fun ls hl => ?_)
      exact ih3 _ _ _ _ _ _ _ _ _ hf I (lv_sub hl [2, 3, 1, 0, 4] rfl)
    · intro S p0 i0 i1 i2 i3 H locs ls hf I hl
      replace hf : b_X5_look_3 (g_X5_look fu) fu S p0 i0 i1 i2 i3 = some (r, S') := hf
      unfold b_X5_look_3 at hf
      obtain ⟨x33, e34, hf⟩ := nmx_e hf
      refine kx_iinc 73 C (lv' := [(5, .int (iI x33)), (0, .ref (xB G + p0)), (1, .int (iI i0)), (2, .int (iI i1)), (3, .long (lI i2))]) dX5_look_73 hl 4 rfl e34 (by decide) rfl (fun ls hl => ?_)
      refine kx_goto 76 21 C dX5_look_76 (by decide) ?_
      exact ih1 _ _ _ _ _ _ _ _ _ hf I (lv_sub hl [1, 2, 3, 4, 0] rfl)
set_option maxHeartbeats 4000000 in
set_option maxRecDepth 100000 in
theorem c_X5_look (G : xG) (l : Launch) (fu : Nat) (S S' : xS) (p0 : Nat) (r : Int) (hf : f_X5_look fu S p0 = some (r, S')) : Met l yX5_look vsX5_look rm_X5_look (va_Pc [.ref (xB G + p0)] (xPre G S)) (xQi G r S') 0 0 (xA G) := by
  refine kx_met (ret := (some .int)) RX5 [(0, .ref (xB G + p0))] (by decide) rfl rfl (Nat.le_of_ble_eq_true rfl) rfl (fun p e s m below meth c ls C hin I hl => ?_)
  exact (w_X5_look C r S' fu).1 S _ _ _ _ _ _ _ _ hf I hl
def rm_X5_doAllFindBy : Room := { frames := 4, cells := 0, slots := 0, locals := 98 }
theorem hin_X5_doAllFindBy_RX1 : ∀ w ∈ wsX10, w ∈ vsX5_doAllFindBy := fun w h => inM (inlX1 w h)
theorem hin_X5_doAllFindBy_RX5 : ∀ w ∈ wsX50, w ∈ vsX5_doAllFindBy := fun w h => inM (inlX5 w h)
theorem fl_X5_doAllFindBy_10 : xFl vsX5_doAllFindBy RX5 10 4 0 := ⟨RX5, TX5, 13, rfl, by decide, hin_X5_doAllFindBy_RX5, inM mq_1_15, rfl⟩
theorem fl_X5_doAllFindBy_69 : xFl vsX5_doAllFindBy RX5 69 1 0 := ⟨RX1, TX1, 14, rfl, by decide, hin_X5_doAllFindBy_RX1, inM mq_5_19, rfl⟩
theorem nyS_X5_doAllFindBy : yX5_doAllFindBy.cls ≠ "java/lang/invoke/MethodHandle" ∧ yX5_doAllFindBy.cls ≠ "java/lang/invoke/VarHandle" ∧ (parseMethodDescriptor yX5_doAllFindBy.desc).map (fun d => d.parameters.length) = some 2 := by decide +kernel
theorem nyV_X5_doAllFindBy : yX5_doAllFindBy.cls = RX5 ∧ yX5_doAllFindBy.cls ≠ "java/lang/invoke/MethodHandle" ∧ yX5_doAllFindBy.cls ≠ "java/lang/invoke/VarHandle" ∧ (parseMethodDescriptor yX5_doAllFindBy.desc).map (fun d => d.parameters.length) = some 2 := by decide +kernel
set_option maxHeartbeats 4000000 in
set_option maxRecDepth 100000 in
theorem w_X5_doAllFindBy {G : xG} {p : Program} {l : Launch} {e : Env} {s : State} {m : MethodId} {args : Array Value} {below : List Frame} {meth : Method} {c : Code} (C : xK G p s m args meth c cX5_doAllFindBy 4 vsX5_doAllFindBy RX5 (some .boolean)) (r : Int) (S' : xS) : ∀ k : Nat,
  (∀ (S : xS) (p0 p1 : Nat) (i0 i1 : Int) (H : Heap) (locs : List Loc) (ls : Array Slot), g_X5_doAllFindBy k 0 S p0 p1 i0 i1 = some (r, S') → xI G S s H locs → lv_has ls 4 [(0, .ref (xB G + p0)), (1, .ref (xB G + p1)), (2, .int (iI i0))] → W p l e rm_X5_doAllFindBy s m args below meth c H locs 0 0 (MQ below (xQi G r S') args s 0 0 (xA G)) (F0 m 0 ls [])) ∧
  (∀ (S : xS) (p0 p1 : Nat) (i0 i1 : Int) (H : Heap) (locs : List Loc) (ls : Array Slot), g_X5_doAllFindBy k 1 S p0 p1 i0 i1 = some (r, S') → xI G S s H locs → lv_has ls 4 [(0, .ref (xB G + p0)), (1, .ref (xB G + p1)), (2, .int (iI i0)), (3, .int (iI i1))] → W p l e rm_X5_doAllFindBy s m args below meth c H locs 0 0 (MQ below (xQi G r S') args s 0 0 (xA G)) (F0 m 2 ls [])) := by
  intro k
  induction k with
  | zero => exact ⟨fun _ _ _ _ _ _ _ _ hf => (by cases hf), fun _ _ _ _ _ _ _ _ hf => (by cases hf)⟩
  | succ fu ih =>
    obtain ⟨ih0, ih1⟩ := ih
    refine ⟨?_, ?_⟩
    · intro S p0 p1 i0 i1 H locs ls hf I hl
      replace hf : b_X5_doAllFindBy_0 (g_X5_doAllFindBy fu) fu S p0 p1 i0 i1 = some (r, S') := hf
      unfold b_X5_doAllFindBy_0 at hf
      refine kx_iconst 0 C dX5_doAllFindBy_0 ?_
      refine kx_istore_n 1 C (lv' := [(3, .int (iI 0)), (0, .ref (xB G + p0)), (1, .ref (xB G + p1)), (2, .int (iI i0))]) dX5_doAllFindBy_1 hl (by decide) rfl rfl (fun ls hl => ?_)
      exact ih1 _ _ _ _ _ _ _ _ hf I (lv_sub hl [1, 2, 3, 0] rfl)
    · intro S p0 p1 i0 i1 H locs ls hf I hl
      replace hf : b_X5_doAllFindBy_1 (g_X5_doAllFindBy fu) fu S p0 p1 i0 i1 = some (r, S') := hf
      unfold b_X5_doAllFindBy_1 at hf
      refine kx_iload_n 2 C dX5_doAllFindBy_2 (lv_at hl 3 rfl) ?_
      refine kx_aload_n 3 C dX5_doAllFindBy_3 (lv_at hl 0 rfl) ?_
      obtain ⟨q2, h1, hf⟩ := ob hf
      refine kx_getp 4 C I fl_X5_doAllFindBy_10 h1 dX5_doAllFindBy_4 ?_
      obtain ⟨x4, h3, hf⟩ := ob hf
      refine kx_geti 7 C I fl_X5_doAllFindBy_69 h3 dX5_doAllFindBy_7 ?_
      refine kx_icmp_ge 10 31 C dX5_doAllFindBy_10 (by decide) (fun c5 => ?_) (fun c5 => ?_)
      · have hf := ifp c5 hf
        refine kx_iconst 31 C dX5_doAllFindBy_31 ?_
        exact kx_zret 32 C I (by decide) hf dX5_doAllFindBy_32
      · have hf := ifn c5 hf
        refine kx_aload_n 13 C dX5_doAllFindBy_13 (lv_at hl 0 rfl) ?_
        refine kx_aload_n 14 C dX5_doAllFindBy_14 (lv_at hl 1 rfl) ?_
        refine kx_iload_n 15 C dX5_doAllFindBy_15 (lv_at hl 3 rfl) ?_
        refine kx_iload_n 16 C dX5_doAllFindBy_16 (lv_at hl 2 rfl) ?_
        obtain ⟨h9, hf⟩ := ift hf
        obtain ⟨x8, S6, h7, hf⟩ := ob2 hf
        refine kx_callVi 17 C hl I (ci := 4) (As := [.ref (xB G + p1), .int (iI i1), .int (iI i0)]) (rest := []) (c_X5_doesFind G l fu _ _ _ _ _ _ _ h7) (cwV 3 C.ts gX5_doAllFindBy_X5_doesFind rfl rfl rfl nyV_X5_doesFind ⟨Nat.le_of_ble_eq_true rfl, Nat.le_of_ble_eq_true rfl⟩) rfl h9 rfl rfl (Nat.le_of_ble_eq_true rfl) dX5_doAllFindBy_17 ⟨Nat.le_of_ble_eq_true rfl, Nat.le_of_ble_eq_true rfl⟩ (fun H locs I => ?_)
        refine kx_if_ne 20 25 C dX5_doAllFindBy_20 (by decide) (fun c10 => ?_) (fun c10 => ?_)
        · have hf := ifn c10 hf
          obtain ⟨x11, e12, hf⟩ := nmx_e hf
          refine kx_iinc 25 C (lv' := [(3, .int (iI x11)), (0, .ref (xB G + p0)), (1, .ref (xB G + p1)), (2, .int (iI i0))]) dX5_doAllFindBy_25 hl 3 rfl e12 (by decide) rfl (fun ls hl => ?_)
          refine kx_goto 28 2 C dX5_doAllFindBy_28 (by decide) ?_
          exact ih1 _ _ _ _ _ _ _ _ hf I (lv_sub hl [1, 2, 3, 0] rfl)
        · have hf := ifp c10 hf
          refine kx_iconst 23 C dX5_doAllFindBy_23 ?_
          exact kx_zret 24 C I (by decide) hf dX5_doAllFindBy_24
set_option maxHeartbeats 4000000 in
set_option maxRecDepth 100000 in
theorem c_X5_doAllFindBy (G : xG) (l : Launch) (fu : Nat) (S S' : xS) (p0 : Nat) (p1 : Nat) (i0 : Int) (r : Int) (hf : f_X5_doAllFindBy fu S p0 p1 i0 = some (r, S')) : Met l yX5_doAllFindBy vsX5_doAllFindBy rm_X5_doAllFindBy (va_Pc [.ref (xB G + p0), .ref (xB G + p1), .int (iI i0)] (xPre G S)) (xQi G r S') 0 0 (xA G) := by
  refine kx_met (ret := (some .boolean)) RX5 [(0, .ref (xB G + p0)), (1, .ref (xB G + p1)), (2, .int (iI i0))] (by decide) rfl rfl (Nat.le_of_ble_eq_true rfl) rfl (fun p e s m below meth c ls C hin I hl => ?_)
  exact (w_X5_doAllFindBy C r S' fu).1 S _ _ _ _ _ _ _ hf I hl
def rm_X5_tallyRules : Room := { frames := 5, cells := 0, slots := 0, locals := 121 }
theorem hin_X5_tallyRules_RX1 : ∀ w ∈ wsX10, w ∈ vsX5_tallyRules := fun w h => inM (inlX1 w h)
theorem hin_X5_tallyRules_RX5 : ∀ w ∈ wsX50, w ∈ vsX5_tallyRules := fun w h => inM (inlX5 w h)
theorem fl_X5_tallyRules_10 : xFl vsX5_tallyRules RX5 10 4 0 := ⟨RX5, TX5, 13, rfl, by decide, hin_X5_tallyRules_RX5, inM mq_1_15, rfl⟩
theorem fl_X5_tallyRules_37 : xFl vsX5_tallyRules RX5 37 4 5 := ⟨RX5, TX5, 13, rfl, by decide, hin_X5_tallyRules_RX5, inM mq_2_3, rfl⟩
theorem fl_X5_tallyRules_41 : xFl vsX5_tallyRules RX5 41 4 6 := ⟨RX5, TX5, 13, rfl, by decide, hin_X5_tallyRules_RX5, inM mq_2_4, rfl⟩
theorem fl_X5_tallyRules_69 : xFl vsX5_tallyRules RX5 69 1 0 := ⟨RX1, TX1, 14, rfl, by decide, hin_X5_tallyRules_RX1, inM mq_5_19, rfl⟩
theorem mw_X5_tallyRules_0 : Cond.fieldLink RX5 201 "BoxRings" "WAYS_OF" "[I" ∈ vsX5_tallyRules := inM mq_10_21
theorem nyS_X5_tallyRules : yX5_tallyRules.cls ≠ "java/lang/invoke/MethodHandle" ∧ yX5_tallyRules.cls ≠ "java/lang/invoke/VarHandle" ∧ (parseMethodDescriptor yX5_tallyRules.desc).map (fun d => d.parameters.length) = some 0 := by decide +kernel
theorem nyV_X5_tallyRules : yX5_tallyRules.cls = RX5 ∧ yX5_tallyRules.cls ≠ "java/lang/invoke/MethodHandle" ∧ yX5_tallyRules.cls ≠ "java/lang/invoke/VarHandle" ∧ (parseMethodDescriptor yX5_tallyRules.desc).map (fun d => d.parameters.length) = some 0 := by decide +kernel
set_option maxHeartbeats 4000000 in
set_option maxRecDepth 100000 in
theorem w_X5_tallyRules {G : xG} {p : Program} {l : Launch} {e : Env} {s : State} {m : MethodId} {args : Array Value} {below : List Frame} {meth : Method} {c : Code} (C : xK G p s m args meth c cX5_tallyRules 5 vsX5_tallyRules RX5 (some .int)) (r : Int) (S' : xS) : ∀ k : Nat,
  (∀ (S : xS) (p0 p1 : Nat) (i0 i1 i2 i3 i4 i5 i6 : Int) (H : Heap) (locs : List Loc) (ls : Array Slot), g_X5_tallyRules k 0 S p0 p1 i0 i1 i2 i3 i4 i5 i6 = some (r, S') → xI G S s H locs → lv_has ls 5 [(0, .ref (xB G + p0))] → W p l e rm_X5_tallyRules s m args below meth c H locs 0 0 (MQ below (xQi G r S') args s 0 0 (xA G)) (F0 m 0 ls [])) ∧
  (∀ (S : xS) (p0 p1 : Nat) (i0 i1 i2 i3 i4 i5 i6 : Int) (H : Heap) (locs : List Loc) (ls : Array Slot), g_X5_tallyRules k 1 S p0 p1 i0 i1 i2 i3 i4 i5 i6 = some (r, S') → xI G S s H locs → lv_has ls 5 [(0, .ref (xB G + p0)), (1, .int (iI i0)), (2, .int (iI i1)), (3, .int (iI i2))] → W p l e rm_X5_tallyRules s m args below meth c H locs 0 0 (MQ below (xQi G r S') args s 0 0 (xA G)) (F0 m 28 ls [])) ∧
  (∀ (S : xS) (p0 p1 : Nat) (i0 i1 i2 i3 i4 i5 i6 : Int) (H : Heap) (locs : List Loc) (ls : Array Slot), g_X5_tallyRules k 2 S p0 p1 i0 i1 i2 i3 i4 i5 i6 = some (r, S') → xI G S s H locs → lv_has ls 5 [(0, .ref (xB G + p0)), (1, .int (iI i0)), (2, .int (iI i1)), (3, .int (iI i2)), (4, .int (iI i3))] → W p l e rm_X5_tallyRules s m args below meth c H locs 0 0 (MQ below (xQi G r S') args s 0 0 (xA G)) (F0 m 50 ls [])) ∧
  (∀ (S : xS) (p0 p1 : Nat) (i0 i1 i2 i3 i4 i5 i6 : Int) (H : Heap) (locs : List Loc) (ls : Array Slot), g_X5_tallyRules k 3 S p0 p1 i0 i1 i2 i3 i4 i5 i6 = some (r, S') → xI G S s H locs → lv_has ls 5 [(0, .ref (xB G + p0)), (1, .int (iI i0)), (2, .int (iI i1)), (3, .int (iI i2)), (4, .int (iI i3))] → W p l e rm_X5_tallyRules s m args below meth c H locs 0 0 (MQ below (xQi G r S') args s 0 0 (xA G)) (F0 m 83 ls [.int (iI i6), .int (iI i5), .int (iI i4), .ref (xB G + p1)])) ∧
  (∀ (S : xS) (p0 p1 : Nat) (i0 i1 i2 i3 i4 i5 i6 : Int) (H : Heap) (locs : List Loc) (ls : Array Slot), g_X5_tallyRules k 4 S p0 p1 i0 i1 i2 i3 i4 i5 i6 = some (r, S') → xI G S s H locs → lv_has ls 5 [(0, .ref (xB G + p0)), (1, .int (iI i0)), (2, .int (iI i1)), (3, .int (iI i2))] → W p l e rm_X5_tallyRules s m args below meth c H locs 0 0 (MQ below (xQi G r S') args s 0 0 (xA G)) (F0 m 91 ls [])) := by
  intro k
  induction k with
  | zero => exact ⟨fun _ _ _ _ _ _ _ _ _ _ _ _ _ hf => (by cases hf), fun _ _ _ _ _ _ _ _ _ _ _ _ _ hf => (by cases hf), fun _ _ _ _ _ _ _ _ _ _ _ _ _ hf => (by cases hf), fun _ _ _ _ _ _ _ _ _ _ _ _ _ hf => (by cases hf), fun _ _ _ _ _ _ _ _ _ _ _ _ _ hf => (by cases hf)⟩
  | succ fu ih =>
    obtain ⟨ih0, ih1, ih2, ih3, ih4⟩ := ih
    refine ⟨?_, ?_, ?_, ?_, ?_⟩
    · intro S p0 p1 i0 i1 i2 i3 i4 i5 i6 H locs ls hf I hl
      replace hf : b_X5_tallyRules_0 (g_X5_tallyRules fu) fu S p0 p1 i0 i1 i2 i3 i4 i5 i6 = some (r, S') := hf
      unfold b_X5_tallyRules_0 at hf
      refine kx_aload_n 0 C dX5_tallyRules_0 (lv_at hl 0 rfl) ?_
      obtain ⟨q2, h1, hf⟩ := ob hf
      refine kx_getp 1 C I fl_X5_tallyRules_10 h1 dX5_tallyRules_1 ?_
      obtain ⟨x4, h3, hf⟩ := ob hf
      refine kx_geti 4 C I fl_X5_tallyRules_69 h3 dX5_tallyRules_4 ?_
      refine kx_istore_n 7 C (lv' := [(1, .int (iI x4)), (0, .ref (xB G + p0))]) dX5_tallyRules_7 hl (by decide) rfl rfl (fun ls hl => ?_)
      refine kx_iconst 8 C dX5_tallyRules_8 ?_
      refine kx_istore_n 9 C (lv' := [(2, .int (iI 0)), (1, .int (iI x4)), (0, .ref (xB G + p0))]) dX5_tallyRules_9 hl (by decide) rfl rfl (fun ls hl => ?_)
      refine kx_aload_n 10 C dX5_tallyRules_10 (lv_at hl 2 rfl) ?_
      obtain ⟨q6, h5, hf⟩ := ob hf
      refine kx_getp 11 C I fl_X5_tallyRules_41 h5 dX5_tallyRules_11 ?_
      refine kx_iconst 14 C dX5_tallyRules_14 ?_
      obtain ⟨z9, S7, h8, hf⟩ := ob2 hf
      refine kx_callSv 15 C hl I (As := [.ref (xB G + q6), .int (iI 0)]) (rest := []) (c_J7_fill_53178 G l fu _ _ _ _ _ h8) (va_cwS 2 C.ts gX5_tallyRules_J7_fill_53178 rfl rfl rfl nyS_J7_fill_53178 ⟨Nat.le_of_ble_eq_true rfl, Nat.le_of_ble_eq_true rfl⟩) rfl rfl (Nat.le_of_ble_eq_true rfl) dX5_tallyRules_15 ⟨Nat.le_of_ble_eq_true rfl, Nat.le_of_ble_eq_true rfl⟩ (fun H locs I => ?_)
      refine kx_aload_n 18 C dX5_tallyRules_18 (lv_at hl 2 rfl) ?_
      obtain ⟨q11, h10, hf⟩ := ob hf
      refine kx_getp 19 C I fl_X5_tallyRules_37 h10 dX5_tallyRules_19 ?_
      refine kx_iload_n 22 C dX5_tallyRules_22 (lv_at hl 1 rfl) ?_
      obtain ⟨z14, S12, h13, hf⟩ := ob2 hf
      refine kx_callSv 23 C hl I (As := [.ref (xB G + q11), .int (iI x4)]) (rest := []) (c_X4_setToFirst G l fu _ _ _ _ _ h13) (va_cwS 2 C.ts gX5_tallyRules_X4_setToFirst rfl rfl rfl nyS_X4_setToFirst ⟨Nat.le_of_ble_eq_true rfl, Nat.le_of_ble_eq_true rfl⟩) rfl rfl (Nat.le_of_ble_eq_true rfl) dX5_tallyRules_23 ⟨Nat.le_of_ble_eq_true rfl, Nat.le_of_ble_eq_true rfl⟩ (fun H locs I => ?_)
      refine kx_iconst 26 C dX5_tallyRules_26 ?_
      refine kx_istore_n 27 C (lv' := [(3, .int (iI 0)), (2, .int (iI 0)), (1, .int (iI x4)), (0, .ref (xB G + p0))]) dX5_tallyRules_27 hl (by decide) rfl rfl (fun ls hl => ?_)
      exact ih1 _ _ _ _ _ _ _ _ _ _ _ _ _ hf I (lv_sub hl [3, 2, 1, 0] rfl)
    · intro S p0 p1 i0 i1 i2 i3 i4 i5 i6 H locs ls hf I hl
      replace hf : b_X5_tallyRules_1 (g_X5_tallyRules fu) fu S p0 p1 i0 i1 i2 i3 i4 i5 i6 = some (r, S') := hf
      unfold b_X5_tallyRules_1 at hf
      refine kx_iload_n 28 C dX5_tallyRules_28 (lv_at hl 3 rfl) ?_
      refine kx_gets 29 C I mw_X5_tallyRules_0 dX5_tallyRules_29 ?_
      refine kx_iload_n 32 C dX5_tallyRules_32 (lv_at hl 1 rfl) ?_
      obtain ⟨x15, h16, hf⟩ := ob hf
      refine kx_tab 33 C I h16 dX5_tallyRules_33 ?_
      refine kx_icmp_ge 34 105 C dX5_tallyRules_34 (by decide) (fun c17 => ?_) (fun c17 => ?_)
      · have hf := ifp c17 hf
        refine kx_iload_n 105 C dX5_tallyRules_105 (lv_at hl 2 rfl) ?_
        exact kx_iret 106 C I hf dX5_tallyRules_106
      · have hf := ifn c17 hf
        refine kx_aload_n 37 C dX5_tallyRules_37 (lv_at hl 0 rfl) ?_
        obtain ⟨h21, hf⟩ := ift hf
        obtain ⟨x20, S18, h19, hf⟩ := ob2 hf
        refine kx_callVi 38 C hl I (ci := 4) (As := []) (rest := []) (c_X5_mayTrialBe G l fu _ _ _ _ h19) (cwV 0 C.ts gX5_tallyRules_X5_mayTrialBe rfl rfl rfl nyV_X5_mayTrialBe ⟨Nat.le_of_ble_eq_true rfl, Nat.le_of_ble_eq_true rfl⟩) rfl h21 rfl rfl (Nat.le_of_ble_eq_true rfl) dX5_tallyRules_38 ⟨Nat.le_of_ble_eq_true rfl, Nat.le_of_ble_eq_true rfl⟩ (fun H locs I => ?_)
        refine kx_if_eq 41 91 C dX5_tallyRules_41 (by decide) (fun c22 => ?_) (fun c22 => ?_)
        · have hf := ifp c22 hf
          exact ih4 _ _ _ _ _ _ _ _ _ _ _ _ _ hf I (lv_sub hl [0, 1, 2, 3] rfl)
        · have hf := ifn c22 hf
          obtain ⟨x23, e24, hf⟩ := nmx_e hf
          refine kx_iinc 44 C (lv' := [(2, .int (iI x23)), (0, .ref (xB G + p0)), (1, .int (iI i0)), (3, .int (iI i2))]) dX5_tallyRules_44 hl 2 rfl e24 (by decide) rfl (fun ls hl => ?_)
          refine kx_iconst 47 C dX5_tallyRules_47 ?_
          refine kx_istore 48 C (lv' := [(4, .int (iI 0)), (2, .int (iI x23)), (0, .ref (xB G + p0)), (1, .int (iI i0)), (3, .int (iI i2))]) dX5_tallyRules_48 hl (by decide) rfl rfl (fun ls hl => ?_)
          exact ih2 _ _ _ _ _ _ _ _ _ _ _ _ _ hf I (lv_sub hl [2, 3, 1, 4, 0] rfl)
    · intro S p0 p1 i0 i1 i2 i3 i4 i5 i6 H locs ls hf I hl
      replace hf : b_X5_tallyRules_2 (g_X5_tallyRules fu) fu S p0 p1 i0 i1 i2 i3 i4 i5 i6 = some (r, S') := hf
      unfold b_X5_tallyRules_2 at hf
      refine kx_iload 50 C dX5_tallyRules_50 (lv_at hl 4 rfl) ?_
      refine kx_bipush 52 C dX5_tallyRules_52 (by decide) ?_
      refine kx_icmp_ge 54 91 C dX5_tallyRules_54 (by decide) (fun c25 => ?_) (fun c25 => ?_)
      · have hf := ifp c25 hf
        exact ih4 _ _ _ _ _ _ _ _ _ _ _ _ _ hf I (lv_sub hl [0, 1, 2, 3] rfl)
      · have hf := ifn c25 hf
        refine kx_aload_n 57 C dX5_tallyRules_57 (lv_at hl 0 rfl) ?_
        obtain ⟨q27, h26, hf⟩ := ob hf
        refine kx_getp 58 C I fl_X5_tallyRules_41 h26 dX5_tallyRules_58 ?_
        refine kx_iload 61 C dX5_tallyRules_61 (lv_at hl 4 rfl) ?_
        refine kx_dup2 63 C dX5_tallyRules_63 rfl rfl ?_
        obtain ⟨x28, h29, hf⟩ := ob hf
        refine kx_iald 64 C I h29 dX5_tallyRules_64 ?_
        refine kx_aload_n 65 C dX5_tallyRules_65 (lv_at hl 0 rfl) ?_
        refine kx_aload_n 66 C dX5_tallyRules_66 (lv_at hl 0 rfl) ?_
        obtain ⟨q31, h30, hf⟩ := ob hf
        refine kx_getp 67 C I fl_X5_tallyRules_37 h30 dX5_tallyRules_67 ?_
        refine kx_iload 70 C dX5_tallyRules_70 (lv_at hl 4 rfl) ?_
        obtain ⟨h35, hf⟩ := ift hf
        obtain ⟨x34, S32, h33, hf⟩ := ob2 hf
        refine kx_callVi 72 C hl I (ci := 4) (As := [.ref (xB G + q31), .int (iI i3)]) (rest := [.int (iI x28), .int (iI i3), .ref (xB G + q27)]) (c_X5_doAllFindBy G l fu _ _ _ _ _ _ h33) (cwV 2 C.ts gX5_tallyRules_X5_doAllFindBy rfl rfl rfl nyV_X5_doAllFindBy ⟨Nat.le_of_ble_eq_true rfl, Nat.le_of_ble_eq_true rfl⟩) rfl h35 rfl rfl (Nat.le_of_ble_eq_true rfl) dX5_tallyRules_72 ⟨Nat.le_of_ble_eq_true rfl, Nat.le_of_ble_eq_true rfl⟩ (fun H locs I => ?_)
        refine kx_if_eq 75 82 C dX5_tallyRules_75 (by decide) (fun c36 => ?_) (fun c36 => ?_)
        · have hf := ifp c36 hf
          refine kx_iconst 82 C dX5_tallyRules_82 ?_
          exact ih3 _ _ _ _ _ _ _ _ _ _ _ _ _ hf I (lv_sub hl [0, 1, 2, 3, 4] rfl)
        · have hf := ifn c36 hf
          refine kx_iconst 78 C dX5_tallyRules_78 ?_
          refine kx_goto 79 83 C dX5_tallyRules_79 (by decide) ?_
          exact ih3 _ _ _ _ _ _ _ _ _ _ _ _ _ hf I (lv_sub hl [0, 1, 2, 3, 4] rfl)
    · intro S p0 p1 i0 i1 i2 i3 i4 i5 i6 H locs ls hf I hl
      replace hf : b_X5_tallyRules_3 (g_X5_tallyRules fu) fu S p0 p1 i0 i1 i2 i3 i4 i5 i6 = some (r, S') := hf
      unfold b_X5_tallyRules_3 at hf
      refine kx_iadd 83 C dX5_tallyRules_83 ?_
      obtain ⟨S38, h37, hf⟩ := ob hf
      refine kx_iast 84 C I h37 dX5_tallyRules_84 (fun H locs I => ?_)
      obtain ⟨x39, e40, hf⟩ := nmx_e hf
      refine kx_iinc 85 C (lv' := [(4, .int (iI x39)), (0, .ref (xB G + p0)), (1, .int (iI i0)), (2, .int (iI i1)), (3, .int (iI i2))]) dX5_tallyRules_85 hl 4 rfl e40 (by decide) rfl (fun ls hl => ?_)
      refine kx_goto 88 50 C dX5_tallyRules_88 (by decide) ?_
      exact ih2 _ _ _ _ _ _ _ _ _ _ _ _ _ hf I (lv_sub hl [1, 2, 3, 4, 0] rfl)
    · intro S p0 p1 i0 i1 i2 i3 i4 i5 i6 H locs ls hf I hl
      replace hf : b_X5_tallyRules_4 (g_X5_tallyRules fu) fu S p0 p1 i0 i1 i2 i3 i4 i5 i6 = some (r, S') := hf
      unfold b_X5_tallyRules_4 at hf
      refine kx_aload_n 91 C dX5_tallyRules_91 (lv_at hl 0 rfl) ?_
      obtain ⟨q42, h41, hf⟩ := ob hf
      refine kx_getp 92 C I fl_X5_tallyRules_37 h41 dX5_tallyRules_92 ?_
      refine kx_iload_n 95 C dX5_tallyRules_95 (lv_at hl 1 rfl) ?_
      obtain ⟨z45, S43, h44, hf⟩ := ob2 hf
      refine kx_callSv 96 C hl I (As := [.ref (xB G + q42), .int (iI i0)]) (rest := []) (c_X4_setToNext G l fu _ _ _ _ _ h44) (va_cwS 2 C.ts gX5_tallyRules_X4_setToNext rfl rfl rfl nyS_X4_setToNext ⟨Nat.le_of_ble_eq_true rfl, Nat.le_of_ble_eq_true rfl⟩) rfl rfl (Nat.le_of_ble_eq_true rfl) dX5_tallyRules_96 ⟨Nat.le_of_ble_eq_true rfl, Nat.le_of_ble_eq_true rfl⟩ (fun H locs I => ?_)
      obtain ⟨x46, e47, hf⟩ := nmx_e hf
      refine kx_iinc 99 C (lv' := [(3, .int (iI x46)), (0, .ref (xB G + p0)), (1, .int (iI i0)), (2, .int (iI i1))]) dX5_tallyRules_99 hl 3 rfl e47 (by decide) rfl (fun ls hl => ?_)
      refine kx_goto 102 28 C dX5_tallyRules_102 (by decide) ?_
      exact ih1 _ _ _ _ _ _ _ _ _ _ _ _ _ hf I (lv_sub hl [1, 2, 3, 0] rfl)
set_option maxHeartbeats 4000000 in
set_option maxRecDepth 100000 in
theorem c_X5_tallyRules (G : xG) (l : Launch) (fu : Nat) (S S' : xS) (p0 : Nat) (r : Int) (hf : f_X5_tallyRules fu S p0 = some (r, S')) : Met l yX5_tallyRules vsX5_tallyRules rm_X5_tallyRules (va_Pc [.ref (xB G + p0)] (xPre G S)) (xQi G r S') 0 0 (xA G) := by
  refine kx_met (ret := (some .int)) RX5 [(0, .ref (xB G + p0))] (by decide) rfl rfl (Nat.le_of_ble_eq_true rfl) rfl (fun p e s m below meth c ls C hin I hl => ?_)
  exact (w_X5_tallyRules C r S' fu).1 S _ _ _ _ _ _ _ _ _ _ _ _ hf I hl
def rm_X5_advice : Room := { frames := 6, cells := 0, slots := 0, locals := 145 }
theorem hin_X5_advice_RX5 : ∀ w ∈ wsX50, w ∈ vsX5_advice := fun w h => inM (inlX5 w h)
theorem fl_X5_advice_41 : xFl vsX5_advice RX5 41 4 6 := ⟨RX5, TX5, 13, rfl, by decide, hin_X5_advice_RX5, inM mq_2_4, rfl⟩
theorem nyS_X5_advice : yX5_advice.cls ≠ "java/lang/invoke/MethodHandle" ∧ yX5_advice.cls ≠ "java/lang/invoke/VarHandle" ∧ (parseMethodDescriptor yX5_advice.desc).map (fun d => d.parameters.length) = some 0 := by decide +kernel
theorem nyV_X5_advice : yX5_advice.cls = RX5 ∧ yX5_advice.cls ≠ "java/lang/invoke/MethodHandle" ∧ yX5_advice.cls ≠ "java/lang/invoke/VarHandle" ∧ (parseMethodDescriptor yX5_advice.desc).map (fun d => d.parameters.length) = some 0 := by decide +kernel
set_option maxHeartbeats 4000000 in
set_option maxRecDepth 100000 in
theorem w_X5_advice {G : xG} {p : Program} {l : Launch} {e : Env} {s : State} {m : MethodId} {args : Array Value} {below : List Frame} {meth : Method} {c : Code} (C : xK G p s m args meth c cX5_advice 4 vsX5_advice RX5 (some .int)) (r : Int) (S' : xS) : ∀ k : Nat,
  (∀ (S : xS) (p0 : Nat) (i0 i1 i2 : Int) (H : Heap) (locs : List Loc) (ls : Array Slot), g_X5_advice k 0 S p0 i0 i1 i2 = some (r, S') → xI G S s H locs → lv_has ls 4 [(0, .ref (xB G + p0))] → W p l e rm_X5_advice s m args below meth c H locs 0 0 (MQ below (xQi G r S') args s 0 0 (xA G)) (F0 m 0 ls [])) ∧
  (∀ (S : xS) (p0 : Nat) (i0 i1 i2 : Int) (H : Heap) (locs : List Loc) (ls : Array Slot), g_X5_advice k 1 S p0 i0 i1 i2 = some (r, S') → xI G S s H locs → lv_has ls 4 [(0, .ref (xB G + p0)), (1, .int (iI i0)), (2, .int (iI i1)), (3, .int (iI i2))] → W p l e rm_X5_advice s m args below meth c H locs 0 0 (MQ below (xQi G r S') args s 0 0 (xA G)) (F0 m 18 ls [])) ∧
  (∀ (S : xS) (p0 : Nat) (i0 i1 i2 : Int) (H : Heap) (locs : List Loc) (ls : Array Slot), g_X5_advice k 2 S p0 i0 i1 i2 = some (r, S') → xI G S s H locs → lv_has ls 4 [(0, .ref (xB G + p0)), (1, .int (iI i0)), (2, .int (iI i1)), (3, .int (iI i2))] → W p l e rm_X5_advice s m args below meth c H locs 0 0 (MQ below (xQi G r S') args s 0 0 (xA G)) (F0 m 41 ls [])) := by
  intro k
  induction k with
  | zero => exact ⟨fun _ _ _ _ _ _ _ _ hf => (by cases hf), fun _ _ _ _ _ _ _ _ hf => (by cases hf), fun _ _ _ _ _ _ _ _ hf => (by cases hf)⟩
  | succ fu ih =>
    obtain ⟨ih0, ih1, ih2⟩ := ih
    refine ⟨?_, ?_, ?_⟩
    · intro S p0 i0 i1 i2 H locs ls hf I hl
      replace hf : b_X5_advice_0 (g_X5_advice fu) fu S p0 i0 i1 i2 = some (r, S') := hf
      unfold b_X5_advice_0 at hf
      refine kx_aload_n 0 C dX5_advice_0 (lv_at hl 0 rfl) ?_
      obtain ⟨h4, hf⟩ := ift hf
      obtain ⟨x3, S1, h2, hf⟩ := ob2 hf
      refine kx_callVi 1 C hl I (ci := 4) (As := []) (rest := []) (c_X5_tallyRules G l fu _ _ _ _ h2) (cwV 0 C.ts gX5_advice_X5_tallyRules rfl rfl rfl nyV_X5_tallyRules ⟨Nat.le_of_ble_eq_true rfl, Nat.le_of_ble_eq_true rfl⟩) rfl h4 rfl rfl (Nat.le_of_ble_eq_true rfl) dX5_advice_1 ⟨Nat.le_of_ble_eq_true rfl, Nat.le_of_ble_eq_true rfl⟩ (fun H locs I => ?_)
      refine kx_istore_n 4 C (lv' := [(1, .int (iI x3)), (0, .ref (xB G + p0))]) dX5_advice_4 hl (by decide) rfl rfl (fun ls hl => ?_)
      refine kx_iload_n 5 C dX5_advice_5 (lv_at hl 0 rfl) ?_
      refine kx_if_ne 6 14 C dX5_advice_6 (by decide) (fun c5 => ?_) (fun c5 => ?_)
      · have hf := ifn c5 hf
        refine kx_iconst 14 C dX5_advice_14 ?_
        refine kx_istore_n 15 C (lv' := [(2, .int (iI 0)), (1, .int (iI x3)), (0, .ref (xB G + p0))]) dX5_advice_15 hl (by decide) rfl rfl (fun ls hl => ?_)
        refine kx_iconst 16 C dX5_advice_16 ?_
        refine kx_istore_n 17 C (lv' := [(3, .int (iI 1)), (2, .int (iI 0)), (1, .int (iI x3)), (0, .ref (xB G + p0))]) dX5_advice_17 hl (by decide) rfl rfl (fun ls hl => ?_)
        exact ih1 _ _ _ _ _ _ _ _ hf I (lv_sub hl [3, 2, 1, 0] rfl)
      · have hf := ifp c5 hf
        refine kx_aload_n 9 C dX5_advice_9 (lv_at hl 1 rfl) ?_
        obtain ⟨h9, hf⟩ := ift hf
        obtain ⟨x8, S6, h7, hf⟩ := ob2 hf
        refine kx_callVi 10 C hl I (ci := 4) (As := []) (rest := []) (c_X5_refuseNo G l fu _ _ _ _ h7) (cwV 0 C.ts gX5_advice_X5_refuseNo rfl rfl rfl nyV_X5_refuseNo ⟨Nat.le_of_ble_eq_true rfl, Nat.le_of_ble_eq_true rfl⟩) rfl h9 rfl rfl (Nat.le_of_ble_eq_true rfl) dX5_advice_10 ⟨Nat.le_of_ble_eq_true rfl, Nat.le_of_ble_eq_true rfl⟩ (fun H locs I => ?_)
        exact kx_iret 13 C I hf dX5_advice_13
    · intro S p0 i0 i1 i2 H locs ls hf I hl
      replace hf : b_X5_advice_1 (g_X5_advice fu) fu S p0 i0 i1 i2 = some (r, S') := hf
      unfold b_X5_advice_1 at hf
      refine kx_iload_n 18 C dX5_advice_18 (lv_at hl 3 rfl) ?_
      refine kx_bipush 19 C dX5_advice_19 (by decide) ?_
      refine kx_icmp_ge 21 47 C dX5_advice_21 (by decide) (fun c10 => ?_) (fun c10 => ?_)
      · have hf := ifp c10 hf
        refine kx_aload_n 47 C dX5_advice_47 (lv_at hl 0 rfl) ?_
        refine kx_aload_n 48 C dX5_advice_48 (lv_at hl 0 rfl) ?_
        obtain ⟨q12, h11, hf⟩ := ob hf
        refine kx_getp 49 C I fl_X5_advice_41 h11 dX5_advice_49 ?_
        refine kx_iload_n 52 C dX5_advice_52 (lv_at hl 2 rfl) ?_
        obtain ⟨x13, h14, hf⟩ := ob hf
        refine kx_iald 53 C I h14 dX5_advice_53 ?_
        refine kx_i2l 54 C dX5_advice_54 ?_
        refine kx_iload_n 55 C dX5_advice_55 (lv_at hl 1 rfl) ?_
        refine kx_i2l 56 C dX5_advice_56 ?_
        obtain ⟨h18, hf⟩ := ift hf
        obtain ⟨z17, S15, h16, hf⟩ := ob2 hf
        refine kx_callVv 57 C hl I (ci := 4) (As := [.long (lI (wI x13)), .long (lI (wI i0))]) (rest := []) (c_X5_setFraction G l fu _ _ _ _ _ _ h16) (cwV 2 C.ts gX5_advice_X5_setFraction rfl rfl rfl nyV_X5_setFraction ⟨Nat.le_of_ble_eq_true rfl, Nat.le_of_ble_eq_true rfl⟩) rfl h18 rfl rfl (Nat.le_of_ble_eq_true rfl) dX5_advice_57 ⟨Nat.le_of_ble_eq_true rfl, Nat.le_of_ble_eq_true rfl⟩ (fun H locs I => ?_)
        refine kx_iload_n 60 C dX5_advice_60 (lv_at hl 2 rfl) ?_
        exact kx_iret 61 C I hf dX5_advice_61
      · have hf := ifn c10 hf
        refine kx_aload_n 24 C dX5_advice_24 (lv_at hl 0 rfl) ?_
        obtain ⟨q20, h19, hf⟩ := ob hf
        refine kx_getp 25 C I fl_X5_advice_41 h19 dX5_advice_25 ?_
        refine kx_iload_n 28 C dX5_advice_28 (lv_at hl 3 rfl) ?_
        obtain ⟨x21, h22, hf⟩ := ob hf
        refine kx_iald 29 C I h22 dX5_advice_29 ?_
        refine kx_aload_n 30 C dX5_advice_30 (lv_at hl 0 rfl) ?_
        obtain ⟨q24, h23, hf⟩ := ob hf
        refine kx_getp 31 C I fl_X5_advice_41 h23 dX5_advice_31 ?_
        refine kx_iload_n 34 C dX5_advice_34 (lv_at hl 2 rfl) ?_
        obtain ⟨x25, h26, hf⟩ := ob hf
        refine kx_iald 35 C I h26 dX5_advice_35 ?_
        refine kx_icmp_le 36 41 C dX5_advice_36 (by decide) (fun c27 => ?_) (fun c27 => ?_)
        · have hf := ifp c27 hf
          exact ih2 _ _ _ _ _ _ _ _ hf I (lv_sub hl [0, 1, 2, 3] rfl)
        · have hf := ifn c27 hf
          refine kx_iload_n 39 C dX5_advice_39 (lv_at hl 3 rfl) ?_
          refine kx_istore_n 40 C (lv' := [(2, .int (iI i2)), (0, .ref (xB G + p0)), (1, .int (iI i0)), (3, .int (iI i2))]) dX5_advice_40 hl (by decide) rfl rfl (fun ls hl => ?_)
          exact ih2 _ _ _ _ _ _ _ _ hf I (lv_sub hl [1, 2, 0, 3] rfl)
    · intro S p0 i0 i1 i2 H locs ls hf I hl
      replace hf : b_X5_advice_2 (g_X5_advice fu) fu S p0 i0 i1 i2 = some (r, S') := hf
      unfold b_X5_advice_2 at hf
      obtain ⟨x28, e29, hf⟩ := nmx_e hf
      refine kx_iinc 41 C (lv' := [(3, .int (iI x28)), (0, .ref (xB G + p0)), (1, .int (iI i0)), (2, .int (iI i1))]) dX5_advice_41 hl 3 rfl e29 (by decide) rfl (fun ls hl => ?_)
      refine kx_goto 44 18 C dX5_advice_44 (by decide) ?_
      exact ih1 _ _ _ _ _ _ _ _ hf I (lv_sub hl [1, 2, 3, 0] rfl)
set_option maxHeartbeats 4000000 in
set_option maxRecDepth 100000 in
theorem c_X5_advice (G : xG) (l : Launch) (fu : Nat) (S S' : xS) (p0 : Nat) (r : Int) (hf : f_X5_advice fu S p0 = some (r, S')) : Met l yX5_advice vsX5_advice rm_X5_advice (va_Pc [.ref (xB G + p0)] (xPre G S)) (xQi G r S') 0 0 (xA G) := by
  refine kx_met (ret := (some .int)) RX5 [(0, .ref (xB G + p0))] (by decide) rfl rfl (Nat.le_of_ble_eq_true rfl) rfl (fun p e s m below meth c ls C hin I hl => ?_)
  exact (w_X5_advice C r S' fu).1 S _ _ _ _ _ _ _ hf I hl
