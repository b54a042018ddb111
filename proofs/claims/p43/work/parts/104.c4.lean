def rm_X5_opened : Room := { frames := 3, cells := 0, slots := 0, locals := 75 }
theorem hin_X5_opened_RX1 : ∀ w ∈ wsX10, w ∈ vsX5_opened := fun w h => inM (inlX1 w h)
theorem hin_X5_opened_RX2 : ∀ w ∈ wsX20, w ∈ vsX5_opened := fun w h => inM (inlX2 w h)
theorem hin_X5_opened_RX5 : ∀ w ∈ wsX50, w ∈ vsX5_opened := fun w h => inM (inlX5 w h)
theorem fl_X5_opened_10 : xFl vsX5_opened RX5 10 4 0 := ⟨RX5, TX5, 13, rfl, by decide, hin_X5_opened_RX5, inM mq_1_15, rfl⟩
theorem fl_X5_opened_33 : xFl vsX5_opened RX5 33 4 4 := ⟨RX5, TX5, 13, rfl, by decide, hin_X5_opened_RX5, inM mq_2_1, rfl⟩
theorem fl_X5_opened_90 : xFl vsX5_opened RX5 90 1 5 := ⟨RX1, TX1, 14, rfl, by decide, hin_X5_opened_RX1, inM mq_7_13, rfl⟩
theorem fl_X5_opened_96 : xFl vsX5_opened RX5 96 1 3 := ⟨RX1, TX1, 14, rfl, by decide, hin_X5_opened_RX1, inM mq_8_7, rfl⟩
theorem fl_X5_opened_178 : xFl vsX5_opened RX5 178 2 1 := ⟨RX2, TX2, 4, rfl, by decide, hin_X5_opened_RX2, inM mq_25_14, rfl⟩
theorem fl_X5_opened_181 : xFl vsX5_opened RX5 181 2 0 := ⟨RX2, TX2, 4, rfl, by decide, hin_X5_opened_RX2, inM mq_25_15, rfl⟩
theorem nyS_X5_opened : yX5_opened.cls ≠ "java/lang/invoke/MethodHandle" ∧ yX5_opened.cls ≠ "java/lang/invoke/VarHandle" ∧ (parseMethodDescriptor yX5_opened.desc).map (fun d => d.parameters.length) = some 2 := by decide +kernel
theorem nyV_X5_opened : yX5_opened.cls = RX5 ∧ yX5_opened.cls ≠ "java/lang/invoke/MethodHandle" ∧ yX5_opened.cls ≠ "java/lang/invoke/VarHandle" ∧ (parseMethodDescriptor yX5_opened.desc).map (fun d => d.parameters.length) = some 2 := by decide +kernel
set_option maxHeartbeats 4000000 in
set_option maxRecDepth 100000 in
theorem w_X5_opened {G : xG} {p : Program} {l : Launch} {e : Env} {s : State} {m : MethodId} {args : Array Value} {below : List Frame} {meth : Method} {c : Code} (C : xK G p s m args meth c cX5_opened 3 vsX5_opened RX5 (some .int)) (r : Int) (S' : xS) : ∀ k : Nat,
  (∀ (S : xS) (p0 : Nat) (i0 i1 : Int) (H : Heap) (locs : List Loc) (ls : Array Slot), g_X5_opened k 0 S p0 i0 i1 = some (r, S') → xI G S s H locs → lv_has ls 3 [(0, .ref (xB G + p0)), (1, .int (iI i0)), (2, .int (iI i1))] → W p l e rm_X5_opened s m args below meth c H locs 0 0 (MQ below (xQi G r S') args s 0 0 (xA G)) (F0 m 0 ls [])) ∧
  (∀ (S : xS) (p0 : Nat) (i0 i1 : Int) (H : Heap) (locs : List Loc) (ls : Array Slot), g_X5_opened k 1 S p0 i0 i1 = some (r, S') → xI G S s H locs → lv_has ls 3 [(0, .ref (xB G + p0))] → W p l e rm_X5_opened s m args below meth c H locs 0 0 (MQ below (xQi G r S') args s 0 0 (xA G)) (F0 m 13 ls [])) := by
  intro k
  induction k with
  | zero => exact ⟨fun _ _ _ _ _ _ _ hf => (by cases hf), fun _ _ _ _ _ _ _ hf => (by cases hf)⟩
  | succ fu ih =>
    obtain ⟨ih0, ih1⟩ := ih
    refine ⟨?_, ?_⟩
    · intro S p0 i0 i1 H locs ls hf I hl
      replace hf : b_X5_opened_0 (g_X5_opened fu) fu S p0 i0 i1 = some (r, S') := hf
      unfold b_X5_opened_0 at hf
      refine kx_aload_n 0 C dX5_opened_0 (lv_at hl 0 rfl) ?_
      refine kx_iload_n 1 C dX5_opened_1 (lv_at hl 1 rfl) ?_
      obtain ⟨h4, hf⟩ := ift hf
      obtain ⟨x3, S1, h2, hf⟩ := ob2 hf
      refine kx_callVi 2 C hl I (ci := 4) (As := [.int (iI i0)]) (rest := []) (c_X5_isNoBox G l fu _ _ _ _ _ h2) (cwV 1 C.ts gX5_opened_X5_isNoBox rfl rfl rfl nyV_X5_isNoBox ⟨Nat.le_of_ble_eq_true rfl, Nat.le_of_ble_eq_true rfl⟩) rfl h4 rfl rfl (Nat.le_of_ble_eq_true rfl) dX5_opened_2 ⟨Nat.le_of_ble_eq_true rfl, Nat.le_of_ble_eq_true rfl⟩ (fun H locs I => ?_)
      refine kx_if_ne 5 13 C dX5_opened_5 (by decide) (fun c5 => ?_) (fun c5 => ?_)
      · have hf := ifn c5 hf
        exact ih1 _ _ _ _ _ _ _ hf I (lv_sub hl [0] rfl)
      · have hf := ifp c5 hf
        refine kx_iload_n 8 C dX5_opened_8 (lv_at hl 2 rfl) ?_
        refine kx_iconst 9 C dX5_opened_9 ?_
        refine kx_icmp_ge 10 18 C dX5_opened_10 (by decide) (fun c6 => ?_) (fun c6 => ?_)
        · have hf := ifp c6 hf
          refine kx_aload_n 18 C dX5_opened_18 (lv_at hl 0 rfl) ?_
          obtain ⟨q8, h7, hf⟩ := ob hf
          refine kx_getp 19 C I fl_X5_opened_33 h7 dX5_opened_19 ?_
          refine kx_aload_n 22 C dX5_opened_22 (lv_at hl 0 rfl) ?_
          obtain ⟨q10, h9, hf⟩ := ob hf
          refine kx_getp 23 C I fl_X5_opened_10 h9 dX5_opened_23 ?_
          refine kx_aload_n 26 C dX5_opened_26 (lv_at hl 0 rfl) ?_
          obtain ⟨q12, h11, hf⟩ := ob hf
          refine kx_getp 27 C I fl_X5_opened_10 h11 dX5_opened_27 ?_
          obtain ⟨q14, h13, hf⟩ := ob hf
          refine kx_getp 30 C I fl_X5_opened_96 h13 dX5_opened_30 ?_
          refine kx_iload_n 33 C dX5_opened_33 (lv_at hl 1 rfl) ?_
          refine kx_aload_n 34 C dX5_opened_34 (lv_at hl 0 rfl) ?_
          obtain ⟨q16, h15, hf⟩ := ob hf
          refine kx_getp 35 C I fl_X5_opened_10 h15 dX5_opened_35 ?_
          obtain ⟨q18, h17, hf⟩ := ob hf
          refine kx_getp 38 C I fl_X5_opened_90 h17 dX5_opened_38 ?_
          refine kx_iload_n 41 C dX5_opened_41 (lv_at hl 1 rfl) ?_
          obtain ⟨x19, h20, hf⟩ := ob hf
          refine kx_iald 42 C I h20 dX5_opened_42 ?_
          obtain ⟨h24, hf⟩ := ift hf
          obtain ⟨z23, S21, h22, hf⟩ := ob2 hf
          refine kx_callVv 43 C hl I (ci := 2) (As := [.ref (xB G + q10), .ref (xB G + q14), .int (iI i0), .int (iI x19)]) (rest := []) (c_X2_seek G l fu _ _ _ _ _ _ _ _ h22) (cwV 4 C.ts gX5_opened_X2_seek rfl rfl rfl nyV_X2_seek ⟨Nat.le_of_ble_eq_true rfl, Nat.le_of_ble_eq_true rfl⟩) rfl h24 rfl rfl (Nat.le_of_ble_eq_true rfl) dX5_opened_43 ⟨Nat.le_of_ble_eq_true rfl, Nat.le_of_ble_eq_true rfl⟩ (fun H locs I => ?_)
          refine kx_iload_n 46 C dX5_opened_46 (lv_at hl 2 rfl) ?_
          refine kx_iconst 47 C dX5_opened_47 ?_
          refine kx_icmp_ne 48 59 C dX5_opened_48 (by decide) (fun c25 => ?_) (fun c25 => ?_)
          · have hf := ifn c25 hf
            refine kx_iload_n 59 C dX5_opened_59 (lv_at hl 2 rfl) ?_
            refine kx_aload_n 60 C dX5_opened_60 (lv_at hl 0 rfl) ?_
            obtain ⟨q27, h26, hf⟩ := ob hf
            refine kx_getp 61 C I fl_X5_opened_33 h26 dX5_opened_61 ?_
            obtain ⟨x29, h28, hf⟩ := ob hf
            refine kx_geti 64 C I fl_X5_opened_178 h28 dX5_opened_64 ?_
            refine kx_icmp_ge 67 82 C dX5_opened_67 (by decide) (fun c30 => ?_) (fun c30 => ?_)
            · have hf := ifp c30 hf
              refine kx_bipush 82 C dX5_opened_82 (by decide) ?_
              exact kx_iret 84 C I hf dX5_opened_84
            · have hf := ifn c30 hf
              refine kx_aload_n 70 C dX5_opened_70 (lv_at hl 0 rfl) ?_
              obtain ⟨q32, h31, hf⟩ := ob hf
              refine kx_getp 71 C I fl_X5_opened_33 h31 dX5_opened_71 ?_
              obtain ⟨q34, h33, hf⟩ := ob hf
              refine kx_getp 74 C I fl_X5_opened_181 h33 dX5_opened_74 ?_
              refine kx_iload_n 77 C dX5_opened_77 (lv_at hl 2 rfl) ?_
              obtain ⟨x35, h36, hf⟩ := ob hf
              refine kx_iald 78 C I h36 dX5_opened_78 ?_
              refine kx_goto 79 84 C dX5_opened_79 (by decide) ?_
              exact kx_iret 84 C I hf dX5_opened_84
          · have hf := ifp c25 hf
            refine kx_aload_n 51 C dX5_opened_51 (lv_at hl 0 rfl) ?_
            obtain ⟨q38, h37, hf⟩ := ob hf
            refine kx_getp 52 C I fl_X5_opened_33 h37 dX5_opened_52 ?_
            obtain ⟨x40, h39, hf⟩ := ob hf
            refine kx_geti 55 C I fl_X5_opened_178 h39 dX5_opened_55 ?_
            exact kx_iret 58 C I hf dX5_opened_58
        · have hf := ifn c6 hf
          exact ih1 _ _ _ _ _ _ _ hf I (lv_sub hl [0] rfl)
    · intro S p0 i0 i1 H locs ls hf I hl
      replace hf : b_X5_opened_1 (g_X5_opened fu) fu S p0 i0 i1 = some (r, S') := hf
      unfold b_X5_opened_1 at hf
      refine kx_aload_n 13 C dX5_opened_13 (lv_at hl 0 rfl) ?_
      obtain ⟨h44, hf⟩ := ift hf
      obtain ⟨x43, S41, h42, hf⟩ := ob2 hf
      refine kx_callVi 14 C hl I (ci := 4) (As := []) (rest := []) (c_X5_refuseQuestion G l fu _ _ _ _ h42) (cwV 0 C.ts gX5_opened_X5_refuseQuestion rfl rfl rfl nyV_X5_refuseQuestion ⟨Nat.le_of_ble_eq_true rfl, Nat.le_of_ble_eq_true rfl⟩) rfl h44 rfl rfl (Nat.le_of_ble_eq_true rfl) dX5_opened_14 ⟨Nat.le_of_ble_eq_true rfl, Nat.le_of_ble_eq_true rfl⟩ (fun H locs I => ?_)
      exact kx_iret 17 C I hf dX5_opened_17
set_option maxHeartbeats 4000000 in
set_option maxRecDepth 100000 in
theorem c_X5_opened (G : xG) (l : Launch) (fu : Nat) (S S' : xS) (p0 : Nat) (i0 : Int) (i1 : Int) (r : Int) (hf : f_X5_opened fu S p0 i0 i1 = some (r, S')) : Met l yX5_opened vsX5_opened rm_X5_opened (va_Pc [.ref (xB G + p0), .int (iI i0), .int (iI i1)] (xPre G S)) (xQi G r S') 0 0 (xA G) := by
  refine kx_met (ret := (some .int)) RX5 [(0, .ref (xB G + p0)), (1, .int (iI i0)), (2, .int (iI i1))] (by decide) rfl rfl (Nat.le_of_ble_eq_true rfl) rfl (fun p e s m below meth c ls C hin I hl => ?_)
  exact (w_X5_opened C r S' fu).1 S _ _ _ _ _ _ hf I hl
def rm_X5_doesFind : Room := { frames := 3, cells := 0, slots := 0, locals := 75 }
theorem hin_X5_doesFind_RX2 : ∀ w ∈ wsX20, w ∈ vsX5_doesFind := fun w h => inM (inlX2 w h)
theorem hin_X5_doesFind_RX5 : ∀ w ∈ wsX50, w ∈ vsX5_doesFind := fun w h => inM (inlX5 w h)
theorem fl_X5_doesFind_10 : xFl vsX5_doesFind RX5 10 4 0 := ⟨RX5, TX5, 13, rfl, by decide, hin_X5_doesFind_RX5, inM mq_1_15, rfl⟩
theorem fl_X5_doesFind_33 : xFl vsX5_doesFind RX5 33 4 4 := ⟨RX5, TX5, 13, rfl, by decide, hin_X5_doesFind_RX5, inM mq_2_1, rfl⟩
theorem fl_X5_doesFind_315 : xFl vsX5_doesFind RX5 315 2 2 := ⟨RX2, TX2, 4, rfl, by decide, hin_X5_doesFind_RX2, inM mq_27_20, rfl⟩
theorem nyS_X5_doesFind : yX5_doesFind.cls ≠ "java/lang/invoke/MethodHandle" ∧ yX5_doesFind.cls ≠ "java/lang/invoke/VarHandle" ∧ (parseMethodDescriptor yX5_doesFind.desc).map (fun d => d.parameters.length) = some 3 := by decide +kernel
theorem nyV_X5_doesFind : yX5_doesFind.cls = RX5 ∧ yX5_doesFind.cls ≠ "java/lang/invoke/MethodHandle" ∧ yX5_doesFind.cls ≠ "java/lang/invoke/VarHandle" ∧ (parseMethodDescriptor yX5_doesFind.desc).map (fun d => d.parameters.length) = some 3 := by decide +kernel
set_option maxHeartbeats 4000000 in
set_option maxRecDepth 100000 in
theorem c_X5_doesFind (G : xG) (l : Launch) (fu : Nat) (S S' : xS) (p0 : Nat) (p1 : Nat) (i0 : Int) (i1 : Int) (r : Int) (hf : f_X5_doesFind fu S p0 p1 i0 i1 = some (r, S')) : Met l yX5_doesFind vsX5_doesFind rm_X5_doesFind (va_Pc [.ref (xB G + p0), .ref (xB G + p1), .int (iI i0), .int (iI i1)] (xPre G S)) (xQi G r S') 0 0 (xA G) := by
  refine kx_met (ret := (some .boolean)) RX5 [(0, .ref (xB G + p0)), (1, .ref (xB G + p1)), (2, .int (iI i0)), (3, .int (iI i1))] (by decide) rfl rfl (Nat.le_of_ble_eq_true rfl) rfl (fun p e s m below meth c ls C hin I hl => ?_)
  unfold f_X5_doesFind at hf
  refine kx_aload_n 0 C dX5_doesFind_0 (lv_at hl 0 rfl) ?_
  obtain ⟨q2, h1, hf⟩ := ob hf
  refine kx_getp 1 C I fl_X5_doesFind_33 h1 dX5_doesFind_1 ?_
  refine kx_aload_n 4 C dX5_doesFind_4 (lv_at hl 0 rfl) ?_
  obtain ⟨q4, h3, hf⟩ := ob hf
  refine kx_getp 5 C I fl_X5_doesFind_10 h3 dX5_doesFind_5 ?_
  refine kx_aload_n 8 C dX5_doesFind_8 (lv_at hl 1 rfl) ?_
  refine kx_iload_n 9 C dX5_doesFind_9 (lv_at hl 2 rfl) ?_
  refine kx_iload_n 10 C dX5_doesFind_10 (lv_at hl 3 rfl) ?_
  obtain ⟨h8, hf⟩ := ift hf
  obtain ⟨z7, S5, h6, hf⟩ := ob2 hf
  refine kx_callVv 11 C hl I (ci := 2) (As := [.ref (xB G + q4), .ref (xB G + p1), .int (iI i0), .int (iI i1)]) (rest := []) (c_X2_seek G l fu _ _ _ _ _ _ _ _ h6) (cwV 4 C.ts gX5_doesFind_X2_seek rfl rfl rfl nyV_X2_seek ⟨Nat.le_of_ble_eq_true rfl, Nat.le_of_ble_eq_true rfl⟩) rfl h8 rfl rfl (Nat.le_of_ble_eq_true rfl) dX5_doesFind_11 ⟨Nat.le_of_ble_eq_true rfl, Nat.le_of_ble_eq_true rfl⟩ (fun H locs I => ?_)
  refine kx_aload_n 14 C dX5_doesFind_14 (lv_at hl 0 rfl) ?_
  obtain ⟨q10, h9, hf⟩ := ob hf
  refine kx_getp 15 C I fl_X5_doesFind_33 h9 dX5_doesFind_15 ?_
  obtain ⟨x12, h11, hf⟩ := ob hf
  refine kx_geti 18 C I fl_X5_doesFind_315 h11 dX5_doesFind_18 ?_
  obtain ⟨h13, hf⟩ := ift hf
  exact kx_zret 21 C I h13 hf dX5_doesFind_21
def rm_X5_findersIn : Room := { frames := 4, cells := 0, slots := 0, locals := 98 }
theorem hin_X5_findersIn_RX1 : ∀ w ∈ wsX10, w ∈ vsX5_findersIn := fun w h => inM (inlX1 w h)
theorem hin_X5_findersIn_RX5 : ∀ w ∈ wsX50, w ∈ vsX5_findersIn := fun w h => inM (inlX5 w h)
theorem fl_X5_findersIn_10 : xFl vsX5_findersIn RX5 10 4 0 := ⟨RX5, TX5, 13, rfl, by decide, hin_X5_findersIn_RX5, inM mq_1_15, rfl⟩
theorem fl_X5_findersIn_69 : xFl vsX5_findersIn RX5 69 1 0 := ⟨RX1, TX1, 14, rfl, by decide, hin_X5_findersIn_RX1, inM mq_5_19, rfl⟩
theorem fl_X5_findersIn_90 : xFl vsX5_findersIn RX5 90 1 5 := ⟨RX1, TX1, 14, rfl, by decide, hin_X5_findersIn_RX1, inM mq_7_13, rfl⟩
theorem nyS_X5_findersIn : yX5_findersIn.cls ≠ "java/lang/invoke/MethodHandle" ∧ yX5_findersIn.cls ≠ "java/lang/invoke/VarHandle" ∧ (parseMethodDescriptor yX5_findersIn.desc).map (fun d => d.parameters.length) = some 1 := by decide +kernel
theorem nyV_X5_findersIn : yX5_findersIn.cls = RX5 ∧ yX5_findersIn.cls ≠ "java/lang/invoke/MethodHandle" ∧ yX5_findersIn.cls ≠ "java/lang/invoke/VarHandle" ∧ (parseMethodDescriptor yX5_findersIn.desc).map (fun d => d.parameters.length) = some 1 := by decide +kernel
set_option maxHeartbeats 4000000 in
set_option maxRecDepth 100000 in
theorem w_X5_findersIn {G : xG} {p : Program} {l : Launch} {e : Env} {s : State} {m : MethodId} {args : Array Value} {below : List Frame} {meth : Method} {c : Code} (C : xK G p s m args meth c cX5_findersIn 4 vsX5_findersIn RX5 (some .int)) (r : Int) (S' : xS) : ∀ k : Nat,
  (∀ (S : xS) (p0 p1 : Nat) (i0 i1 : Int) (H : Heap) (locs : List Loc) (ls : Array Slot), g_X5_findersIn k 0 S p0 p1 i0 i1 = some (r, S') → xI G S s H locs → lv_has ls 4 [(0, .ref (xB G + p0)), (1, .ref (xB G + p1))] → W p l e rm_X5_findersIn s m args below meth c H locs 0 0 (MQ below (xQi G r S') args s 0 0 (xA G)) (F0 m 0 ls [])) ∧
  (∀ (S : xS) (p0 p1 : Nat) (i0 i1 : Int) (H : Heap) (locs : List Loc) (ls : Array Slot), g_X5_findersIn k 1 S p0 p1 i0 i1 = some (r, S') → xI G S s H locs → lv_has ls 4 [(0, .ref (xB G + p0)), (1, .ref (xB G + p1)), (2, .int (iI i0)), (3, .int (iI i1))] → W p l e rm_X5_findersIn s m args below meth c H locs 0 0 (MQ below (xQi G r S') args s 0 0 (xA G)) (F0 m 4 ls [])) ∧
  (∀ (S : xS) (p0 p1 : Nat) (i0 i1 : Int) (H : Heap) (locs : List Loc) (ls : Array Slot), g_X5_findersIn k 2 S p0 p1 i0 i1 = some (r, S') → xI G S s H locs → lv_has ls 4 [(0, .ref (xB G + p0)), (1, .ref (xB G + p1)), (2, .int (iI i0)), (3, .int (iI i1))] → W p l e rm_X5_findersIn s m args below meth c H locs 0 0 (MQ below (xQi G r S') args s 0 0 (xA G)) (F0 m 39 ls [])) := by
  intro k
  induction k with
  | zero => exact ⟨fun _ _ _ _ _ _ _ _ hf => (by cases hf), fun _ _ _ _ _ _ _ _ hf => (by cases hf), fun _ _ _ _ _ _ _ _ hf => (by cases hf)⟩
  | succ fu ih =>
    obtain ⟨ih0, ih1, ih2⟩ := ih
    refine ⟨?_, ?_, ?_⟩
    · intro S p0 p1 i0 i1 H locs ls hf I hl
      replace hf : b_X5_findersIn_0 (g_X5_findersIn fu) fu S p0 p1 i0 i1 = some (r, S') := hf
      unfold b_X5_findersIn_0 at hf
      refine kx_iconst 0 C dX5_findersIn_0 ?_
      refine kx_istore_n 1 C (lv' := [(2, .int (iI 0)), (0, .ref (xB G + p0)), (1, .ref (xB G + p1))]) dX5_findersIn_1 hl (by decide) rfl rfl (fun ls hl => ?_)
      refine kx_iconst 2 C dX5_findersIn_2 ?_
      refine kx_istore_n 3 C (lv' := [(3, .int (iI 0)), (2, .int (iI 0)), (0, .ref (xB G + p0)), (1, .ref (xB G + p1))]) dX5_findersIn_3 hl (by decide) rfl rfl (fun ls hl => ?_)
      exact ih1 _ _ _ _ _ _ _ _ hf I (lv_sub hl [2, 3, 1, 0] rfl)
    · intro S p0 p1 i0 i1 H locs ls hf I hl
      replace hf : b_X5_findersIn_1 (g_X5_findersIn fu) fu S p0 p1 i0 i1 = some (r, S') := hf
      unfold b_X5_findersIn_1 at hf
      refine kx_iload_n 4 C dX5_findersIn_4 (lv_at hl 3 rfl) ?_
      refine kx_aload_n 5 C dX5_findersIn_5 (lv_at hl 0 rfl) ?_
      obtain ⟨q2, h1, hf⟩ := ob hf
      refine kx_getp 6 C I fl_X5_findersIn_10 h1 dX5_findersIn_6 ?_
      obtain ⟨x4, h3, hf⟩ := ob hf
      refine kx_geti 9 C I fl_X5_findersIn_69 h3 dX5_findersIn_9 ?_
      refine kx_icmp_ge 12 45 C dX5_findersIn_12 (by decide) (fun c5 => ?_) (fun c5 => ?_)
      · have hf := ifp c5 hf
        refine kx_iload_n 45 C dX5_findersIn_45 (lv_at hl 2 rfl) ?_
        exact kx_iret 46 C I hf dX5_findersIn_46
      · have hf := ifn c5 hf
        refine kx_aload_n 15 C dX5_findersIn_15 (lv_at hl 0 rfl) ?_
        refine kx_aload_n 16 C dX5_findersIn_16 (lv_at hl 1 rfl) ?_
        refine kx_iload_n 17 C dX5_findersIn_17 (lv_at hl 3 rfl) ?_
        refine kx_aload_n 18 C dX5_findersIn_18 (lv_at hl 0 rfl) ?_
        obtain ⟨q7, h6, hf⟩ := ob hf
        refine kx_getp 19 C I fl_X5_findersIn_10 h6 dX5_findersIn_19 ?_
        obtain ⟨q9, h8, hf⟩ := ob hf
        refine kx_getp 22 C I fl_X5_findersIn_90 h8 dX5_findersIn_22 ?_
        refine kx_iload_n 25 C dX5_findersIn_25 (lv_at hl 3 rfl) ?_
        obtain ⟨x10, h11, hf⟩ := ob hf
        refine kx_iald 26 C I h11 dX5_findersIn_26 ?_
        obtain ⟨h15, hf⟩ := ift hf
        obtain ⟨x14, S12, h13, hf⟩ := ob2 hf
        refine kx_callVi 27 C hl I (ci := 4) (As := [.ref (xB G + p1), .int (iI i1), .int (iI x10)]) (rest := []) (c_X5_doesFind G l fu _ _ _ _ _ _ _ h13) (cwV 3 C.ts gX5_findersIn_X5_doesFind rfl rfl rfl nyV_X5_doesFind ⟨Nat.le_of_ble_eq_true rfl, Nat.le_of_ble_eq_true rfl⟩) rfl h15 rfl rfl (Nat.le_of_ble_eq_true rfl) dX5_findersIn_27 ⟨Nat.le_of_ble_eq_true rfl, Nat.le_of_ble_eq_true rfl⟩ (fun H locs I => ?_)
        refine kx_if_eq 30 39 C dX5_findersIn_30 (by decide) (fun c16 => ?_) (fun c16 => ?_)
        · have hf := ifp c16 hf
          exact ih2 _ _ _ _ _ _ _ _ hf I (lv_sub hl [0, 1, 2, 3] rfl)
        · have hf := ifn c16 hf
          refine kx_iload_n 33 C dX5_findersIn_33 (lv_at hl 2 rfl) ?_
          refine kx_iconst 34 C dX5_findersIn_34 ?_
          refine kx_iload_n 35 C dX5_findersIn_35 (lv_at hl 3 rfl) ?_
          refine kx_ishl 36 C dX5_findersIn_36 ?_
          refine kx_ior 37 C dX5_findersIn_37 ?_
          obtain ⟨x17, e18, hf⟩ := nmx_e hf
          refine kx_istore_n 38 C (lv' := [(2, .int (iI x17)), (0, .ref (xB G + p0)), (1, .ref (xB G + p1)), (3, .int (iI i1))]) dX5_findersIn_38 hl (by decide) e18 rfl (fun ls hl => ?_)
          exact ih2 _ _ _ _ _ _ _ _ hf I (lv_sub hl [1, 2, 0, 3] rfl)
    · intro S p0 p1 i0 i1 H locs ls hf I hl
      replace hf : b_X5_findersIn_2 (g_X5_findersIn fu) fu S p0 p1 i0 i1 = some (r, S') := hf
      unfold b_X5_findersIn_2 at hf
      obtain ⟨x19, e20, hf⟩ := nmx_e hf
      refine kx_iinc 39 C (lv' := [(3, .int (iI x19)), (0, .ref (xB G + p0)), (1, .ref (xB G + p1)), (2, .int (iI i0))]) dX5_findersIn_39 hl 3 rfl e20 (by decide) rfl (fun ls hl => ?_)
      refine kx_goto 42 4 C dX5_findersIn_42 (by decide) ?_
      exact ih1 _ _ _ _ _ _ _ _ hf I (lv_sub hl [1, 2, 3, 0] rfl)
set_option maxHeartbeats 4000000 in
set_option maxRecDepth 100000 in
theorem c_X5_findersIn (G : xG) (l : Launch) (fu : Nat) (S S' : xS) (p0 : Nat) (p1 : Nat) (r : Int) (hf : f_X5_findersIn fu S p0 p1 = some (r, S')) : Met l yX5_findersIn vsX5_findersIn rm_X5_findersIn (va_Pc [.ref (xB G + p0), .ref (xB G + p1)] (xPre G S)) (xQi G r S') 0 0 (xA G) := by
  refine kx_met (ret := (some .int)) RX5 [(0, .ref (xB G + p0)), (1, .ref (xB G + p1))] (by decide) rfl rfl (Nat.le_of_ble_eq_true rfl) rfl (fun p e s m below meth c ls C hin I hl => ?_)
  exact (w_X5_findersIn C r S' fu).1 S _ _ _ _ _ _ _ hf I hl
def rm_X5_finds : Room := { frames := 5, cells := 0, slots := 0, locals := 121 }
theorem hin_X5_finds_RX1 : ∀ w ∈ wsX10, w ∈ vsX5_finds := fun w h => inM (inlX1 w h)
theorem hin_X5_finds_RX5 : ∀ w ∈ wsX50, w ∈ vsX5_finds := fun w h => inM (inlX5 w h)
theorem fl_X5_finds_10 : xFl vsX5_finds RX5 10 4 0 := ⟨RX5, TX5, 13, rfl, by decide, hin_X5_finds_RX5, inM mq_1_15, rfl⟩
theorem fl_X5_finds_96 : xFl vsX5_finds RX5 96 1 3 := ⟨RX1, TX1, 14, rfl, by decide, hin_X5_finds_RX1, inM mq_8_7, rfl⟩
theorem nyS_X5_finds : yX5_finds.cls ≠ "java/lang/invoke/MethodHandle" ∧ yX5_finds.cls ≠ "java/lang/invoke/VarHandle" ∧ (parseMethodDescriptor yX5_finds.desc).map (fun d => d.parameters.length) = some 0 := by decide +kernel
theorem nyV_X5_finds : yX5_finds.cls = RX5 ∧ yX5_finds.cls ≠ "java/lang/invoke/MethodHandle" ∧ yX5_finds.cls ≠ "java/lang/invoke/VarHandle" ∧ (parseMethodDescriptor yX5_finds.desc).map (fun d => d.parameters.length) = some 0 := by decide +kernel
set_option maxHeartbeats 4000000 in
set_option maxRecDepth 100000 in
theorem c_X5_finds (G : xG) (l : Launch) (fu : Nat) (S S' : xS) (p0 : Nat) (r : Int) (hf : f_X5_finds fu S p0 = some (r, S')) : Met l yX5_finds vsX5_finds rm_X5_finds (va_Pc [.ref (xB G + p0)] (xPre G S)) (xQi G r S') 0 0 (xA G) := by
  refine kx_met (ret := (some .int)) RX5 [(0, .ref (xB G + p0))] (by decide) rfl rfl (Nat.le_of_ble_eq_true rfl) rfl (fun p e s m below meth c ls C hin I hl => ?_)
  unfold f_X5_finds at hf
  refine kx_aload_n 0 C dX5_finds_0 (lv_at hl 0 rfl) ?_
  refine kx_aload_n 1 C dX5_finds_1 (lv_at hl 0 rfl) ?_
  obtain ⟨q2, h1, hf⟩ := ob hf
  refine kx_getp 2 C I fl_X5_finds_10 h1 dX5_finds_2 ?_
  obtain ⟨q4, h3, hf⟩ := ob hf
  refine kx_getp 5 C I fl_X5_finds_96 h3 dX5_finds_5 ?_
  obtain ⟨h8, hf⟩ := ift hf
  obtain ⟨x7, S5, h6, hf⟩ := ob2 hf
  refine kx_callVi 8 C hl I (ci := 4) (As := [.ref (xB G + q4)]) (rest := []) (c_X5_findersIn G l fu _ _ _ _ _ h6) (cwV 1 C.ts gX5_finds_X5_findersIn rfl rfl rfl nyV_X5_findersIn ⟨Nat.le_of_ble_eq_true rfl, Nat.le_of_ble_eq_true rfl⟩) rfl h8 rfl rfl (Nat.le_of_ble_eq_true rfl) dX5_finds_8 ⟨Nat.le_of_ble_eq_true rfl, Nat.le_of_ble_eq_true rfl⟩ (fun H locs I => ?_)
  exact kx_iret 11 C I hf dX5_finds_11
def rm_X5_worked : Room := { frames := 2, cells := 0, slots := 0, locals := 45 }
theorem hin_X5_worked_RX1 : ∀ w ∈ wsX10, w ∈ vsX5_worked := fun w h => inM (inlX1 w h)
theorem hin_X5_worked_RX5 : ∀ w ∈ wsX50, w ∈ vsX5_worked := fun w h => inM (inlX5 w h)
theorem fl_X5_worked_10 : xFl vsX5_worked RX5 10 4 0 := ⟨RX5, TX5, 13, rfl, by decide, hin_X5_worked_RX5, inM mq_1_15, rfl⟩
theorem fl_X5_worked_37 : xFl vsX5_worked RX5 37 4 5 := ⟨RX5, TX5, 13, rfl, by decide, hin_X5_worked_RX5, inM mq_2_3, rfl⟩
theorem fl_X5_worked_69 : xFl vsX5_worked RX5 69 1 0 := ⟨RX1, TX1, 14, rfl, by decide, hin_X5_worked_RX1, inM mq_5_19, rfl⟩
theorem fl_X5_worked_96 : xFl vsX5_worked RX5 96 1 3 := ⟨RX1, TX1, 14, rfl, by decide, hin_X5_worked_RX1, inM mq_8_7, rfl⟩
theorem nyS_X5_worked : yX5_worked.cls ≠ "java/lang/invoke/MethodHandle" ∧ yX5_worked.cls ≠ "java/lang/invoke/VarHandle" ∧ (parseMethodDescriptor yX5_worked.desc).map (fun d => d.parameters.length) = some 1 := by decide +kernel
theorem nyV_X5_worked : yX5_worked.cls = RX5 ∧ yX5_worked.cls ≠ "java/lang/invoke/MethodHandle" ∧ yX5_worked.cls ≠ "java/lang/invoke/VarHandle" ∧ (parseMethodDescriptor yX5_worked.desc).map (fun d => d.parameters.length) = some 1 := by decide +kernel
set_option maxHeartbeats 4000000 in
set_option maxRecDepth 100000 in
theorem w_X5_worked {G : xG} {p : Program} {l : Launch} {e : Env} {s : State} {m : MethodId} {args : Array Value} {below : List Frame} {meth : Method} {c : Code} (C : xK G p s m args meth c cX5_worked 3 vsX5_worked RX5 (some .int)) (r : Int) (S' : xS) : ∀ k : Nat,
  (∀ (S : xS) (p0 : Nat) (i0 i1 : Int) (H : Heap) (locs : List Loc) (ls : Array Slot), g_X5_worked k 0 S p0 i0 i1 = some (r, S') → xI G S s H locs → lv_has ls 3 [(0, .ref (xB G + p0)), (1, .int (iI i0))] → W p l e rm_X5_worked s m args below meth c H locs 0 0 (MQ below (xQi G r S') args s 0 0 (xA G)) (F0 m 0 ls [])) ∧
  (∀ (S : xS) (p0 : Nat) (i0 i1 : Int) (H : Heap) (locs : List Loc) (ls : Array Slot), g_X5_worked k 1 S p0 i0 i1 = some (r, S') → xI G S s H locs → lv_has ls 3 [(0, .ref (xB G + p0))] → W p l e rm_X5_worked s m args below meth c H locs 0 0 (MQ below (xQi G r S') args s 0 0 (xA G)) (F0 m 10 ls [])) ∧
  (∀ (S : xS) (p0 : Nat) (i0 i1 : Int) (H : Heap) (locs : List Loc) (ls : Array Slot), g_X5_worked k 2 S p0 i0 i1 = some (r, S') → xI G S s H locs → lv_has ls 3 [(0, .ref (xB G + p0)), (1, .int (iI i0)), (2, .int (iI i1))] → W p l e rm_X5_worked s m args below meth c H locs 0 0 (MQ below (xQi G r S') args s 0 0 (xA G)) (F0 m 17 ls [])) := by
  intro k
  induction k with
  | zero => exact ⟨fun _ _ _ _ _ _ _ hf => (by cases hf), fun _ _ _ _ _ _ _ hf => (by cases hf), fun _ _ _ _ _ _ _ hf => (by cases hf)⟩
  | succ fu ih =>
    obtain ⟨ih0, ih1, ih2⟩ := ih
    refine ⟨?_, ?_, ?_⟩
    · intro S p0 i0 i1 H locs ls hf I hl
      replace hf : b_X5_worked_0 (g_X5_worked fu) fu S p0 i0 i1 = some (r, S') := hf
      unfold b_X5_worked_0 at hf
      refine kx_iload_n 0 C dX5_worked_0 (lv_at hl 1 rfl) ?_
      refine kx_if_lt 1 10 C dX5_worked_1 (by decide) (fun c1 => ?_) (fun c1 => ?_)
      · have hf := ifp c1 hf
        exact ih1 _ _ _ _ _ _ _ hf I (lv_sub hl [0] rfl)
      · have hf := ifn c1 hf
        refine kx_iload_n 4 C dX5_worked_4 (lv_at hl 1 rfl) ?_
        refine kx_bipush 5 C dX5_worked_5 (by decide) ?_
        refine kx_icmp_le 7 15 C dX5_worked_7 (by decide) (fun c2 => ?_) (fun c2 => ?_)
        · have hf := ifp c2 hf
          refine kx_iconst 15 C dX5_worked_15 ?_
          refine kx_istore_n 16 C (lv' := [(2, .int (iI 0)), (0, .ref (xB G + p0)), (1, .int (iI i0))]) dX5_worked_16 hl (by decide) rfl rfl (fun ls hl => ?_)
          exact ih2 _ _ _ _ _ _ _ hf I (lv_sub hl [1, 2, 0] rfl)
        · have hf := ifn c2 hf
          exact ih1 _ _ _ _ _ _ _ hf I (lv_sub hl [0] rfl)
    · intro S p0 i0 i1 H locs ls hf I hl
      replace hf : b_X5_worked_1 (g_X5_worked fu) fu S p0 i0 i1 = some (r, S') := hf
      unfold b_X5_worked_1 at hf
      refine kx_aload_n 10 C dX5_worked_10 (lv_at hl 0 rfl) ?_
      obtain ⟨h6, hf⟩ := ift hf
      obtain ⟨x5, S3, h4, hf⟩ := ob2 hf
      refine kx_callVi 11 C hl I (ci := 4) (As := []) (rest := []) (c_X5_refuseBad G l fu _ _ _ _ h4) (cwV 0 C.ts gX5_worked_X5_refuseBad rfl rfl rfl nyV_X5_refuseBad ⟨Nat.le_of_ble_eq_true rfl, Nat.le_of_ble_eq_true rfl⟩) rfl h6 rfl rfl (Nat.le_of_ble_eq_true rfl) dX5_worked_11 ⟨Nat.le_of_ble_eq_true rfl, Nat.le_of_ble_eq_true rfl⟩ (fun H locs I => ?_)
      exact kx_iret 14 C I hf dX5_worked_14
    · intro S p0 i0 i1 H locs ls hf I hl
      replace hf : b_X5_worked_2 (g_X5_worked fu) fu S p0 i0 i1 = some (r, S') := hf
      unfold b_X5_worked_2 at hf
      refine kx_iload_n 17 C dX5_worked_17 (lv_at hl 2 rfl) ?_
      refine kx_aload_n 18 C dX5_worked_18 (lv_at hl 0 rfl) ?_
      obtain ⟨q8, h7, hf⟩ := ob hf
      refine kx_getp 19 C I fl_X5_worked_10 h7 dX5_worked_19 ?_
      obtain ⟨x10, h9, hf⟩ := ob hf
      refine kx_geti 22 C I fl_X5_worked_69 h9 dX5_worked_22 ?_
      refine kx_icmp_ge 25 52 C dX5_worked_25 (by decide) (fun c11 => ?_) (fun c11 => ?_)
      · have hf := ifp c11 hf
        refine kx_aload_n 52 C dX5_worked_52 (lv_at hl 0 rfl) ?_
        obtain ⟨q13, h12, hf⟩ := ob hf
        refine kx_getp 53 C I fl_X5_worked_37 h12 dX5_worked_53 ?_
        refine kx_aload_n 56 C dX5_worked_56 (lv_at hl 0 rfl) ?_
        obtain ⟨q15, h14, hf⟩ := ob hf
        refine kx_getp 57 C I fl_X5_worked_10 h14 dX5_worked_57 ?_
        obtain ⟨x17, h16, hf⟩ := ob hf
        refine kx_geti 60 C I fl_X5_worked_69 h16 dX5_worked_60 ?_
        obtain ⟨x20, S18, h19, hf⟩ := ob2 hf
        refine kx_callSi 63 C hl I (As := [.ref (xB G + q13), .int (iI x17)]) (rest := []) (c_X4_rankOf G l fu _ _ _ _ _ h19) (va_cwS 2 C.ts gX5_worked_X4_rankOf rfl rfl rfl nyS_X4_rankOf ⟨Nat.le_of_ble_eq_true rfl, Nat.le_of_ble_eq_true rfl⟩) rfl rfl (Nat.le_of_ble_eq_true rfl) dX5_worked_63 ⟨Nat.le_of_ble_eq_true rfl, Nat.le_of_ble_eq_true rfl⟩ (fun H locs I => ?_)
        exact kx_iret 66 C I hf dX5_worked_66
      · have hf := ifn c11 hf
        refine kx_aload_n 28 C dX5_worked_28 (lv_at hl 0 rfl) ?_
        obtain ⟨q22, h21, hf⟩ := ob hf
        refine kx_getp 29 C I fl_X5_worked_37 h21 dX5_worked_29 ?_
        refine kx_iload_n 32 C dX5_worked_32 (lv_at hl 2 rfl) ?_
        refine kx_aload_n 33 C dX5_worked_33 (lv_at hl 0 rfl) ?_
        obtain ⟨q24, h23, hf⟩ := ob hf
        refine kx_getp 34 C I fl_X5_worked_10 h23 dX5_worked_34 ?_
        obtain ⟨q26, h25, hf⟩ := ob hf
        refine kx_getp 37 C I fl_X5_worked_96 h25 dX5_worked_37 ?_
        refine kx_iload_n 40 C dX5_worked_40 (lv_at hl 2 rfl) ?_
        refine kx_iload_n 41 C dX5_worked_41 (lv_at hl 1 rfl) ?_
        obtain ⟨x29, S27, h28, hf⟩ := ob2 hf
        refine kx_callSi 42 C hl I (As := [.ref (xB G + q26), .int (iI i1), .int (iI i0)]) (rest := [.int (iI i1), .ref (xB G + q22)]) (c_X4_stepsFrom G l fu _ _ _ _ _ _ h28) (va_cwS 3 C.ts gX5_worked_X4_stepsFrom rfl rfl rfl nyS_X4_stepsFrom ⟨Nat.le_of_ble_eq_true rfl, Nat.le_of_ble_eq_true rfl⟩) rfl rfl (Nat.le_of_ble_eq_true rfl) dX5_worked_42 ⟨Nat.le_of_ble_eq_true rfl, Nat.le_of_ble_eq_true rfl⟩ (fun H locs I => ?_)
        obtain ⟨S31, h30, hf⟩ := ob hf
        refine kx_iast 45 C I h30 dX5_worked_45 (fun H locs I => ?_)
        obtain ⟨x32, e33, hf⟩ := nmx_e hf
        refine kx_iinc 46 C (lv' := [(2, .int (iI x32)), (0, .ref (xB G + p0)), (1, .int (iI i0))]) dX5_worked_46 hl 2 rfl e33 (by decide) rfl (fun ls hl => ?_)
        refine kx_goto 49 17 C dX5_worked_49 (by decide) ?_
        exact ih2 _ _ _ _ _ _ _ hf I (lv_sub hl [1, 2, 0] rfl)
set_option maxHeartbeats 4000000 in
set_option maxRecDepth 100000 in
theorem c_X5_worked (G : xG) (l : Launch) (fu : Nat) (S S' : xS) (p0 : Nat) (i0 : Int) (r : Int) (hf : f_X5_worked fu S p0 i0 = some (r, S')) : Met l yX5_worked vsX5_worked rm_X5_worked (va_Pc [.ref (xB G + p0), .int (iI i0)] (xPre G S)) (xQi G r S') 0 0 (xA G) := by
  refine kx_met (ret := (some .int)) RX5 [(0, .ref (xB G + p0)), (1, .int (iI i0))] (by decide) rfl rfl (Nat.le_of_ble_eq_true rfl) rfl (fun p e s m below meth c ls C hin I hl => ?_)
  exact (w_X5_worked C r S' fu).1 S _ _ _ _ _ _ hf I hl
def rm_X5_commonDivisor : Room := { frames := 1, cells := 0, slots := 0, locals := 23 }
theorem mw_X5_commonDivisor_0 : Cond.methodLink RX5 310 Lib.MathLoose.max_long.x ∈ vsX5_commonDivisor := inM mq_29_5
theorem mw_X5_commonDivisor_1 : Cond.static Lib.MathLoose.max_long.x ∈ vsX5_commonDivisor := inM mq_29_6
theorem mw_X5_commonDivisor_2 : Cond.initialized "java/lang/Math" ∈ vsX5_commonDivisor := inM mq_16_21
theorem mw_X5_commonDivisor_3 : Cond.code Lib.MathLoose.max_long.x Lib.MathLoose.max_long.code 4 (some .long) ∈ vsX5_commonDivisor := inM mq_29_7
theorem nyS_X5_commonDivisor : yX5_commonDivisor.cls ≠ "java/lang/invoke/MethodHandle" ∧ yX5_commonDivisor.cls ≠ "java/lang/invoke/VarHandle" ∧ (parseMethodDescriptor yX5_commonDivisor.desc).map (fun d => d.parameters.length) = some 2 := by decide +kernel
set_option maxHeartbeats 4000000 in
set_option maxRecDepth 100000 in
theorem w_X5_commonDivisor {G : xG} {p : Program} {l : Launch} {e : Env} {s : State} {m : MethodId} {args : Array Value} {below : List Frame} {meth : Method} {c : Code} (C : xK G p s m args meth c cX5_commonDivisor 11 vsX5_commonDivisor RX5 (some .long)) (r : Int) (S' : xS) : ∀ k : Nat,
  (∀ (S : xS) (i0 i1 i2 : Int) (H : Heap) (locs : List Loc) (ls : Array Slot), g_X5_commonDivisor k 0 S i0 i1 i2 = some (r, S') → xI G S s H locs → lv_has ls 11 [(0, .long (lI i0)), (2, .long (lI i1))] → W p l e rm_X5_commonDivisor s m args below meth c H locs 0 0 (MQ below (xQl G r S') args s 0 0 (xA G)) (F0 m 0 ls [])) ∧
  (∀ (S : xS) (i0 i1 i2 : Int) (H : Heap) (locs : List Loc) (ls : Array Slot), g_X5_commonDivisor k 1 S i0 i1 i2 = some (r, S') → xI G S s H locs → lv_has ls 11 [(4, .long (lI i0)), (6, .long (lI i1)), (8, .int (iI i2))] → W p l e rm_X5_commonDivisor s m args below meth c H locs 0 0 (MQ below (xQl G r S') args s 0 0 (xA G)) (F0 m 9 ls [])) ∧
  (∀ (S : xS) (i0 i1 i2 : Int) (H : Heap) (locs : List Loc) (ls : Array Slot), g_X5_commonDivisor k 2 S i0 i1 i2 = some (r, S') → xI G S s H locs → lv_has ls 11 [(4, .long (lI i0))] → W p l e rm_X5_commonDivisor s m args below meth c H locs 0 0 (MQ below (xQl G r S') args s 0 0 (xA G)) (F0 m 44 ls [])) := by
  intro k
  induction k with
  | zero => exact ⟨fun _ _ _ _ _ _ _ hf => (by cases hf), fun _ _ _ _ _ _ _ hf => (by cases hf), fun _ _ _ _ _ _ _ hf => (by cases hf)⟩
  | succ fu ih =>
    obtain ⟨ih0, ih1, ih2⟩ := ih
    refine ⟨?_, ?_, ?_⟩
    · intro S i0 i1 i2 H locs ls hf I hl
      replace hf : b_X5_commonDivisor_0 (g_X5_commonDivisor fu) fu S i0 i1 i2 = some (r, S') := hf
      unfold b_X5_commonDivisor_0 at hf
      refine kx_lload_n 0 C dX5_commonDivisor_0 (lv_at hl 0 rfl) ?_
      refine kx_lstore 1 C (lv' := [(4, .long (lI i0)), (0, .long (lI i0)), (2, .long (lI i1))]) dX5_commonDivisor_1 hl (by decide) rfl rfl (fun ls hl => ?_)
      refine kx_lload_n 3 C dX5_commonDivisor_3 (lv_at hl 2 rfl) ?_
      refine kx_lstore 4 C (lv' := [(6, .long (lI i1)), (4, .long (lI i0)), (0, .long (lI i0)), (2, .long (lI i1))]) dX5_commonDivisor_4 hl (by decide) rfl rfl (fun ls hl => ?_)
      refine kx_iconst 6 C dX5_commonDivisor_6 ?_
      refine kx_istore 7 C (lv' := [(8, .int (iI 0)), (6, .long (lI i1)), (4, .long (lI i0)), (0, .long (lI i0)), (2, .long (lI i1))]) dX5_commonDivisor_7 hl (by decide) rfl rfl (fun ls hl => ?_)
      exact ih1 _ _ _ _ _ _ _ hf I (lv_sub hl [2, 1, 0] rfl)
    · intro S i0 i1 i2 H locs ls hf I hl
      replace hf : b_X5_commonDivisor_1 (g_X5_commonDivisor fu) fu S i0 i1 i2 = some (r, S') := hf
      unfold b_X5_commonDivisor_1 at hf
      refine kx_iload 9 C dX5_commonDivisor_9 (lv_at hl 2 rfl) ?_
      refine kx_bipush 11 C dX5_commonDivisor_11 (by decide) ?_
      refine kx_icmp_ge 13 44 C dX5_commonDivisor_13 (by decide) (fun c1 => ?_) (fun c1 => ?_)
      · have hf := ifp c1 hf
        exact ih2 _ _ _ _ _ _ _ hf I (lv_sub hl [0] rfl)
      · have hf := ifn c1 hf
        refine kx_lload 16 C dX5_commonDivisor_16 (lv_at hl 1 rfl) ?_
        refine kx_lconst 18 C (z := 0) dX5_commonDivisor_18 rfl ?_
        refine kx_lcmp 19 C dX5_commonDivisor_19 ?_
        refine kx_if_eq 20 44 C dX5_commonDivisor_20 (by decide) (fun c2 => ?_) (fun c2 => ?_)
        · have hf := ifp c2 hf
          exact ih2 _ _ _ _ _ _ _ hf I (lv_sub hl [0] rfl)
        · have hf := ifn c2 hf
          refine kx_lload 23 C dX5_commonDivisor_23 (lv_at hl 0 rfl) ?_
          refine kx_lload 25 C dX5_commonDivisor_25 (lv_at hl 1 rfl) ?_
          obtain ⟨h3, hf⟩ := ifz hf
          refine kx_lrem 27 C dX5_commonDivisor_27 h3 ?_
          obtain ⟨x4, e5, hf⟩ := nmx_e hf
          refine kx_lstore 28 C (lv' := [(9, .long (lI x4)), (4, .long (lI i0)), (6, .long (lI i1)), (8, .int (iI i2))]) dX5_commonDivisor_28 hl (by decide) e5 rfl (fun ls hl => ?_)
          refine kx_lload 30 C dX5_commonDivisor_30 (lv_at hl 2 rfl) ?_
          refine kx_lstore 32 C (lv' := [(4, .long (lI i1)), (9, .long (lI x4)), (6, .long (lI i1)), (8, .int (iI i2))]) dX5_commonDivisor_32 hl (by decide) rfl rfl (fun ls hl => ?_)
          refine kx_lload 34 C dX5_commonDivisor_34 (lv_at hl 1 rfl) ?_
          refine kx_lstore 36 C (lv' := [(6, .long (lI x4)), (4, .long (lI i1)), (9, .long (lI x4)), (8, .int (iI i2))]) dX5_commonDivisor_36 hl (by decide) rfl rfl (fun ls hl => ?_)
          obtain ⟨x6, e7, hf⟩ := nmx_e hf
          refine kx_iinc 38 C (lv' := [(8, .int (iI x6)), (6, .long (lI x4)), (4, .long (lI i1)), (9, .long (lI x4))]) dX5_commonDivisor_38 hl 3 rfl e7 (by decide) rfl (fun ls hl => ?_)
          refine kx_goto 41 9 C dX5_commonDivisor_41 (by decide) ?_
          exact ih1 _ _ _ _ _ _ _ hf I (lv_sub hl [2, 1, 0] rfl)
    · intro S i0 i1 i2 H locs ls hf I hl
      replace hf : b_X5_commonDivisor_2 (g_X5_commonDivisor fu) fu S i0 i1 i2 = some (r, S') := hf
      unfold b_X5_commonDivisor_2 at hf
      refine kx_lconst 44 C (z := 1) dX5_commonDivisor_44 rfl ?_
      refine kx_lload 45 C dX5_commonDivisor_45 (lv_at hl 0 rfl) ?_
      refine kx_mmaxL 47 C hl mw_X5_commonDivisor_0 mw_X5_commonDivisor_1 mw_X5_commonDivisor_2 mw_X5_commonDivisor_3 ⟨Nat.le_of_ble_eq_true rfl, Nat.le_of_ble_eq_true rfl⟩ ⟨Nat.le_of_ble_eq_true rfl, Nat.le_of_ble_eq_true rfl⟩ dX5_commonDivisor_47 ?_
      exact kx_lret 50 C I hf dX5_commonDivisor_50
set_option maxHeartbeats 4000000 in
set_option maxRecDepth 100000 in
theorem c_X5_commonDivisor (G : xG) (l : Launch) (fu : Nat) (S S' : xS) (i0 : Int) (i1 : Int) (r : Int) (hf : f_X5_commonDivisor fu S i0 i1 = some (r, S')) : Met l yX5_commonDivisor vsX5_commonDivisor rm_X5_commonDivisor (va_Pc [.long (lI i0), .long (lI i1)] (xPre G S)) (xQl G r S') 0 0 (xA G) := by
  refine kx_met (ret := (some .long)) RX5 [(0, .long (lI i0)), (2, .long (lI i1))] (by decide) rfl rfl (Nat.le_of_ble_eq_true rfl) rfl (fun p e s m below meth c ls C hin I hl => ?_)
  exact (w_X5_commonDivisor C r S' fu).1 S _ _ _ _ _ _ hf I hl
def rm_X5_back : Room := { frames := 2, cells := 0, slots := 0, locals := 53 }
theorem hin_X5_back_RX1 : ∀ w ∈ wsX10, w ∈ vsX5_back := fun w h => inM (inlX1 w h)
theorem hin_X5_back_RX5 : ∀ w ∈ wsX50, w ∈ vsX5_back := fun w h => inM (inlX5 w h)
theorem fl_X5_back_10 : xFl vsX5_back RX5 10 4 0 := ⟨RX5, TX5, 13, rfl, by decide, hin_X5_back_RX5, inM mq_1_15, rfl⟩
theorem fl_X5_back_69 : xFl vsX5_back RX5 69 1 0 := ⟨RX1, TX1, 14, rfl, by decide, hin_X5_back_RX1, inM mq_5_19, rfl⟩
theorem fl_X5_back_96 : xFl vsX5_back RX5 96 1 3 := ⟨RX1, TX1, 14, rfl, by decide, hin_X5_back_RX1, inM mq_8_7, rfl⟩
theorem nyS_X5_back : yX5_back.cls ≠ "java/lang/invoke/MethodHandle" ∧ yX5_back.cls ≠ "java/lang/invoke/VarHandle" ∧ (parseMethodDescriptor yX5_back.desc).map (fun d => d.parameters.length) = some 0 := by decide +kernel
theorem nyV_X5_back : yX5_back.cls = RX5 ∧ yX5_back.cls ≠ "java/lang/invoke/MethodHandle" ∧ yX5_back.cls ≠ "java/lang/invoke/VarHandle" ∧ (parseMethodDescriptor yX5_back.desc).map (fun d => d.parameters.length) = some 0 := by decide +kernel
set_option maxHeartbeats 4000000 in
set_option maxRecDepth 100000 in
theorem w_X5_back {G : xG} {p : Program} {l : Launch} {e : Env} {s : State} {m : MethodId} {args : Array Value} {below : List Frame} {meth : Method} {c : Code} (C : xK G p s m args meth c cX5_back 5 vsX5_back RX5 (some .int)) (r : Int) (S' : xS) : ∀ k : Nat,
  (∀ (S : xS) (p0 : Nat) (i0 i1 : Int) (H : Heap) (locs : List Loc) (ls : Array Slot), g_X5_back k 0 S p0 i0 i1 = some (r, S') → xI G S s H locs → lv_has ls 5 [(0, .ref (xB G + p0))] → W p l e rm_X5_back s m args below meth c H locs 0 0 (MQ below (xQi G r S') args s 0 0 (xA G)) (F0 m 0 ls [])) ∧
  (∀ (S : xS) (p0 : Nat) (i0 i1 : Int) (H : Heap) (locs : List Loc) (ls : Array Slot), g_X5_back k 1 S p0 i0 i1 = some (r, S') → xI G S s H locs → lv_has ls 5 [(0, .ref (xB G + p0)), (1, .long (lI i0)), (3, .int (iI i1))] → W p l e rm_X5_back s m args below meth c H locs 0 0 (MQ below (xQi G r S') args s 0 0 (xA G)) (F0 m 4 ls [])) := by
  intro k
  induction k with
  | zero => exact ⟨fun _ _ _ _ _ _ _ hf => (by cases hf), fun _ _ _ _ _ _ _ hf => (by cases hf)⟩
  | succ fu ih =>
    obtain ⟨ih0, ih1⟩ := ih
    refine ⟨?_, ?_⟩
    · intro S p0 i0 i1 H locs ls hf I hl
      replace hf : b_X5_back_0 (g_X5_back fu) fu S p0 i0 i1 = some (r, S') := hf
      unfold b_X5_back_0 at hf
      refine kx_lconst 0 C (z := 1) dX5_back_0 rfl ?_
      refine kx_lstore_n 1 C (lv' := [(1, .long (lI 1)), (0, .ref (xB G + p0))]) dX5_back_1 hl (by decide) rfl rfl (fun ls hl => ?_)
      refine kx_iconst 2 C dX5_back_2 ?_
      refine kx_istore_n 3 C (lv' := [(3, .int (iI 0)), (1, .long (lI 1)), (0, .ref (xB G + p0))]) dX5_back_3 hl (by decide) rfl rfl (fun ls hl => ?_)
      exact ih1 _ _ _ _ _ _ _ hf I (lv_sub hl [2, 1, 0] rfl)
    · intro S p0 i0 i1 H locs ls hf I hl
      replace hf : b_X5_back_1 (g_X5_back fu) fu S p0 i0 i1 = some (r, S') := hf
      unfold b_X5_back_1 at hf
      refine kx_iload_n 4 C dX5_back_4 (lv_at hl 2 rfl) ?_
      refine kx_aload_n 5 C dX5_back_5 (lv_at hl 0 rfl) ?_
      obtain ⟨q2, h1, hf⟩ := ob hf
      refine kx_getp 6 C I fl_X5_back_10 h1 dX5_back_6 ?_
      obtain ⟨x4, h3, hf⟩ := ob hf
      refine kx_geti 9 C I fl_X5_back_69 h3 dX5_back_9 ?_
      refine kx_icmp_ge 12 55 C dX5_back_12 (by decide) (fun c5 => ?_) (fun c5 => ?_)
      · have hf := ifp c5 hf
        refine kx_lload_n 55 C dX5_back_55 (lv_at hl 1 rfl) ?_
        refine kx_l2i 56 C dX5_back_56 ?_
        exact kx_iret 57 C I hf dX5_back_57
      · have hf := ifn c5 hf
        refine kx_aload_n 15 C dX5_back_15 (lv_at hl 0 rfl) ?_
        obtain ⟨q7, h6, hf⟩ := ob hf
        refine kx_getp 16 C I fl_X5_back_10 h6 dX5_back_16 ?_
        obtain ⟨q9, h8, hf⟩ := ob hf
        refine kx_getp 19 C I fl_X5_back_96 h8 dX5_back_19 ?_
        refine kx_aload_n 22 C dX5_back_22 (lv_at hl 0 rfl) ?_
        obtain ⟨q11, h10, hf⟩ := ob hf
        refine kx_getp 23 C I fl_X5_back_10 h10 dX5_back_23 ?_
        obtain ⟨x13, h12, hf⟩ := ob hf
        refine kx_geti 26 C I fl_X5_back_69 h12 dX5_back_26 ?_
        refine kx_iload_n 29 C dX5_back_29 (lv_at hl 2 rfl) ?_
        obtain ⟨x16, S14, h15, hf⟩ := ob2 hf
        refine kx_callSi 30 C hl I (As := [.ref (xB G + q9), .int (iI x13), .int (iI i1)]) (rest := []) (c_X4_ringLength G l fu _ _ _ _ _ _ h15) (va_cwS 3 C.ts gX5_back_X4_ringLength rfl rfl rfl nyS_X4_ringLength ⟨Nat.le_of_ble_eq_true rfl, Nat.le_of_ble_eq_true rfl⟩) rfl rfl (Nat.le_of_ble_eq_true rfl) dX5_back_30 ⟨Nat.le_of_ble_eq_true rfl, Nat.le_of_ble_eq_true rfl⟩ (fun H locs I => ?_)
        refine kx_istore 33 C (lv' := [(4, .int (iI x16)), (0, .ref (xB G + p0)), (1, .long (lI i0)), (3, .int (iI i1))]) dX5_back_33 hl (by decide) rfl rfl (fun ls hl => ?_)
        refine kx_lload_n 35 C dX5_back_35 (lv_at hl 2 rfl) ?_
        refine kx_lload_n 36 C dX5_back_36 (lv_at hl 2 rfl) ?_
        refine kx_iload 37 C dX5_back_37 (lv_at hl 0 rfl) ?_
        refine kx_i2l 39 C dX5_back_39 ?_
        obtain ⟨x19, S17, h18, hf⟩ := ob2 hf
        refine kx_callSl 40 C hl I (As := [.long (lI i0), .long (lI (wI x16))]) (rest := [.long (lI i0)]) (c_X5_commonDivisor G l fu _ _ _ _ _ h18) (va_cwS 2 C.ts gX5_back_X5_commonDivisor rfl rfl rfl nyS_X5_commonDivisor ⟨Nat.le_of_ble_eq_true rfl, Nat.le_of_ble_eq_true rfl⟩) rfl rfl (Nat.le_of_ble_eq_true rfl) dX5_back_40 ⟨Nat.le_of_ble_eq_true rfl, Nat.le_of_ble_eq_true rfl⟩ (fun H locs I => ?_)
        obtain ⟨h20, hf⟩ := ifz hf
        refine kx_ldiv 43 C dX5_back_43 h20 ?_
        refine kx_iload 44 C dX5_back_44 (lv_at hl 0 rfl) ?_
        refine kx_i2l 46 C dX5_back_46 ?_
        refine kx_lmul 47 C dX5_back_47 ?_
        obtain ⟨x21, e22, hf⟩ := nmx_e hf
        refine kx_lstore_n 48 C (lv' := [(1, .long (lI x21)), (4, .int (iI x16)), (0, .ref (xB G + p0)), (3, .int (iI i1))]) dX5_back_48 hl (by decide) e22 rfl (fun ls hl => ?_)
        obtain ⟨x23, e24, hf⟩ := nmx_e hf
        refine kx_iinc 49 C (lv' := [(3, .int (iI x23)), (1, .long (lI x21)), (4, .int (iI x16)), (0, .ref (xB G + p0))]) dX5_back_49 hl 3 rfl e24 (by decide) rfl (fun ls hl => ?_)
        refine kx_goto 52 4 C dX5_back_52 (by decide) ?_
        exact ih1 _ _ _ _ _ _ _ hf I (lv_sub hl [3, 1, 0] rfl)
set_option maxHeartbeats 4000000 in
set_option maxRecDepth 100000 in
theorem c_X5_back (G : xG) (l : Launch) (fu : Nat) (S S' : xS) (p0 : Nat) (r : Int) (hf : f_X5_back fu S p0 = some (r, S')) : Met l yX5_back vsX5_back rm_X5_back (va_Pc [.ref (xB G + p0)] (xPre G S)) (xQi G r S') 0 0 (xA G) := by
  refine kx_met (ret := (some .int)) RX5 [(0, .ref (xB G + p0))] (by decide) rfl rfl (Nat.le_of_ble_eq_true rfl) rfl (fun p e s m below meth c ls C hin I hl => ?_)
  exact (w_X5_back C r S' fu).1 S _ _ _ _ _ _ hf I hl
def rm_X5_undoes : Room := { frames := 2, cells := 0, slots := 0, locals := 45 }
theorem hin_X5_undoes_RX1 : ∀ w ∈ wsX10, w ∈ vsX5_undoes := fun w h => inM (inlX1 w h)
theorem hin_X5_undoes_RX5 : ∀ w ∈ wsX50, w ∈ vsX5_undoes := fun w h => inM (inlX5 w h)
theorem fl_X5_undoes_10 : xFl vsX5_undoes RX5 10 4 0 := ⟨RX5, TX5, 13, rfl, by decide, hin_X5_undoes_RX5, inM mq_1_15, rfl⟩
theorem fl_X5_undoes_37 : xFl vsX5_undoes RX5 37 4 5 := ⟨RX5, TX5, 13, rfl, by decide, hin_X5_undoes_RX5, inM mq_2_3, rfl⟩
theorem fl_X5_undoes_69 : xFl vsX5_undoes RX5 69 1 0 := ⟨RX1, TX1, 14, rfl, by decide, hin_X5_undoes_RX1, inM mq_5_19, rfl⟩
theorem fl_X5_undoes_96 : xFl vsX5_undoes RX5 96 1 3 := ⟨RX1, TX1, 14, rfl, by decide, hin_X5_undoes_RX1, inM mq_8_7, rfl⟩
theorem nyS_X5_undoes : yX5_undoes.cls ≠ "java/lang/invoke/MethodHandle" ∧ yX5_undoes.cls ≠ "java/lang/invoke/VarHandle" ∧ (parseMethodDescriptor yX5_undoes.desc).map (fun d => d.parameters.length) = some 0 := by decide +kernel
theorem nyV_X5_undoes : yX5_undoes.cls = RX5 ∧ yX5_undoes.cls ≠ "java/lang/invoke/MethodHandle" ∧ yX5_undoes.cls ≠ "java/lang/invoke/VarHandle" ∧ (parseMethodDescriptor yX5_undoes.desc).map (fun d => d.parameters.length) = some 0 := by decide +kernel
set_option maxHeartbeats 4000000 in
set_option maxRecDepth 100000 in
theorem w_X5_undoes {G : xG} {p : Program} {l : Launch} {e : Env} {s : State} {m : MethodId} {args : Array Value} {below : List Frame} {meth : Method} {c : Code} (C : xK G p s m args meth c cX5_undoes 2 vsX5_undoes RX5 (some .int)) (r : Int) (S' : xS) : ∀ k : Nat,
  (∀ (S : xS) (p0 : Nat) (i0 : Int) (H : Heap) (locs : List Loc) (ls : Array Slot), g_X5_undoes k 0 S p0 i0 = some (r, S') → xI G S s H locs → lv_has ls 2 [(0, .ref (xB G + p0))] → W p l e rm_X5_undoes s m args below meth c H locs 0 0 (MQ below (xQi G r S') args s 0 0 (xA G)) (F0 m 0 ls [])) ∧
  (∀ (S : xS) (p0 : Nat) (i0 : Int) (H : Heap) (locs : List Loc) (ls : Array Slot), g_X5_undoes k 1 S p0 i0 = some (r, S') → xI G S s H locs → lv_has ls 2 [(0, .ref (xB G + p0)), (1, .int (iI i0))] → W p l e rm_X5_undoes s m args below meth c H locs 0 0 (MQ below (xQi G r S') args s 0 0 (xA G)) (F0 m 2 ls [])) := by
  intro k
  induction k with
  | zero => exact ⟨fun _ _ _ _ _ _ hf => (by cases hf), fun _ _ _ _ _ _ hf => (by cases hf)⟩
  | succ fu ih =>
    obtain ⟨ih0, ih1⟩ := ih
    refine ⟨?_, ?_⟩
    · intro S p0 i0 H locs ls hf I hl
      replace hf : b_X5_undoes_0 (g_X5_undoes fu) fu S p0 i0 = some (r, S') := hf
      unfold b_X5_undoes_0 at hf
      refine kx_iconst 0 C dX5_undoes_0 ?_
      refine kx_istore_n 1 C (lv' := [(1, .int (iI 0)), (0, .ref (xB G + p0))]) dX5_undoes_1 hl (by decide) rfl rfl (fun ls hl => ?_)
      exact ih1 _ _ _ _ _ _ hf I (lv_sub hl [1, 0] rfl)
    · intro S p0 i0 H locs ls hf I hl
      replace hf : b_X5_undoes_1 (g_X5_undoes fu) fu S p0 i0 = some (r, S') := hf
      unfold b_X5_undoes_1 at hf
      refine kx_iload_n 2 C dX5_undoes_2 (lv_at hl 1 rfl) ?_
      refine kx_aload_n 3 C dX5_undoes_3 (lv_at hl 0 rfl) ?_
      obtain ⟨q2, h1, hf⟩ := ob hf
      refine kx_getp 4 C I fl_X5_undoes_10 h1 dX5_undoes_4 ?_
      obtain ⟨x4, h3, hf⟩ := ob hf
      refine kx_geti 7 C I fl_X5_undoes_69 h3 dX5_undoes_7 ?_
      refine kx_icmp_ge 10 34 C dX5_undoes_10 (by decide) (fun c5 => ?_) (fun c5 => ?_)
      · have hf := ifp c5 hf
        refine kx_aload_n 34 C dX5_undoes_34 (lv_at hl 0 rfl) ?_
        obtain ⟨q7, h6, hf⟩ := ob hf
        refine kx_getp 35 C I fl_X5_undoes_37 h6 dX5_undoes_35 ?_
        refine kx_aload_n 38 C dX5_undoes_38 (lv_at hl 0 rfl) ?_
        obtain ⟨q9, h8, hf⟩ := ob hf
        refine kx_getp 39 C I fl_X5_undoes_10 h8 dX5_undoes_39 ?_
        obtain ⟨x11, h10, hf⟩ := ob hf
        refine kx_geti 42 C I fl_X5_undoes_69 h10 dX5_undoes_42 ?_
        obtain ⟨x14, S12, h13, hf⟩ := ob2 hf
        refine kx_callSi 45 C hl I (As := [.ref (xB G + q7), .int (iI x11)]) (rest := []) (c_X4_rankOf G l fu _ _ _ _ _ h13) (va_cwS 2 C.ts gX5_undoes_X4_rankOf rfl rfl rfl nyS_X4_rankOf ⟨Nat.le_of_ble_eq_true rfl, Nat.le_of_ble_eq_true rfl⟩) rfl rfl (Nat.le_of_ble_eq_true rfl) dX5_undoes_45 ⟨Nat.le_of_ble_eq_true rfl, Nat.le_of_ble_eq_true rfl⟩ (fun H locs I => ?_)
        exact kx_iret 48 C I hf dX5_undoes_48
      · have hf := ifn c5 hf
        refine kx_aload_n 13 C dX5_undoes_13 (lv_at hl 0 rfl) ?_
        obtain ⟨q16, h15, hf⟩ := ob hf
        refine kx_getp 14 C I fl_X5_undoes_37 h15 dX5_undoes_14 ?_
        refine kx_aload_n 17 C dX5_undoes_17 (lv_at hl 0 rfl) ?_
        obtain ⟨q18, h17, hf⟩ := ob hf
        refine kx_getp 18 C I fl_X5_undoes_10 h17 dX5_undoes_18 ?_
        obtain ⟨q20, h19, hf⟩ := ob hf
        refine kx_getp 21 C I fl_X5_undoes_96 h19 dX5_undoes_21 ?_
        refine kx_iload_n 24 C dX5_undoes_24 (lv_at hl 1 rfl) ?_
        obtain ⟨x21, h22, hf⟩ := ob hf
        refine kx_iald 25 C I h22 dX5_undoes_25 ?_
        refine kx_iload_n 26 C dX5_undoes_26 (lv_at hl 1 rfl) ?_
        obtain ⟨S24, h23, hf⟩ := ob hf
        refine kx_iast 27 C I h23 dX5_undoes_27 (fun H locs I => ?_)
        obtain ⟨x25, e26, hf⟩ := nmx_e hf
        refine kx_iinc 28 C (lv' := [(1, .int (iI x25)), (0, .ref (xB G + p0))]) dX5_undoes_28 hl 1 rfl e26 (by decide) rfl (fun ls hl => ?_)
        refine kx_goto 31 2 C dX5_undoes_31 (by decide) ?_
        exact ih1 _ _ _ _ _ _ hf I (lv_sub hl [1, 0] rfl)
set_option maxHeartbeats 4000000 in
set_option maxRecDepth 100000 in
theorem c_X5_undoes (G : xG) (l : Launch) (fu : Nat) (S S' : xS) (p0 : Nat) (r : Int) (hf : f_X5_undoes fu S p0 = some (r, S')) : Met l yX5_undoes vsX5_undoes rm_X5_undoes (va_Pc [.ref (xB G + p0)] (xPre G S)) (xQi G r S') 0 0 (xA G) := by
  refine kx_met (ret := (some .int)) RX5 [(0, .ref (xB G + p0))] (by decide) rfl rfl (Nat.le_of_ble_eq_true rfl) rfl (fun p e s m below meth c ls C hin I hl => ?_)
  exact (w_X5_undoes C r S' fu).1 S _ _ _ _ _ hf I hl
def rm_X5_goesWith : Room := { frames := 2, cells := 0, slots := 0, locals := 47 }
theorem hin_X5_goesWith_RX1 : ∀ w ∈ wsX10, w ∈ vsX5_goesWith := fun w h => inM (inlX1 w h)
theorem hin_X5_goesWith_RX5 : ∀ w ∈ wsX50, w ∈ vsX5_goesWith := fun w h => inM (inlX5 w h)
theorem fl_X5_goesWith_10 : xFl vsX5_goesWith RX5 10 4 0 := ⟨RX5, TX5, 13, rfl, by decide, hin_X5_goesWith_RX5, inM mq_1_15, rfl⟩
theorem fl_X5_goesWith_37 : xFl vsX5_goesWith RX5 37 4 5 := ⟨RX5, TX5, 13, rfl, by decide, hin_X5_goesWith_RX5, inM mq_2_3, rfl⟩
theorem fl_X5_goesWith_69 : xFl vsX5_goesWith RX5 69 1 0 := ⟨RX1, TX1, 14, rfl, by decide, hin_X5_goesWith_RX1, inM mq_5_19, rfl⟩
theorem fl_X5_goesWith_96 : xFl vsX5_goesWith RX5 96 1 3 := ⟨RX1, TX1, 14, rfl, by decide, hin_X5_goesWith_RX1, inM mq_8_7, rfl⟩
theorem mw_X5_goesWith_0 : Cond.fieldLink RX5 201 "BoxRings" "WAYS_OF" "[I" ∈ vsX5_goesWith := inM mq_10_21
theorem nyS_X5_goesWith : yX5_goesWith.cls ≠ "java/lang/invoke/MethodHandle" ∧ yX5_goesWith.cls ≠ "java/lang/invoke/VarHandle" ∧ (parseMethodDescriptor yX5_goesWith.desc).map (fun d => d.parameters.length) = some 0 := by decide +kernel
theorem nyV_X5_goesWith : yX5_goesWith.cls = RX5 ∧ yX5_goesWith.cls ≠ "java/lang/invoke/MethodHandle" ∧ yX5_goesWith.cls ≠ "java/lang/invoke/VarHandle" ∧ (parseMethodDescriptor yX5_goesWith.desc).map (fun d => d.parameters.length) = some 0 := by decide +kernel
set_option maxHeartbeats 4000000 in
set_option maxRecDepth 100000 in
theorem w_X5_goesWith {G : xG} {p : Program} {l : Launch} {e : Env} {s : State} {m : MethodId} {args : Array Value} {below : List Frame} {meth : Method} {c : Code} (C : xK G p s m args meth c cX5_goesWith 4 vsX5_goesWith RX5 (some .int)) (r : Int) (S' : xS) : ∀ k : Nat,
  (∀ (S : xS) (p0 : Nat) (i0 i1 i2 : Int) (H : Heap) (locs : List Loc) (ls : Array Slot), g_X5_goesWith k 0 S p0 i0 i1 i2 = some (r, S') → xI G S s H locs → lv_has ls 4 [(0, .ref (xB G + p0))] → W p l e rm_X5_goesWith s m args below meth c H locs 0 0 (MQ below (xQi G r S') args s 0 0 (xA G)) (F0 m 0 ls [])) ∧
  (∀ (S : xS) (p0 : Nat) (i0 i1 i2 : Int) (H : Heap) (locs : List Loc) (ls : Array Slot), g_X5_goesWith k 1 S p0 i0 i1 i2 = some (r, S') → xI G S s H locs → lv_has ls 4 [(0, .ref (xB G + p0)), (1, .int (iI i0)), (2, .int (iI i1)), (3, .int (iI i2))] → W p l e rm_X5_goesWith s m args below meth c H locs 0 0 (MQ below (xQi G r S') args s 0 0 (xA G)) (F0 m 20 ls [])) ∧
  (∀ (S : xS) (p0 : Nat) (i0 i1 i2 : Int) (H : Heap) (locs : List Loc) (ls : Array Slot), g_X5_goesWith k 2 S p0 i0 i1 i2 = some (r, S') → xI G S s H locs → lv_has ls 4 [(0, .ref (xB G + p0)), (1, .int (iI i0)), (2, .int (iI i1)), (3, .int (iI i2))] → W p l e rm_X5_goesWith s m args below meth c H locs 0 0 (MQ below (xQi G r S') args s 0 0 (xA G)) (F0 m 50 ls [])) := by
  intro k
  induction k with
  | zero => exact ⟨fun _ _ _ _ _ _ _ _ hf => (by cases hf), fun _ _ _ _ _ _ _ _ hf => (by cases hf), fun _ _ _ _ _ _ _ _ hf => (by cases hf)⟩
  | succ fu ih =>
    obtain ⟨ih0, ih1, ih2⟩ := ih
    refine ⟨?_, ?_, ?_⟩
    · intro S p0 i0 i1 i2 H locs ls hf I hl
      replace hf : b_X5_goesWith_0 (g_X5_goesWith fu) fu S p0 i0 i1 i2 = some (r, S') := hf
      unfold b_X5_goesWith_0 at hf
      refine kx_aload_n 0 C dX5_goesWith_0 (lv_at hl 0 rfl) ?_
      obtain ⟨q2, h1, hf⟩ := ob hf
      refine kx_getp 1 C I fl_X5_goesWith_10 h1 dX5_goesWith_1 ?_
      obtain ⟨x4, h3, hf⟩ := ob hf
      refine kx_geti 4 C I fl_X5_goesWith_69 h3 dX5_goesWith_4 ?_
      refine kx_istore_n 7 C (lv' := [(1, .int (iI x4)), (0, .ref (xB G + p0))]) dX5_goesWith_7 hl (by decide) rfl rfl (fun ls hl => ?_)
      refine kx_iconst 8 C dX5_goesWith_8 ?_
      refine kx_istore_n 9 C (lv' := [(2, .int (iI 0)), (1, .int (iI x4)), (0, .ref (xB G + p0))]) dX5_goesWith_9 hl (by decide) rfl rfl (fun ls hl => ?_)
      refine kx_aload_n 10 C dX5_goesWith_10 (lv_at hl 2 rfl) ?_
      obtain ⟨q6, h5, hf⟩ := ob hf
      refine kx_getp 11 C I fl_X5_goesWith_37 h5 dX5_goesWith_11 ?_
      refine kx_iload_n 14 C dX5_goesWith_14 (lv_at hl 1 rfl) ?_
      obtain ⟨z9, S7, h8, hf⟩ := ob2 hf
      refine kx_callSv 15 C hl I (As := [.ref (xB G + q6), .int (iI x4)]) (rest := []) (c_X4_setToFirst G l fu _ _ _ _ _ h8) (va_cwS 2 C.ts gX5_goesWith_X4_setToFirst rfl rfl rfl nyS_X4_setToFirst ⟨Nat.le_of_ble_eq_true rfl, Nat.le_of_ble_eq_true rfl⟩) rfl rfl (Nat.le_of_ble_eq_true rfl) dX5_goesWith_15 ⟨Nat.le_of_ble_eq_true rfl, Nat.le_of_ble_eq_true rfl⟩ (fun H locs I => ?_)
      refine kx_iconst 18 C dX5_goesWith_18 ?_
      refine kx_istore_n 19 C (lv' := [(3, .int (iI 0)), (2, .int (iI 0)), (1, .int (iI x4)), (0, .ref (xB G + p0))]) dX5_goesWith_19 hl (by decide) rfl rfl (fun ls hl => ?_)
      exact ih1 _ _ _ _ _ _ _ _ hf I (lv_sub hl [3, 2, 1, 0] rfl)
    · intro S p0 i0 i1 i2 H locs ls hf I hl
      replace hf : b_X5_goesWith_1 (g_X5_goesWith fu) fu S p0 i0 i1 i2 = some (r, S') := hf
      unfold b_X5_goesWith_1 at hf
      refine kx_iload_n 20 C dX5_goesWith_20 (lv_at hl 3 rfl) ?_
      refine kx_gets 21 C I mw_X5_goesWith_0 dX5_goesWith_21 ?_
      refine kx_iload_n 24 C dX5_goesWith_24 (lv_at hl 1 rfl) ?_
      obtain ⟨x10, h11, hf⟩ := ob hf
      refine kx_tab 25 C I h11 dX5_goesWith_25 ?_
      refine kx_icmp_ge 26 64 C dX5_goesWith_26 (by decide) (fun c12 => ?_) (fun c12 => ?_)
      · have hf := ifp c12 hf
        refine kx_iload_n 64 C dX5_goesWith_64 (lv_at hl 2 rfl) ?_
        exact kx_iret 65 C I hf dX5_goesWith_65
      · have hf := ifn c12 hf
        refine kx_aload_n 29 C dX5_goesWith_29 (lv_at hl 0 rfl) ?_
        obtain ⟨q14, h13, hf⟩ := ob hf
        refine kx_getp 30 C I fl_X5_goesWith_10 h13 dX5_goesWith_30 ?_
        obtain ⟨q16, h15, hf⟩ := ob hf
        refine kx_getp 33 C I fl_X5_goesWith_96 h15 dX5_goesWith_33 ?_
        refine kx_aload_n 36 C dX5_goesWith_36 (lv_at hl 0 rfl) ?_
        obtain ⟨q18, h17, hf⟩ := ob hf
        refine kx_getp 37 C I fl_X5_goesWith_37 h17 dX5_goesWith_37 ?_
        refine kx_iload_n 40 C dX5_goesWith_40 (lv_at hl 1 rfl) ?_
        obtain ⟨x21, S19, h20, hf⟩ := ob2 hf
        refine kx_callSi 41 C hl I (As := [.ref (xB G + q16), .ref (xB G + q18), .int (iI i0)]) (rest := []) (c_X4_areExchangeable G l fu _ _ _ _ _ _ h20) (va_cwS 3 C.ts gX5_goesWith_X4_areExchangeable rfl rfl rfl nyS_X4_areExchangeable ⟨Nat.le_of_ble_eq_true rfl, Nat.le_of_ble_eq_true rfl⟩) rfl rfl (Nat.le_of_ble_eq_true rfl) dX5_goesWith_41 ⟨Nat.le_of_ble_eq_true rfl, Nat.le_of_ble_eq_true rfl⟩ (fun H locs I => ?_)
        refine kx_if_eq 44 50 C dX5_goesWith_44 (by decide) (fun c22 => ?_) (fun c22 => ?_)
        · have hf := ifp c22 hf
          exact ih2 _ _ _ _ _ _ _ _ hf I (lv_sub hl [0, 1, 2, 3] rfl)
        · have hf := ifn c22 hf
          obtain ⟨x23, e24, hf⟩ := nmx_e hf
          refine kx_iinc 47 C (lv' := [(2, .int (iI x23)), (0, .ref (xB G + p0)), (1, .int (iI i0)), (3, .int (iI i2))]) dX5_goesWith_47 hl 2 rfl e24 (by decide) rfl (fun ls hl => ?_)
          exact ih2 _ _ _ _ _ _ _ _ hf I (lv_sub hl [1, 2, 0, 3] rfl)
    · intro S p0 i0 i1 i2 H locs ls hf I hl
      replace hf : b_X5_goesWith_2 (g_X5_goesWith fu) fu S p0 i0 i1 i2 = some (r, S') := hf
      unfold b_X5_goesWith_2 at hf
      refine kx_aload_n 50 C dX5_goesWith_50 (lv_at hl 0 rfl) ?_
      obtain ⟨q26, h25, hf⟩ := ob hf
      refine kx_getp 51 C I fl_X5_goesWith_37 h25 dX5_goesWith_51 ?_
      refine kx_iload_n 54 C dX5_goesWith_54 (lv_at hl 1 rfl) ?_
      obtain ⟨z29, S27, h28, hf⟩ := ob2 hf
      refine kx_callSv 55 C hl I (As := [.ref (xB G + q26), .int (iI i0)]) (rest := []) (c_X4_setToNext G l fu _ _ _ _ _ h28) (va_cwS 2 C.ts gX5_goesWith_X4_setToNext rfl rfl rfl nyS_X4_setToNext ⟨Nat.le_of_ble_eq_true rfl, Nat.le_of_ble_eq_true rfl⟩) rfl rfl (Nat.le_of_ble_eq_true rfl) dX5_goesWith_55 ⟨Nat.le_of_ble_eq_true rfl, Nat.le_of_ble_eq_true rfl⟩ (fun H locs I => ?_)
      obtain ⟨x30, e31, hf⟩ := nmx_e hf
      refine kx_iinc 58 C (lv' := [(3, .int (iI x30)), (0, .ref (xB G + p0)), (1, .int (iI i0)), (2, .int (iI i1))]) dX5_goesWith_58 hl 3 rfl e31 (by decide) rfl (fun ls hl => ?_)
      refine kx_goto 61 20 C dX5_goesWith_61 (by decide) ?_
      exact ih1 _ _ _ _ _ _ _ _ hf I (lv_sub hl [1, 2, 3, 0] rfl)
set_option maxHeartbeats 4000000 in
set_option maxRecDepth 100000 in
theorem c_X5_goesWith (G : xG) (l : Launch) (fu : Nat) (S S' : xS) (p0 : Nat) (r : Int) (hf : f_X5_goesWith fu S p0 = some (r, S')) : Met l yX5_goesWith vsX5_goesWith rm_X5_goesWith (va_Pc [.ref (xB G + p0)] (xPre G S)) (xQi G r S') 0 0 (xA G) := by
  refine kx_met (ret := (some .int)) RX5 [(0, .ref (xB G + p0))] (by decide) rfl rfl (Nat.le_of_ble_eq_true rfl) rfl (fun p e s m below meth c ls C hin I hl => ?_)
  exact (w_X5_goesWith C r S' fu).1 S _ _ _ _ _ _ _ hf I hl
def rm_X5_roots : Room := { frames := 2, cells := 0, slots := 0, locals := 48 }
theorem hin_X5_roots_RX1 : ∀ w ∈ wsX10, w ∈ vsX5_roots := fun w h => inM (inlX1 w h)
theorem hin_X5_roots_RX5 : ∀ w ∈ wsX50, w ∈ vsX5_roots := fun w h => inM (inlX5 w h)
theorem fl_X5_roots_10 : xFl vsX5_roots RX5 10 4 0 := ⟨RX5, TX5, 13, rfl, by decide, hin_X5_roots_RX5, inM mq_1_15, rfl⟩
theorem fl_X5_roots_37 : xFl vsX5_roots RX5 37 4 5 := ⟨RX5, TX5, 13, rfl, by decide, hin_X5_roots_RX5, inM mq_2_3, rfl⟩
theorem fl_X5_roots_69 : xFl vsX5_roots RX5 69 1 0 := ⟨RX1, TX1, 14, rfl, by decide, hin_X5_roots_RX1, inM mq_5_19, rfl⟩
theorem fl_X5_roots_96 : xFl vsX5_roots RX5 96 1 3 := ⟨RX1, TX1, 14, rfl, by decide, hin_X5_roots_RX1, inM mq_8_7, rfl⟩
theorem mw_X5_roots_0 : Cond.fieldLink RX5 201 "BoxRings" "WAYS_OF" "[I" ∈ vsX5_roots := inM mq_10_21
theorem nyS_X5_roots : yX5_roots.cls ≠ "java/lang/invoke/MethodHandle" ∧ yX5_roots.cls ≠ "java/lang/invoke/VarHandle" ∧ (parseMethodDescriptor yX5_roots.desc).map (fun d => d.parameters.length) = some 1 := by decide +kernel
theorem nyV_X5_roots : yX5_roots.cls = RX5 ∧ yX5_roots.cls ≠ "java/lang/invoke/MethodHandle" ∧ yX5_roots.cls ≠ "java/lang/invoke/VarHandle" ∧ (parseMethodDescriptor yX5_roots.desc).map (fun d => d.parameters.length) = some 1 := by decide +kernel
set_option maxHeartbeats 4000000 in
set_option maxRecDepth 100000 in
theorem w_X5_roots {G : xG} {p : Program} {l : Launch} {e : Env} {s : State} {m : MethodId} {args : Array Value} {below : List Frame} {meth : Method} {c : Code} (C : xK G p s m args meth c cX5_roots 5 vsX5_roots RX5 (some .int)) (r : Int) (S' : xS) : ∀ k : Nat,
  (∀ (S : xS) (p0 : Nat) (i0 i1 i2 i3 : Int) (H : Heap) (locs : List Loc) (ls : Array Slot), g_X5_roots k 0 S p0 i0 i1 i2 i3 = some (r, S') → xI G S s H locs → lv_has ls 5 [(0, .ref (xB G + p0)), (1, .int (iI i0))] → W p l e rm_X5_roots s m args below meth c H locs 0 0 (MQ below (xQi G r S') args s 0 0 (xA G)) (F0 m 0 ls [])) ∧
  (∀ (S : xS) (p0 : Nat) (i0 i1 i2 i3 : Int) (H : Heap) (locs : List Loc) (ls : Array Slot), g_X5_roots k 1 S p0 i0 i1 i2 i3 = some (r, S') → xI G S s H locs → lv_has ls 5 [(0, .ref (xB G + p0))] → W p l e rm_X5_roots s m args below meth c H locs 0 0 (MQ below (xQi G r S') args s 0 0 (xA G)) (F0 m 11 ls [])) ∧
  (∀ (S : xS) (p0 : Nat) (i0 i1 i2 i3 : Int) (H : Heap) (locs : List Loc) (ls : Array Slot), g_X5_roots k 2 S p0 i0 i1 i2 i3 = some (r, S') → xI G S s H locs → lv_has ls 5 [(0, .ref (xB G + p0)), (1, .int (iI i0)), (2, .int (iI i1)), (3, .int (iI i2)), (4, .int (iI i3))] → W p l e rm_X5_roots s m args below meth c H locs 0 0 (MQ below (xQi G r S') args s 0 0 (xA G)) (F0 m 37 ls [])) ∧
  (∀ (S : xS) (p0 : Nat) (i0 i1 i2 i3 : Int) (H : Heap) (locs : List Loc) (ls : Array Slot), g_X5_roots k 3 S p0 i0 i1 i2 i3 = some (r, S') → xI G S s H locs → lv_has ls 5 [(0, .ref (xB G + p0)), (1, .int (iI i0)), (2, .int (iI i1)), (3, .int (iI i2)), (4, .int (iI i3))] → W p l e rm_X5_roots s m args below meth c H locs 0 0 (MQ below (xQi G r S') args s 0 0 (xA G)) (F0 m 69 ls [])) := by
  intro k
  induction k with
  | zero => exact ⟨fun _ _ _ _ _ _ _ _ _ hf => (by cases hf), fun _ _ _ _ _ _ _ _ _ hf => (by cases hf), fun _ _ _ _ _ _ _ _ _ hf => (by cases hf), fun _ _ _ _ _ _ _ _ _ hf => (by cases hf)⟩
  | succ fu ih =>
    obtain ⟨ih0, ih1, ih2, ih3⟩ := ih
    refine ⟨?_, ?_, ?_, ?_⟩
    · intro S p0 i0 i1 i2 i3 H locs ls hf I hl
      replace hf : b_X5_roots_0 (g_X5_roots fu) fu S p0 i0 i1 i2 i3 = some (r, S') := hf
      unfold b_X5_roots_0 at hf
      refine kx_iload_n 0 C dX5_roots_0 (lv_at hl 1 rfl) ?_
      refine kx_iconst 1 C dX5_roots_1 ?_
      refine kx_icmp_lt 2 11 C dX5_roots_2 (by decide) (fun c1 => ?_) (fun c1 => ?_)
      · have hf := ifp c1 hf
        exact ih1 _ _ _ _ _ _ _ _ _ hf I (lv_sub hl [0] rfl)
      · have hf := ifn c1 hf
        refine kx_iload_n 5 C dX5_roots_5 (lv_at hl 1 rfl) ?_
        refine kx_bipush 6 C dX5_roots_6 (by decide) ?_
        refine kx_icmp_le 8 16 C dX5_roots_8 (by decide) (fun c2 => ?_) (fun c2 => ?_)
        · have hf := ifp c2 hf
          refine kx_aload_n 16 C dX5_roots_16 (lv_at hl 0 rfl) ?_
          obtain ⟨q4, h3, hf⟩ := ob hf
          refine kx_getp 17 C I fl_X5_roots_10 h3 dX5_roots_17 ?_
          obtain ⟨x6, h5, hf⟩ := ob hf
          refine kx_geti 20 C I fl_X5_roots_69 h5 dX5_roots_20 ?_
          refine kx_istore_n 23 C (lv' := [(2, .int (iI x6)), (0, .ref (xB G + p0)), (1, .int (iI i0))]) dX5_roots_23 hl (by decide) rfl rfl (fun ls hl => ?_)
          refine kx_iconst 24 C dX5_roots_24 ?_
          refine kx_istore_n 25 C (lv' := [(3, .int (iI 0)), (2, .int (iI x6)), (0, .ref (xB G + p0)), (1, .int (iI i0))]) dX5_roots_25 hl (by decide) rfl rfl (fun ls hl => ?_)
          refine kx_aload_n 26 C dX5_roots_26 (lv_at hl 2 rfl) ?_
          obtain ⟨q8, h7, hf⟩ := ob hf
          refine kx_getp 27 C I fl_X5_roots_37 h7 dX5_roots_27 ?_
          refine kx_iload_n 30 C dX5_roots_30 (lv_at hl 1 rfl) ?_
          obtain ⟨z11, S9, h10, hf⟩ := ob2 hf
          refine kx_callSv 31 C hl I (As := [.ref (xB G + q8), .int (iI x6)]) (rest := []) (c_X4_setToFirst G l fu _ _ _ _ _ h10) (va_cwS 2 C.ts gX5_roots_X4_setToFirst rfl rfl rfl nyS_X4_setToFirst ⟨Nat.le_of_ble_eq_true rfl, Nat.le_of_ble_eq_true rfl⟩) rfl rfl (Nat.le_of_ble_eq_true rfl) dX5_roots_31 ⟨Nat.le_of_ble_eq_true rfl, Nat.le_of_ble_eq_true rfl⟩ (fun H locs I => ?_)
          refine kx_iconst 34 C dX5_roots_34 ?_
          refine kx_istore 35 C (lv' := [(4, .int (iI 0)), (3, .int (iI 0)), (2, .int (iI x6)), (0, .ref (xB G + p0)), (1, .int (iI i0))]) dX5_roots_35 hl (by decide) rfl rfl (fun ls hl => ?_)
          exact ih2 _ _ _ _ _ _ _ _ _ hf I (lv_sub hl [3, 4, 2, 1, 0] rfl)
        · have hf := ifn c2 hf
          exact ih1 _ _ _ _ _ _ _ _ _ hf I (lv_sub hl [0] rfl)
    · intro S p0 i0 i1 i2 i3 H locs ls hf I hl
      replace hf : b_X5_roots_1 (g_X5_roots fu) fu S p0 i0 i1 i2 i3 = some (r, S') := hf
      unfold b_X5_roots_1 at hf
      refine kx_aload_n 11 C dX5_roots_11 (lv_at hl 0 rfl) ?_
      obtain ⟨h15, hf⟩ := ift hf
      obtain ⟨x14, S12, h13, hf⟩ := ob2 hf
      refine kx_callVi 12 C hl I (ci := 4) (As := []) (rest := []) (c_X5_refuseBad G l fu _ _ _ _ h13) (cwV 0 C.ts gX5_roots_X5_refuseBad rfl rfl rfl nyV_X5_refuseBad ⟨Nat.le_of_ble_eq_true rfl, Nat.le_of_ble_eq_true rfl⟩) rfl h15 rfl rfl (Nat.le_of_ble_eq_true rfl) dX5_roots_12 ⟨Nat.le_of_ble_eq_true rfl, Nat.le_of_ble_eq_true rfl⟩ (fun H locs I => ?_)
      exact kx_iret 15 C I hf dX5_roots_15
    · intro S p0 i0 i1 i2 i3 H locs ls hf I hl
      replace hf : b_X5_roots_2 (g_X5_roots fu) fu S p0 i0 i1 i2 i3 = some (r, S') := hf
      unfold b_X5_roots_2 at hf
      refine kx_iload 37 C dX5_roots_37 (lv_at hl 4 rfl) ?_
      refine kx_gets 39 C I mw_X5_roots_0 dX5_roots_39 ?_
      refine kx_iload_n 42 C dX5_roots_42 (lv_at hl 2 rfl) ?_
      obtain ⟨x16, h17, hf⟩ := ob hf
      refine kx_tab 43 C I h17 dX5_roots_43 ?_
      refine kx_icmp_ge 44 83 C dX5_roots_44 (by decide) (fun c18 => ?_) (fun c18 => ?_)
      · have hf := ifp c18 hf
        refine kx_iload_n 83 C dX5_roots_83 (lv_at hl 3 rfl) ?_
        exact kx_iret 84 C I hf dX5_roots_84
      · have hf := ifn c18 hf
        refine kx_aload_n 47 C dX5_roots_47 (lv_at hl 0 rfl) ?_
        obtain ⟨q20, h19, hf⟩ := ob hf
        refine kx_getp 48 C I fl_X5_roots_37 h19 dX5_roots_48 ?_
        refine kx_iload_n 51 C dX5_roots_51 (lv_at hl 1 rfl) ?_
        refine kx_aload_n 52 C dX5_roots_52 (lv_at hl 0 rfl) ?_
        obtain ⟨q22, h21, hf⟩ := ob hf
        refine kx_getp 53 C I fl_X5_roots_10 h21 dX5_roots_53 ?_
        obtain ⟨q24, h23, hf⟩ := ob hf
        refine kx_getp 56 C I fl_X5_roots_96 h23 dX5_roots_56 ?_
        refine kx_iload_n 59 C dX5_roots_59 (lv_at hl 2 rfl) ?_
        obtain ⟨x27, S25, h26, hf⟩ := ob2 hf
        refine kx_callSi 60 C hl I (As := [.ref (xB G + q20), .int (iI i0), .ref (xB G + q24), .int (iI i1)]) (rest := []) (c_X4_isRoot G l fu _ _ _ _ _ _ _ h26) (va_cwS 4 C.ts gX5_roots_X4_isRoot rfl rfl rfl nyS_X4_isRoot ⟨Nat.le_of_ble_eq_true rfl, Nat.le_of_ble_eq_true rfl⟩) rfl rfl (Nat.le_of_ble_eq_true rfl) dX5_roots_60 ⟨Nat.le_of_ble_eq_true rfl, Nat.le_of_ble_eq_true rfl⟩ (fun H locs I => ?_)
        refine kx_if_eq 63 69 C dX5_roots_63 (by decide) (fun c28 => ?_) (fun c28 => ?_)
        · have hf := ifp c28 hf
          exact ih3 _ _ _ _ _ _ _ _ _ hf I (lv_sub hl [0, 1, 2, 3, 4] rfl)
        · have hf := ifn c28 hf
          obtain ⟨x29, e30, hf⟩ := nmx_e hf
          refine kx_iinc 66 C (lv' := [(3, .int (iI x29)), (0, .ref (xB G + p0)), (1, .int (iI i0)), (2, .int (iI i1)), (4, .int (iI i3))]) dX5_roots_66 hl 3 rfl e30 (by decide) rfl (fun ls hl => ?_)
          exact ih3 _ _ _ _ _ _ _ _ _ hf I (lv_sub hl [1, 2, 3, 0, 4] rfl)
    · intro S p0 i0 i1 i2 i3 H locs ls hf I hl
      replace hf : b_X5_roots_3 (g_X5_roots fu) fu S p0 i0 i1 i2 i3 = some (r, S') := hf
      unfold b_X5_roots_3 at hf
      refine kx_aload_n 69 C dX5_roots_69 (lv_at hl 0 rfl) ?_
      obtain ⟨q32, h31, hf⟩ := ob hf
      refine kx_getp 70 C I fl_X5_roots_37 h31 dX5_roots_70 ?_
      refine kx_iload_n 73 C dX5_roots_73 (lv_at hl 2 rfl) ?_
      obtain ⟨z35, S33, h34, hf⟩ := ob2 hf
      refine kx_callSv 74 C hl I (As := [.ref (xB G + q32), .int (iI i1)]) (rest := []) (c_X4_setToNext G l fu _ _ _ _ _ h34) (va_cwS 2 C.ts gX5_roots_X4_setToNext rfl rfl rfl nyS_X4_setToNext ⟨Nat.le_of_ble_eq_true rfl, Nat.le_of_ble_eq_true rfl⟩) rfl rfl (Nat.le_of_ble_eq_true rfl) dX5_roots_74 ⟨Nat.le_of_ble_eq_true rfl, Nat.le_of_ble_eq_true rfl⟩ (fun H locs I => ?_)
      obtain ⟨x36, e37, hf⟩ := nmx_e hf
      refine kx_iinc 77 C (lv' := [(4, .int (iI x36)), (0, .ref (xB G + p0)), (1, .int (iI i0)), (2, .int (iI i1)), (3, .int (iI i2))]) dX5_roots_77 hl 4 rfl e37 (by decide) rfl (fun ls hl => ?_)
      refine kx_goto 80 37 C dX5_roots_80 (by decide) ?_
      exact ih2 _ _ _ _ _ _ _ _ _ hf I (lv_sub hl [1, 2, 3, 4, 0] rfl)
set_option maxHeartbeats 4000000 in
set_option maxRecDepth 100000 in
theorem c_X5_roots (G : xG) (l : Launch) (fu : Nat) (S S' : xS) (p0 : Nat) (i0 : Int) (r : Int) (hf : f_X5_roots fu S p0 i0 = some (r, S')) : Met l yX5_roots vsX5_roots rm_X5_roots (va_Pc [.ref (xB G + p0), .int (iI i0)] (xPre G S)) (xQi G r S') 0 0 (xA G) := by
  refine kx_met (ret := (some .int)) RX5 [(0, .ref (xB G + p0)), (1, .int (iI i0))] (by decide) rfl rfl (Nat.le_of_ble_eq_true rfl) rfl (fun p e s m below meth c ls C hin I hl => ?_)
  exact (w_X5_roots C r S' fu).1 S _ _ _ _ _ _ _ _ hf I hl
def rm_X5_alike : Room := { frames := 2, cells := 0, slots := 0, locals := 51 }
theorem hin_X5_alike_RX1 : ∀ w ∈ wsX10, w ∈ vsX5_alike := fun w h => inM (inlX1 w h)
theorem hin_X5_alike_RX5 : ∀ w ∈ wsX50, w ∈ vsX5_alike := fun w h => inM (inlX5 w h)
theorem fl_X5_alike_10 : xFl vsX5_alike RX5 10 4 0 := ⟨RX5, TX5, 13, rfl, by decide, hin_X5_alike_RX5, inM mq_1_15, rfl⟩
theorem fl_X5_alike_37 : xFl vsX5_alike RX5 37 4 5 := ⟨RX5, TX5, 13, rfl, by decide, hin_X5_alike_RX5, inM mq_2_3, rfl⟩
theorem fl_X5_alike_69 : xFl vsX5_alike RX5 69 1 0 := ⟨RX1, TX1, 14, rfl, by decide, hin_X5_alike_RX1, inM mq_5_19, rfl⟩
theorem fl_X5_alike_96 : xFl vsX5_alike RX5 96 1 3 := ⟨RX1, TX1, 14, rfl, by decide, hin_X5_alike_RX1, inM mq_8_7, rfl⟩
theorem nyS_X5_alike : yX5_alike.cls ≠ "java/lang/invoke/MethodHandle" ∧ yX5_alike.cls ≠ "java/lang/invoke/VarHandle" ∧ (parseMethodDescriptor yX5_alike.desc).map (fun d => d.parameters.length) = some 1 := by decide +kernel
theorem nyV_X5_alike : yX5_alike.cls = RX5 ∧ yX5_alike.cls ≠ "java/lang/invoke/MethodHandle" ∧ yX5_alike.cls ≠ "java/lang/invoke/VarHandle" ∧ (parseMethodDescriptor yX5_alike.desc).map (fun d => d.parameters.length) = some 1 := by decide +kernel
set_option maxHeartbeats 4000000 in
set_option maxRecDepth 100000 in
theorem c_X5_alike (G : xG) (l : Launch) (fu : Nat) (S S' : xS) (p0 : Nat) (i0 : Int) (r : Int) (hf : f_X5_alike fu S p0 i0 = some (r, S')) : Met l yX5_alike vsX5_alike rm_X5_alike (va_Pc [.ref (xB G + p0), .int (iI i0)] (xPre G S)) (xQi G r S') 0 0 (xA G) := by
  refine kx_met (ret := (some .int)) RX5 [(0, .ref (xB G + p0)), (1, .int (iI i0))] (by decide) rfl rfl (Nat.le_of_ble_eq_true rfl) rfl (fun p e s m below meth c ls C hin I hl => ?_)
  unfold f_X5_alike at hf
  refine kx_aload_n 0 C dX5_alike_0 (lv_at hl 0 rfl) ?_
  refine kx_iload_n 1 C dX5_alike_1 (lv_at hl 1 rfl) ?_
  obtain ⟨h4, hf⟩ := ift hf
  obtain ⟨x3, S1, h2, hf⟩ := ob2 hf
  refine kx_callVi 2 C hl I (ci := 4) (As := [.int (iI i0)]) (rest := []) (c_X5_isNoRank G l fu _ _ _ _ _ h2) (cwV 1 C.ts gX5_alike_X5_isNoRank rfl rfl rfl nyV_X5_isNoRank ⟨Nat.le_of_ble_eq_true rfl, Nat.le_of_ble_eq_true rfl⟩) rfl h4 rfl rfl (Nat.le_of_ble_eq_true rfl) dX5_alike_2 ⟨Nat.le_of_ble_eq_true rfl, Nat.le_of_ble_eq_true rfl⟩ (fun H locs I => ?_)
  refine kx_if_eq 5 13 C dX5_alike_5 (by decide) (fun c5 => ?_) (fun c5 => ?_)
  · have hf := ifp c5 hf
    refine kx_aload_n 13 C dX5_alike_13 (lv_at hl 0 rfl) ?_
    obtain ⟨q7, h6, hf⟩ := ob hf
    refine kx_getp 14 C I fl_X5_alike_10 h6 dX5_alike_14 ?_
    obtain ⟨x9, h8, hf⟩ := ob hf
    refine kx_geti 17 C I fl_X5_alike_69 h8 dX5_alike_17 ?_
    refine kx_istore_n 20 C (lv' := [(2, .int (iI x9)), (0, .ref (xB G + p0)), (1, .int (iI i0))]) dX5_alike_20 hl (by decide) rfl rfl (fun ls hl => ?_)
    refine kx_aload_n 21 C dX5_alike_21 (lv_at hl 1 rfl) ?_
    obtain ⟨q11, h10, hf⟩ := ob hf
    refine kx_getp 22 C I fl_X5_alike_37 h10 dX5_alike_22 ?_
    refine kx_iload_n 25 C dX5_alike_25 (lv_at hl 0 rfl) ?_
    refine kx_iload_n 26 C dX5_alike_26 (lv_at hl 2 rfl) ?_
    obtain ⟨z14, S12, h13, hf⟩ := ob2 hf
    refine kx_callSv 27 C hl I (As := [.ref (xB G + q11), .int (iI x9), .int (iI i0)]) (rest := []) (c_X4_setToRank G l fu _ _ _ _ _ _ h13) (va_cwS 3 C.ts gX5_alike_X4_setToRank rfl rfl rfl nyS_X4_setToRank ⟨Nat.le_of_ble_eq_true rfl, Nat.le_of_ble_eq_true rfl⟩) rfl rfl (Nat.le_of_ble_eq_true rfl) dX5_alike_27 ⟨Nat.le_of_ble_eq_true rfl, Nat.le_of_ble_eq_true rfl⟩ (fun H locs I => ?_)
    refine kx_aload_n 30 C dX5_alike_30 (lv_at hl 1 rfl) ?_
    obtain ⟨q16, h15, hf⟩ := ob hf
    refine kx_getp 31 C I fl_X5_alike_37 h15 dX5_alike_31 ?_
    refine kx_iload_n 34 C dX5_alike_34 (lv_at hl 0 rfl) ?_
    obtain ⟨x19, S17, h18, hf⟩ := ob2 hf
    refine kx_callSl 35 C hl I (As := [.ref (xB G + q16), .int (iI x9)]) (rest := []) (c_X4_ringMark G l fu _ _ _ _ _ h18) (va_cwS 2 C.ts gX5_alike_X4_ringMark rfl rfl rfl nyS_X4_ringMark ⟨Nat.le_of_ble_eq_true rfl, Nat.le_of_ble_eq_true rfl⟩) rfl rfl (Nat.le_of_ble_eq_true rfl) dX5_alike_35 ⟨Nat.le_of_ble_eq_true rfl, Nat.le_of_ble_eq_true rfl⟩ (fun H locs I => ?_)
    refine kx_aload_n 38 C dX5_alike_38 (lv_at hl 1 rfl) ?_
    obtain ⟨q21, h20, hf⟩ := ob hf
    refine kx_getp 39 C I fl_X5_alike_10 h20 dX5_alike_39 ?_
    obtain ⟨q23, h22, hf⟩ := ob hf
    refine kx_getp 42 C I fl_X5_alike_96 h22 dX5_alike_42 ?_
    refine kx_iload_n 45 C dX5_alike_45 (lv_at hl 0 rfl) ?_
    obtain ⟨x26, S24, h25, hf⟩ := ob2 hf
    refine kx_callSl 46 C hl I (As := [.ref (xB G + q23), .int (iI x9)]) (rest := [.long (lI x19)]) (c_X4_ringMark G l fu _ _ _ _ _ h25) (va_cwS 2 C.ts gX5_alike_X4_ringMark rfl rfl rfl nyS_X4_ringMark ⟨Nat.le_of_ble_eq_true rfl, Nat.le_of_ble_eq_true rfl⟩) rfl rfl (Nat.le_of_ble_eq_true rfl) dX5_alike_46 ⟨Nat.le_of_ble_eq_true rfl, Nat.le_of_ble_eq_true rfl⟩ (fun H locs I => ?_)
    refine kx_lcmp 49 C dX5_alike_49 ?_
    refine kx_if_ne 50 57 C dX5_alike_50 (by decide) (fun c27 => ?_) (fun c27 => ?_)
    · have hf := ifn c27 hf
      refine kx_iconst 57 C dX5_alike_57 ?_
      exact kx_iret 58 C I hf dX5_alike_58
    · have hf := ifp c27 hf
      refine kx_iconst 53 C dX5_alike_53 ?_
      refine kx_goto 54 58 C dX5_alike_54 (by decide) ?_
      exact kx_iret 58 C I hf dX5_alike_58
  · have hf := ifn c5 hf
    refine kx_aload_n 8 C dX5_alike_8 (lv_at hl 0 rfl) ?_
    obtain ⟨h31, hf⟩ := ift hf
    obtain ⟨x30, S28, h29, hf⟩ := ob2 hf
    refine kx_callVi 9 C hl I (ci := 4) (As := []) (rest := []) (c_X5_refuseBad G l fu _ _ _ _ h29) (cwV 0 C.ts gX5_alike_X5_refuseBad rfl rfl rfl nyV_X5_refuseBad ⟨Nat.le_of_ble_eq_true rfl, Nat.le_of_ble_eq_true rfl⟩) rfl h31 rfl rfl (Nat.le_of_ble_eq_true rfl) dX5_alike_9 ⟨Nat.le_of_ble_eq_true rfl, Nat.le_of_ble_eq_true rfl⟩ (fun H locs I => ?_)
    exact kx_iret 12 C I hf dX5_alike_12
def rm_X5_even : Room := { frames := 1, cells := 0, slots := 0, locals := 26 }
theorem hin_X5_even_RX1 : ∀ w ∈ wsX10, w ∈ vsX5_even := fun w h => inM (inlX1 w h)
theorem hin_X5_even_RX5 : ∀ w ∈ wsX50, w ∈ vsX5_even := fun w h => inM (inlX5 w h)
theorem fl_X5_even_10 : xFl vsX5_even RX5 10 4 0 := ⟨RX5, TX5, 13, rfl, by decide, hin_X5_even_RX5, inM mq_1_15, rfl⟩
theorem fl_X5_even_69 : xFl vsX5_even RX5 69 1 0 := ⟨RX1, TX1, 14, rfl, by decide, hin_X5_even_RX1, inM mq_5_19, rfl⟩
theorem fl_X5_even_96 : xFl vsX5_even RX5 96 1 3 := ⟨RX1, TX1, 14, rfl, by decide, hin_X5_even_RX1, inM mq_8_7, rfl⟩
theorem nyS_X5_even : yX5_even.cls ≠ "java/lang/invoke/MethodHandle" ∧ yX5_even.cls ≠ "java/lang/invoke/VarHandle" ∧ (parseMethodDescriptor yX5_even.desc).map (fun d => d.parameters.length) = some 0 := by decide +kernel
theorem nyV_X5_even : yX5_even.cls = RX5 ∧ yX5_even.cls ≠ "java/lang/invoke/MethodHandle" ∧ yX5_even.cls ≠ "java/lang/invoke/VarHandle" ∧ (parseMethodDescriptor yX5_even.desc).map (fun d => d.parameters.length) = some 0 := by decide +kernel
set_option maxHeartbeats 4000000 in
set_option maxRecDepth 100000 in
theorem c_X5_even (G : xG) (l : Launch) (fu : Nat) (S S' : xS) (p0 : Nat) (r : Int) (hf : f_X5_even fu S p0 = some (r, S')) : Met l yX5_even vsX5_even rm_X5_even (va_Pc [.ref (xB G + p0)] (xPre G S)) (xQi G r S') 0 0 (xA G) := by
  refine kx_met (ret := (some .int)) RX5 [(0, .ref (xB G + p0))] (by decide) rfl rfl (Nat.le_of_ble_eq_true rfl) rfl (fun p e s m below meth c ls C hin I hl => ?_)
  unfold f_X5_even at hf
  refine kx_aload_n 0 C dX5_even_0 (lv_at hl 0 rfl) ?_
  obtain ⟨q2, h1, hf⟩ := ob hf
  refine kx_getp 1 C I fl_X5_even_10 h1 dX5_even_1 ?_
  obtain ⟨x4, h3, hf⟩ := ob hf
  refine kx_geti 4 C I fl_X5_even_69 h3 dX5_even_4 ?_
  refine kx_aload_n 7 C dX5_even_7 (lv_at hl 0 rfl) ?_
  obtain ⟨q6, h5, hf⟩ := ob hf
  refine kx_getp 8 C I fl_X5_even_10 h5 dX5_even_8 ?_
  obtain ⟨q8, h7, hf⟩ := ob hf
  refine kx_getp 11 C I fl_X5_even_96 h7 dX5_even_11 ?_
  refine kx_aload_n 14 C dX5_even_14 (lv_at hl 0 rfl) ?_
  obtain ⟨q10, h9, hf⟩ := ob hf
  refine kx_getp 15 C I fl_X5_even_10 h9 dX5_even_15 ?_
  obtain ⟨x12, h11, hf⟩ := ob hf
  refine kx_geti 18 C I fl_X5_even_69 h11 dX5_even_18 ?_
  obtain ⟨x15, S13, h14, hf⟩ := ob2 hf
  refine kx_callSi 21 C hl I (As := [.ref (xB G + q8), .int (iI x12)]) (rest := [.int (iI x4)]) (c_X4_ringCount G l fu _ _ _ _ _ h14) (va_cwS 2 C.ts gX5_even_X4_ringCount rfl rfl rfl nyS_X4_ringCount ⟨Nat.le_of_ble_eq_true rfl, Nat.le_of_ble_eq_true rfl⟩) rfl rfl (Nat.le_of_ble_eq_true rfl) dX5_even_21 ⟨Nat.le_of_ble_eq_true rfl, Nat.le_of_ble_eq_true rfl⟩ (fun H locs I => ?_)
  refine kx_isub 24 C dX5_even_24 ?_
  obtain ⟨x16, e17, hf⟩ := nmx_e hf
  refine kx_istore_n 25 C (lv' := [(1, .int (iI x16)), (0, .ref (xB G + p0))]) dX5_even_25 hl (by decide) e17 rfl (fun ls hl => ?_)
  refine kx_iload_n 26 C dX5_even_26 (lv_at hl 0 rfl) ?_
  refine kx_iconst 27 C dX5_even_27 ?_
  obtain ⟨h18, hf⟩ := ifz hf
  refine kx_irem 28 C dX5_even_28 h18 ?_
  refine kx_if_ne 29 36 C dX5_even_29 (by decide) (fun c19 => ?_) (fun c19 => ?_)
  · have hf := ifn c19 hf
    refine kx_iconst 36 C dX5_even_36 ?_
    exact kx_iret 37 C I hf dX5_even_37
  · have hf := ifp c19 hf
    refine kx_iconst 32 C dX5_even_32 ?_
    refine kx_goto 33 37 C dX5_even_33 (by decide) ?_
    exact kx_iret 37 C I hf dX5_even_37
def rm_X5_move : Room := { frames := 1, cells := 0, slots := 0, locals := 21 }
theorem hin_X5_move_RX1 : ∀ w ∈ wsX10, w ∈ vsX5_move := fun w h => inM (inlX1 w h)
theorem hin_X5_move_RX5 : ∀ w ∈ wsX50, w ∈ vsX5_move := fun w h => inM (inlX5 w h)
theorem fl_X5_move_10 : xFl vsX5_move RX5 10 4 0 := ⟨RX5, TX5, 13, rfl, by decide, hin_X5_move_RX5, inM mq_1_15, rfl⟩
theorem fl_X5_move_219 : xFl vsX5_move RX5 219 1 9 := ⟨RX1, TX1, 14, rfl, by decide, hin_X5_move_RX1, inM mq_32_17, rfl⟩
theorem nyS_X5_move : yX5_move.cls ≠ "java/lang/invoke/MethodHandle" ∧ yX5_move.cls ≠ "java/lang/invoke/VarHandle" ∧ (parseMethodDescriptor yX5_move.desc).map (fun d => d.parameters.length) = some 1 := by decide +kernel
theorem nyV_X5_move : yX5_move.cls = RX5 ∧ yX5_move.cls ≠ "java/lang/invoke/MethodHandle" ∧ yX5_move.cls ≠ "java/lang/invoke/VarHandle" ∧ (parseMethodDescriptor yX5_move.desc).map (fun d => d.parameters.length) = some 1 := by decide +kernel
set_option maxHeartbeats 4000000 in
set_option maxRecDepth 100000 in
theorem c_X5_move (G : xG) (l : Launch) (fu : Nat) (S S' : xS) (p0 : Nat) (i0 : Int) (r : Int) (hf : f_X5_move fu S p0 i0 = some (r, S')) : Met l yX5_move vsX5_move rm_X5_move (va_Pc [.ref (xB G + p0), .int (iI i0)] (xPre G S)) (xQi G r S') 0 0 (xA G) := by
  refine kx_met (ret := (some .int)) RX5 [(0, .ref (xB G + p0)), (1, .int (iI i0))] (by decide) rfl rfl (Nat.le_of_ble_eq_true rfl) rfl (fun p e s m below meth c ls C hin I hl => ?_)
  unfold f_X5_move at hf
  refine kx_aload_n 0 C dX5_move_0 (lv_at hl 0 rfl) ?_
  refine kx_iload_n 1 C dX5_move_1 (lv_at hl 1 rfl) ?_
  obtain ⟨h4, hf⟩ := ift hf
  obtain ⟨x3, S1, h2, hf⟩ := ob2 hf
  refine kx_callVi 2 C hl I (ci := 4) (As := [.int (iI i0)]) (rest := []) (c_X5_isNoRank G l fu _ _ _ _ _ h2) (cwV 1 C.ts gX5_move_X5_isNoRank rfl rfl rfl nyV_X5_isNoRank ⟨Nat.le_of_ble_eq_true rfl, Nat.le_of_ble_eq_true rfl⟩) rfl h4 rfl rfl (Nat.le_of_ble_eq_true rfl) dX5_move_2 ⟨Nat.le_of_ble_eq_true rfl, Nat.le_of_ble_eq_true rfl⟩ (fun H locs I => ?_)
  refine kx_if_eq 5 13 C dX5_move_5 (by decide) (fun c5 => ?_) (fun c5 => ?_)
  · have hf := ifp c5 hf
    refine kx_aload_n 13 C dX5_move_13 (lv_at hl 0 rfl) ?_
    obtain ⟨q7, h6, hf⟩ := ob hf
    refine kx_getp 14 C I fl_X5_move_10 h6 dX5_move_14 ?_
    obtain ⟨x9, h8, hf⟩ := ob hf
    refine kx_geti 17 C I fl_X5_move_219 h8 dX5_move_17 ?_
    refine kx_iconst 20 C dX5_move_20 ?_
    refine kx_icmp_lt 21 29 C dX5_move_21 (by decide) (fun c10 => ?_) (fun c10 => ?_)
    · have hf := ifp c10 hf
      refine kx_aload_n 29 C dX5_move_29 (lv_at hl 0 rfl) ?_
      obtain ⟨q12, h11, hf⟩ := ob hf
      refine kx_getp 30 C I fl_X5_move_10 h11 dX5_move_30 ?_
      refine kx_iload_n 33 C dX5_move_33 (lv_at hl 1 rfl) ?_
      obtain ⟨h16, hf⟩ := ift hf
      obtain ⟨x15, S13, h14, hf⟩ := ob2 hf
      refine kx_callVi 34 C hl I (ci := 1) (As := [.int (iI i0)]) (rest := []) (c_X1_addMove G l fu _ _ _ _ _ h14) (cwV 1 C.ts gX5_move_X1_addMove rfl rfl rfl nyV_X1_addMove ⟨Nat.le_of_ble_eq_true rfl, Nat.le_of_ble_eq_true rfl⟩) rfl h16 rfl rfl (Nat.le_of_ble_eq_true rfl) dX5_move_34 ⟨Nat.le_of_ble_eq_true rfl, Nat.le_of_ble_eq_true rfl⟩ (fun H locs I => ?_)
      exact kx_iret 37 C I hf dX5_move_37
    · have hf := ifn c10 hf
      refine kx_aload_n 24 C dX5_move_24 (lv_at hl 0 rfl) ?_
      obtain ⟨h20, hf⟩ := ift hf
      obtain ⟨x19, S17, h18, hf⟩ := ob2 hf
      refine kx_callVi 25 C hl I (ci := 4) (As := []) (rest := []) (c_X5_refuseFull G l fu _ _ _ _ h18) (cwV 0 C.ts gX5_move_X5_refuseFull rfl rfl rfl nyV_X5_refuseFull ⟨Nat.le_of_ble_eq_true rfl, Nat.le_of_ble_eq_true rfl⟩) rfl h20 rfl rfl (Nat.le_of_ble_eq_true rfl) dX5_move_25 ⟨Nat.le_of_ble_eq_true rfl, Nat.le_of_ble_eq_true rfl⟩ (fun H locs I => ?_)
      exact kx_iret 28 C I hf dX5_move_28
  · have hf := ifn c5 hf
    refine kx_aload_n 8 C dX5_move_8 (lv_at hl 0 rfl) ?_
    obtain ⟨h24, hf⟩ := ift hf
    obtain ⟨x23, S21, h22, hf⟩ := ob2 hf
    refine kx_callVi 9 C hl I (ci := 4) (As := []) (rest := []) (c_X5_refuseBad G l fu _ _ _ _ h22) (cwV 0 C.ts gX5_move_X5_refuseBad rfl rfl rfl nyV_X5_refuseBad ⟨Nat.le_of_ble_eq_true rfl, Nat.le_of_ble_eq_true rfl⟩) rfl h24 rfl rfl (Nat.le_of_ble_eq_true rfl) dX5_move_9 ⟨Nat.le_of_ble_eq_true rfl, Nat.le_of_ble_eq_true rfl⟩ (fun H locs I => ?_)
    exact kx_iret 12 C I hf dX5_move_12
def rm_X5_drop : Room := { frames := 1, cells := 0, slots := 0, locals := 20 }
theorem hin_X5_drop_RX1 : ∀ w ∈ wsX10, w ∈ vsX5_drop := fun w h => inM (inlX1 w h)
theorem hin_X5_drop_RX5 : ∀ w ∈ wsX50, w ∈ vsX5_drop := fun w h => inM (inlX5 w h)
theorem fl_X5_drop_10 : xFl vsX5_drop RX5 10 4 0 := ⟨RX5, TX5, 13, rfl, by decide, hin_X5_drop_RX5, inM mq_1_15, rfl⟩
theorem fl_X5_drop_219 : xFl vsX5_drop RX5 219 1 9 := ⟨RX1, TX1, 14, rfl, by decide, hin_X5_drop_RX1, inM mq_32_17, rfl⟩
theorem nyS_X5_drop : yX5_drop.cls ≠ "java/lang/invoke/MethodHandle" ∧ yX5_drop.cls ≠ "java/lang/invoke/VarHandle" ∧ (parseMethodDescriptor yX5_drop.desc).map (fun d => d.parameters.length) = some 0 := by decide +kernel
theorem nyV_X5_drop : yX5_drop.cls = RX5 ∧ yX5_drop.cls ≠ "java/lang/invoke/MethodHandle" ∧ yX5_drop.cls ≠ "java/lang/invoke/VarHandle" ∧ (parseMethodDescriptor yX5_drop.desc).map (fun d => d.parameters.length) = some 0 := by decide +kernel
set_option maxHeartbeats 4000000 in
set_option maxRecDepth 100000 in
theorem c_X5_drop (G : xG) (l : Launch) (fu : Nat) (S S' : xS) (p0 : Nat) (r : Int) (hf : f_X5_drop fu S p0 = some (r, S')) : Met l yX5_drop vsX5_drop rm_X5_drop (va_Pc [.ref (xB G + p0)] (xPre G S)) (xQi G r S') 0 0 (xA G) := by
  refine kx_met (ret := (some .int)) RX5 [(0, .ref (xB G + p0))] (by decide) rfl rfl (Nat.le_of_ble_eq_true rfl) rfl (fun p e s m below meth c ls C hin I hl => ?_)
  unfold f_X5_drop at hf
  refine kx_aload_n 0 C dX5_drop_0 (lv_at hl 0 rfl) ?_
  obtain ⟨q2, h1, hf⟩ := ob hf
  refine kx_getp 1 C I fl_X5_drop_10 h1 dX5_drop_1 ?_
  obtain ⟨x4, h3, hf⟩ := ob hf
  refine kx_geti 4 C I fl_X5_drop_219 h3 dX5_drop_4 ?_
  refine kx_if_ne 7 15 C dX5_drop_7 (by decide) (fun c5 => ?_) (fun c5 => ?_)
  · have hf := ifn c5 hf
    refine kx_aload_n 15 C dX5_drop_15 (lv_at hl 0 rfl) ?_
    obtain ⟨q7, h6, hf⟩ := ob hf
    refine kx_getp 16 C I fl_X5_drop_10 h6 dX5_drop_16 ?_
    refine kx_dup 19 C dX5_drop_19 rfl ?_
    obtain ⟨x9, h8, hf⟩ := ob hf
    refine kx_geti 20 C I fl_X5_drop_219 h8 dX5_drop_20 ?_
    refine kx_iconst 23 C dX5_drop_23 ?_
    refine kx_isub 24 C dX5_drop_24 ?_
    obtain ⟨S11, h10, hf⟩ := ob hf
    refine kx_puti 25 C I fl_X5_drop_219 fw_RX1_9 h10 dX5_drop_25 (fun H locs I => ?_)
    refine kx_aload_n 28 C dX5_drop_28 (lv_at hl 0 rfl) ?_
    obtain ⟨q13, h12, hf⟩ := ob hf
    refine kx_getp 29 C I fl_X5_drop_10 h12 dX5_drop_29 ?_
    obtain ⟨x15, h14, hf⟩ := ob hf
    refine kx_geti 32 C I fl_X5_drop_219 h14 dX5_drop_32 ?_
    exact kx_iret 35 C I hf dX5_drop_35
  · have hf := ifp c5 hf
    refine kx_aload_n 10 C dX5_drop_10 (lv_at hl 0 rfl) ?_
    obtain ⟨h19, hf⟩ := ift hf
    obtain ⟨x18, S16, h17, hf⟩ := ob2 hf
    refine kx_callVi 11 C hl I (ci := 4) (As := []) (rest := []) (c_X5_refuseNo G l fu _ _ _ _ h17) (cwV 0 C.ts gX5_drop_X5_refuseNo rfl rfl rfl nyV_X5_refuseNo ⟨Nat.le_of_ble_eq_true rfl, Nat.le_of_ble_eq_true rfl⟩) rfl h19 rfl rfl (Nat.le_of_ble_eq_true rfl) dX5_drop_11 ⟨Nat.le_of_ble_eq_true rfl, Nat.le_of_ble_eq_true rfl⟩ (fun H locs I => ?_)
    exact kx_iret 14 C I hf dX5_drop_14
def rm_X5_make : Room := { frames := 5, cells := 0, slots := 0, locals := 107 }
theorem hin_X5_make_RX1 : ∀ w ∈ wsX10, w ∈ vsX5_make := fun w h => inM (inlX1 w h)
theorem hin_X5_make_RX5 : ∀ w ∈ wsX50, w ∈ vsX5_make := fun w h => inM (inlX5 w h)
theorem fl_X5_make_10 : xFl vsX5_make RX5 10 4 0 := ⟨RX5, TX5, 13, rfl, by decide, hin_X5_make_RX5, inM mq_1_15, rfl⟩
theorem fl_X5_make_37 : xFl vsX5_make RX5 37 4 5 := ⟨RX5, TX5, 13, rfl, by decide, hin_X5_make_RX5, inM mq_2_3, rfl⟩
theorem fl_X5_make_219 : xFl vsX5_make RX5 219 1 9 := ⟨RX1, TX1, 14, rfl, by decide, hin_X5_make_RX1, inM mq_32_17, rfl⟩
theorem nyS_X5_make : yX5_make.cls ≠ "java/lang/invoke/MethodHandle" ∧ yX5_make.cls ≠ "java/lang/invoke/VarHandle" ∧ (parseMethodDescriptor yX5_make.desc).map (fun d => d.parameters.length) = some 1 := by decide +kernel
theorem nyV_X5_make : yX5_make.cls = RX5 ∧ yX5_make.cls ≠ "java/lang/invoke/MethodHandle" ∧ yX5_make.cls ≠ "java/lang/invoke/VarHandle" ∧ (parseMethodDescriptor yX5_make.desc).map (fun d => d.parameters.length) = some 1 := by decide +kernel
set_option maxHeartbeats 4000000 in
set_option maxRecDepth 100000 in
theorem w_X5_make {G : xG} {p : Program} {l : Launch} {e : Env} {s : State} {m : MethodId} {args : Array Value} {below : List Frame} {meth : Method} {c : Code} (C : xK G p s m args meth c cX5_make 2 vsX5_make RX5 (some .int)) (r : Int) (S' : xS) : ∀ k : Nat,
  (∀ (S : xS) (p0 : Nat) (i0 : Int) (H : Heap) (locs : List Loc) (ls : Array Slot), g_X5_make k 0 S p0 i0 = some (r, S') → xI G S s H locs → lv_has ls 2 [(0, .ref (xB G + p0)), (1, .int (iI i0))] → W p l e rm_X5_make s m args below meth c H locs 0 0 (MQ below (xQi G r S') args s 0 0 (xA G)) (F0 m 0 ls [])) ∧
  (∀ (S : xS) (p0 : Nat) (i0 : Int) (H : Heap) (locs : List Loc) (ls : Array Slot), g_X5_make k 1 S p0 i0 = some (r, S') → xI G S s H locs → lv_has ls 2 [(0, .ref (xB G + p0))] → W p l e rm_X5_make s m args below meth c H locs 0 0 (MQ below (xQi G r S') args s 0 0 (xA G)) (F0 m 15 ls [])) := by
  intro k
  induction k with
  | zero => exact ⟨fun _ _ _ _ _ _ hf => (by cases hf), fun _ _ _ _ _ _ hf => (by cases hf)⟩
  | succ fu ih =>
    obtain ⟨ih0, ih1⟩ := ih
    refine ⟨?_, ?_⟩
    · intro S p0 i0 H locs ls hf I hl
      replace hf : b_X5_make_0 (g_X5_make fu) fu S p0 i0 = some (r, S') := hf
      unfold b_X5_make_0 at hf
      refine kx_iload_n 0 C dX5_make_0 (lv_at hl 1 rfl) ?_
      refine kx_if_lt 1 15 C dX5_make_1 (by decide) (fun c1 => ?_) (fun c1 => ?_)
      · have hf := ifp c1 hf
        exact ih1 _ _ _ _ _ _ hf I (lv_sub hl [0] rfl)
      · have hf := ifn c1 hf
        refine kx_iload_n 4 C dX5_make_4 (lv_at hl 1 rfl) ?_
        refine kx_aload_n 5 C dX5_make_5 (lv_at hl 0 rfl) ?_
        obtain ⟨q3, h2, hf⟩ := ob hf
        refine kx_getp 6 C I fl_X5_make_10 h2 dX5_make_6 ?_
        obtain ⟨x5, h4, hf⟩ := ob hf
        refine kx_geti 9 C I fl_X5_make_219 h4 dX5_make_9 ?_
        refine kx_icmp_lt 12 20 C dX5_make_12 (by decide) (fun c6 => ?_) (fun c6 => ?_)
        · have hf := ifp c6 hf
          refine kx_aload_n 20 C dX5_make_20 (lv_at hl 0 rfl) ?_
          obtain ⟨q8, h7, hf⟩ := ob hf
          refine kx_getp 21 C I fl_X5_make_10 h7 dX5_make_21 ?_
          refine kx_iload_n 24 C dX5_make_24 (lv_at hl 1 rfl) ?_
          refine kx_aload_n 25 C dX5_make_25 (lv_at hl 0 rfl) ?_
          obtain ⟨q10, h9, hf⟩ := ob hf
          refine kx_getp 26 C I fl_X5_make_37 h9 dX5_make_26 ?_
          obtain ⟨h14, hf⟩ := ift hf
          obtain ⟨z13, S11, h12, hf⟩ := ob2 hf
          refine kx_callVv 29 C hl I (ci := 1) (As := [.int (iI i0), .ref (xB G + q10)]) (rest := []) (c_X1_makeMove G l fu _ _ _ _ _ _ h12) (cwV 2 C.ts gX5_make_X1_makeMove rfl rfl rfl nyV_X1_makeMove ⟨Nat.le_of_ble_eq_true rfl, Nat.le_of_ble_eq_true rfl⟩) rfl h14 rfl rfl (Nat.le_of_ble_eq_true rfl) dX5_make_29 ⟨Nat.le_of_ble_eq_true rfl, Nat.le_of_ble_eq_true rfl⟩ (fun H locs I => ?_)
          refine kx_aload_n 32 C dX5_make_32 (lv_at hl 0 rfl) ?_
          obtain ⟨q16, h15, hf⟩ := ob hf
          refine kx_getp 33 C I fl_X5_make_10 h15 dX5_make_33 ?_
          obtain ⟨h20, hf⟩ := ift hf
          obtain ⟨x19, S17, h18, hf⟩ := ob2 hf
          refine kx_callVi 36 C hl I (ci := 1) (As := []) (rest := []) (c_X1_rankNow G l fu _ _ _ _ h18) (cwV 0 C.ts gX5_make_X1_rankNow rfl rfl rfl nyV_X1_rankNow ⟨Nat.le_of_ble_eq_true rfl, Nat.le_of_ble_eq_true rfl⟩) rfl h20 rfl rfl (Nat.le_of_ble_eq_true rfl) dX5_make_36 ⟨Nat.le_of_ble_eq_true rfl, Nat.le_of_ble_eq_true rfl⟩ (fun H locs I => ?_)
          exact kx_iret 39 C I hf dX5_make_39
        · have hf := ifn c6 hf
          exact ih1 _ _ _ _ _ _ hf I (lv_sub hl [0] rfl)
    · intro S p0 i0 H locs ls hf I hl
      replace hf : b_X5_make_1 (g_X5_make fu) fu S p0 i0 = some (r, S') := hf
      unfold b_X5_make_1 at hf
      refine kx_aload_n 15 C dX5_make_15 (lv_at hl 0 rfl) ?_
      obtain ⟨h24, hf⟩ := ift hf
      obtain ⟨x23, S21, h22, hf⟩ := ob2 hf
      refine kx_callVi 16 C hl I (ci := 4) (As := []) (rest := []) (c_X5_refuseBad G l fu _ _ _ _ h22) (cwV 0 C.ts gX5_make_X5_refuseBad rfl rfl rfl nyV_X5_refuseBad ⟨Nat.le_of_ble_eq_true rfl, Nat.le_of_ble_eq_true rfl⟩) rfl h24 rfl rfl (Nat.le_of_ble_eq_true rfl) dX5_make_16 ⟨Nat.le_of_ble_eq_true rfl, Nat.le_of_ble_eq_true rfl⟩ (fun H locs I => ?_)
      exact kx_iret 19 C I hf dX5_make_19
set_option maxHeartbeats 4000000 in
set_option maxRecDepth 100000 in
theorem c_X5_make (G : xG) (l : Launch) (fu : Nat) (S S' : xS) (p0 : Nat) (i0 : Int) (r : Int) (hf : f_X5_make fu S p0 i0 = some (r, S')) : Met l yX5_make vsX5_make rm_X5_make (va_Pc [.ref (xB G + p0), .int (iI i0)] (xPre G S)) (xQi G r S') 0 0 (xA G) := by
  refine kx_met (ret := (some .int)) RX5 [(0, .ref (xB G + p0)), (1, .int (iI i0))] (by decide) rfl rfl (Nat.le_of_ble_eq_true rfl) rfl (fun p e s m below meth c ls C hin I hl => ?_)
  exact (w_X5_make C r S' fu).1 S _ _ _ _ _ hf I hl
def rm_X5_reachNow : Room := { frames := 5, cells := 11, slots := 10139, locals := 112 }
theorem hin_X5_reachNow_RX0 : ∀ w ∈ wsX00, w ∈ vsX5_reachNow := fun w h => inM (inlX0 w h)
theorem hin_X5_reachNow_RX5 : ∀ w ∈ wsX50, w ∈ vsX5_reachNow := fun w h => inM (inlX5 w h)
theorem fl_X5_reachNow_10 : xFl vsX5_reachNow RX5 10 4 0 := ⟨RX5, TX5, 13, rfl, by decide, hin_X5_reachNow_RX5, inM mq_1_15, rfl⟩
theorem fl_X5_reachNow_44 : xFl vsX5_reachNow RX5 44 4 7 := ⟨RX5, TX5, 13, rfl, by decide, hin_X5_reachNow_RX5, inM mq_2_5, rfl⟩
theorem mw_X5_reachNow_0 : Cond.classLink RX5 234 RX0 ∈ vsX5_reachNow := inM mq_34_12
theorem mw_X5_reachNow_1 : Cond.instantiable RX0 9 ∈ vsX5_reachNow := inM mq_34_13
theorem mw_X5_reachNow_2 : Cond.initialized RX0 ∈ vsX5_reachNow := inM mq_34_14
theorem mw_X5_reachNow_3 : Cond.methodLink RX5 246 yX0_init ∈ vsX5_reachNow := inM mq_34_15
theorem mw_X5_reachNow_4 : Cond.instanceMethod yX0_init ∈ vsX5_reachNow := inM mq_34_16
theorem nyS_X5_reachNow : yX5_reachNow.cls ≠ "java/lang/invoke/MethodHandle" ∧ yX5_reachNow.cls ≠ "java/lang/invoke/VarHandle" ∧ (parseMethodDescriptor yX5_reachNow.desc).map (fun d => d.parameters.length) = some 0 := by decide +kernel
theorem nyV_X5_reachNow : yX5_reachNow.cls = RX5 ∧ yX5_reachNow.cls ≠ "java/lang/invoke/MethodHandle" ∧ yX5_reachNow.cls ≠ "java/lang/invoke/VarHandle" ∧ (parseMethodDescriptor yX5_reachNow.desc).map (fun d => d.parameters.length) = some 0 := by decide +kernel
set_option maxHeartbeats 4000000 in
set_option maxRecDepth 100000 in
theorem w_X5_reachNow {G : xG} {p : Program} {l : Launch} {e : Env} {s : State} {m : MethodId} {args : Array Value} {below : List Frame} {meth : Method} {c : Code} (C : xK G p s m args meth c cX5_reachNow 1 vsX5_reachNow RX5 (some (.object "BoxRings$Reach"))) (r : Nat) (S' : xS) : ∀ k : Nat,
  (∀ (S : xS) (p0 : Nat) (H : Heap) (locs : List Loc) (ls : Array Slot), g_X5_reachNow k 0 S p0 = some (r, S') → xI G S s H locs → lv_has ls 1 [(0, .ref (xB G + p0))] → W p l e rm_X5_reachNow s m args below meth c H locs 0 0 (MQ below (xQp G r S') args s 11 10139 (xA G)) (F0 m 0 ls [])) ∧
  (∀ (S : xS) (p0 : Nat) (H : Heap) (locs : List Loc) (ls : Array Slot), g_X5_reachNow k 1 S p0 = some (r, S') → xI G S s H locs → lv_has ls 1 [(0, .ref (xB G + p0))] → W p l e rm_X5_reachNow s m args below meth c H locs 11 10139 (MQ below (xQp G r S') args s 11 10139 (xA G)) (F0 m 18 ls [])) := by
  intro k
  induction k with
  | zero => exact ⟨fun _ _ _ _ _ hf => (by cases hf), fun _ _ _ _ _ hf => (by cases hf)⟩
  | succ fu ih =>
    obtain ⟨ih0, ih1⟩ := ih
    refine ⟨?_, ?_⟩
    · intro S p0 H locs ls hf I hl
      replace hf : b_X5_reachNow_0 (g_X5_reachNow fu) fu S p0 = some (r, S') := hf
      unfold b_X5_reachNow_0 at hf
      refine kx_aload_n 0 C dX5_reachNow_0 (lv_at hl 0 rfl) ?_
      rcases onP_s hf with ⟨h1, hf⟩ | ⟨q2, h1, hf⟩
      · refine kx_getn 1 C I fl_X5_reachNow_44 h1 dX5_reachNow_1 ?_
        refine kx_ifnonnullN 4 C dX5_reachNow_4 ?_
        refine kx_aload_n 7 C dX5_reachNow_7 (lv_at hl 0 rfl) ?_
        obtain ⟨S3, eS3, hf⟩ := nmx_e hf
        refine kx_new 8 C I (ci := 0) (N := 9) xNew_X0 tyX0 rfl hin_X5_reachNow_RX0 mw_X5_reachNow_0 mw_X5_reachNow_1 mw_X5_reachNow_2 tyX0_ok xNew_X0_ok ⟨Nat.le_of_ble_eq_true rfl, Nat.le_of_ble_eq_true rfl⟩ dX5_reachNow_8 (fun H I => ?_)
        rw [← eS3] at I
        refine kx_dup 11 C dX5_reachNow_11 rfl ?_
        obtain ⟨z6, S4, h5, hf⟩ := ob2 hf
        refine kx_callI 12 C hl I (As := []) (rest := [.ref (xB G + S.length), .ref (xB G + p0)]) (c_X0_init G l fu _ _ _ _ h5) (cwI 0 C.ts gX5_reachNow_X0_init rfl rfl rfl (C.ts _ mw_X5_reachNow_2) (C.ts _ mw_X5_reachNow_3) (C.ts _ mw_X5_reachNow_4) rfl nyS_X0_init ⟨Nat.le_of_ble_eq_true rfl, Nat.le_of_ble_eq_true rfl⟩) rfl rfl (Nat.le_of_ble_eq_true rfl) dX5_reachNow_12 ⟨Nat.le_of_ble_eq_true rfl, Nat.le_of_ble_eq_true rfl⟩ (fun H locs I => ?_)
        obtain ⟨S8, h7, hf⟩ := ob hf
        refine kx_putp 15 C I fl_X5_reachNow_44 fw_RX5_7 (fun _ => ⟨rfl, rfl⟩) h7 dX5_reachNow_15 (fun H locs I => ?_)
        exact ih1 _ _ _ _ _ hf I (lv_sub hl [0] rfl)
      · refine kx_getq 1 C I fl_X5_reachNow_44 h1 dX5_reachNow_1 ?_
        refine kx_ifnonnull 4 18 C dX5_reachNow_4 (by decide) ?_
        refine W.widen (k := 11) (n := 10139) (Nat.le_of_ble_eq_true rfl) (Nat.le_of_ble_eq_true rfl) ?_
        exact ih1 _ _ _ _ _ hf I (lv_sub hl [0] rfl)
    · intro S p0 H locs ls hf I hl
      replace hf : b_X5_reachNow_1 (g_X5_reachNow fu) fu S p0 = some (r, S') := hf
      unfold b_X5_reachNow_1 at hf
      refine kx_aload_n 18 C dX5_reachNow_18 (lv_at hl 0 rfl) ?_
      rcases onP_s hf with ⟨h9, hf⟩ | ⟨q10, h9, hf⟩
      · refine kx_getn 19 C I fl_X5_reachNow_44 h9 dX5_reachNow_19 ?_
        refine kx_aload_n 22 C dX5_reachNow_22 (lv_at hl 0 rfl) ?_
        obtain ⟨q12, h11, hf⟩ := ob hf
        refine kx_getp 23 C I fl_X5_reachNow_10 h11 dX5_reachNow_23 ?_
        cases hf
      · refine kx_getq 19 C I fl_X5_reachNow_44 h9 dX5_reachNow_19 ?_
        refine kx_aload_n 22 C dX5_reachNow_22 (lv_at hl 0 rfl) ?_
        obtain ⟨q14, h13, hf⟩ := ob hf
        refine kx_getp 23 C I fl_X5_reachNow_10 h13 dX5_reachNow_23 ?_
        obtain ⟨h18, hf⟩ := ift hf
        obtain ⟨z17, S15, h16, hf⟩ := ob2 hf
        refine kx_callVv 26 C hl I (ci := 0) (As := [.ref (xB G + q14)]) (rest := []) (c_X0_spreadFrom G l fu _ _ _ _ _ h16) (cwV 1 C.ts gX5_reachNow_X0_spreadFrom rfl rfl rfl nyV_X0_spreadFrom ⟨Nat.le_of_ble_eq_true rfl, Nat.le_of_ble_eq_true rfl⟩) rfl h18 rfl rfl (Nat.le_of_ble_eq_true rfl) dX5_reachNow_26 ⟨Nat.le_of_ble_eq_true rfl, Nat.le_of_ble_eq_true rfl⟩ (fun H locs I => ?_)
        refine kx_aload_n 29 C dX5_reachNow_29 (lv_at hl 0 rfl) ?_
        rcases onP_s hf with ⟨h19, hf⟩ | ⟨q20, h19, hf⟩
        · refine kx_getn 30 C I fl_X5_reachNow_44 h19 dX5_reachNow_30 ?_
          cases hf
        · refine kx_getq 30 C I fl_X5_reachNow_44 h19 dX5_reachNow_30 ?_
          exact kx_aret 33 C I hf dX5_reachNow_33
set_option maxHeartbeats 4000000 in
set_option maxRecDepth 100000 in
theorem c_X5_reachNow (G : xG) (l : Launch) (fu : Nat) (S S' : xS) (p0 : Nat) (r : Nat) (hf : f_X5_reachNow fu S p0 = some (r, S')) : Met l yX5_reachNow vsX5_reachNow rm_X5_reachNow (va_Pc [.ref (xB G + p0)] (xPre G S)) (xQp G r S') 11 10139 (xA G) := by
  refine kx_met (ret := (some (.object "BoxRings$Reach"))) RX5 [(0, .ref (xB G + p0))] (by decide) rfl rfl (Nat.le_of_ble_eq_true rfl) rfl (fun p e s m below meth c ls C hin I hl => ?_)
  exact (w_X5_reachNow C r S' fu).1 S _ _ _ _ hf I hl
def rm_X5_group : Room := { frames := 6, cells := 11, slots := 10139, locals := 132 }
theorem hin_X5_group_RX0 : ∀ w ∈ wsX00, w ∈ vsX5_group := fun w h => inM (inlX0 w h)
theorem fl_X5_group_233 : xFl vsX5_group RX5 233 0 1 := ⟨RX0, TX0, 9, rfl, by decide, hin_X5_group_RX0, inM mq_34_7, rfl⟩
theorem nyS_X5_group : yX5_group.cls ≠ "java/lang/invoke/MethodHandle" ∧ yX5_group.cls ≠ "java/lang/invoke/VarHandle" ∧ (parseMethodDescriptor yX5_group.desc).map (fun d => d.parameters.length) = some 0 := by decide +kernel
theorem nyV_X5_group : yX5_group.cls = RX5 ∧ yX5_group.cls ≠ "java/lang/invoke/MethodHandle" ∧ yX5_group.cls ≠ "java/lang/invoke/VarHandle" ∧ (parseMethodDescriptor yX5_group.desc).map (fun d => d.parameters.length) = some 0 := by decide +kernel
set_option maxHeartbeats 4000000 in
set_option maxRecDepth 100000 in
theorem c_X5_group (G : xG) (l : Launch) (fu : Nat) (S S' : xS) (p0 : Nat) (r : Int) (hf : f_X5_group fu S p0 = some (r, S')) : Met l yX5_group vsX5_group rm_X5_group (va_Pc [.ref (xB G + p0)] (xPre G S)) (xQi G r S') 11 10139 (xA G) := by
  refine kx_met (ret := (some .int)) RX5 [(0, .ref (xB G + p0))] (by decide) rfl rfl (Nat.le_of_ble_eq_true rfl) rfl (fun p e s m below meth c ls C hin I hl => ?_)
  unfold f_X5_group at hf
  refine kx_aload_n 0 C dX5_group_0 (lv_at hl 0 rfl) ?_
  obtain ⟨h4, hf⟩ := ift hf
  obtain ⟨q3, S1, h2, hf⟩ := ob2 hf
  refine kx_callVp 1 C hl I (ci := 4) (As := []) (rest := []) (c_X5_reachNow G l fu _ _ _ _ h2) (cwV 0 C.ts gX5_group_X5_reachNow rfl rfl rfl nyV_X5_reachNow ⟨Nat.le_of_ble_eq_true rfl, Nat.le_of_ble_eq_true rfl⟩) rfl h4 rfl rfl (Nat.le_of_ble_eq_true rfl) dX5_group_1 ⟨Nat.le_of_ble_eq_true rfl, Nat.le_of_ble_eq_true rfl⟩ (fun H locs I => ?_)
  obtain ⟨x6, h5, hf⟩ := ob hf
  refine kx_geti 4 C I fl_X5_group_233 h5 dX5_group_4 ?_
  exact kx_iret 7 C I hf dX5_group_7
def rm_X5_fewest : Room := { frames := 6, cells := 11, slots := 10139, locals := 132 }
theorem nyS_X5_fewest : yX5_fewest.cls ≠ "java/lang/invoke/MethodHandle" ∧ yX5_fewest.cls ≠ "java/lang/invoke/VarHandle" ∧ (parseMethodDescriptor yX5_fewest.desc).map (fun d => d.parameters.length) = some 2 := by decide +kernel
theorem nyV_X5_fewest : yX5_fewest.cls = RX5 ∧ yX5_fewest.cls ≠ "java/lang/invoke/MethodHandle" ∧ yX5_fewest.cls ≠ "java/lang/invoke/VarHandle" ∧ (parseMethodDescriptor yX5_fewest.desc).map (fun d => d.parameters.length) = some 2 := by decide +kernel
set_option maxHeartbeats 4000000 in
set_option maxRecDepth 100000 in
theorem w_X5_fewest {G : xG} {p : Program} {l : Launch} {e : Env} {s : State} {m : MethodId} {args : Array Value} {below : List Frame} {meth : Method} {c : Code} (C : xK G p s m args meth c cX5_fewest 3 vsX5_fewest RX5 (some .int)) (r : Int) (S' : xS) : ∀ k : Nat,
  (∀ (S : xS) (p0 : Nat) (i0 i1 : Int) (H : Heap) (locs : List Loc) (ls : Array Slot), g_X5_fewest k 0 S p0 i0 i1 = some (r, S') → xI G S s H locs → lv_has ls 3 [(0, .ref (xB G + p0)), (1, .int (iI i0)), (2, .int (iI i1))] → W p l e rm_X5_fewest s m args below meth c H locs 0 0 (MQ below (xQi G r S') args s 11 10139 (xA G)) (F0 m 0 ls [])) ∧
  (∀ (S : xS) (p0 : Nat) (i0 i1 : Int) (H : Heap) (locs : List Loc) (ls : Array Slot), g_X5_fewest k 1 S p0 i0 i1 = some (r, S') → xI G S s H locs → lv_has ls 3 [(0, .ref (xB G + p0))] → W p l e rm_X5_fewest s m args below meth c H locs 0 0 (MQ below (xQi G r S') args s 11 10139 (xA G)) (F0 m 13 ls [])) := by
  intro k
  induction k with
  | zero => exact ⟨fun _ _ _ _ _ _ _ hf => (by cases hf), fun _ _ _ _ _ _ _ hf => (by cases hf)⟩
  | succ fu ih =>
    obtain ⟨ih0, ih1⟩ := ih
    refine ⟨?_, ?_⟩
    · intro S p0 i0 i1 H locs ls hf I hl
      replace hf : b_X5_fewest_0 (g_X5_fewest fu) fu S p0 i0 i1 = some (r, S') := hf
      unfold b_X5_fewest_0 at hf
      refine kx_aload_n 0 C dX5_fewest_0 (lv_at hl 0 rfl) ?_
      refine kx_iload_n 1 C dX5_fewest_1 (lv_at hl 1 rfl) ?_
      obtain ⟨h4, hf⟩ := ift hf
      obtain ⟨x3, S1, h2, hf⟩ := ob2 hf
      refine kx_callVi 2 C hl I (ci := 4) (As := [.int (iI i0)]) (rest := []) (c_X5_isNoRank G l fu _ _ _ _ _ h2) (cwV 1 C.ts gX5_fewest_X5_isNoRank rfl rfl rfl nyV_X5_isNoRank ⟨Nat.le_of_ble_eq_true rfl, Nat.le_of_ble_eq_true rfl⟩) rfl h4 rfl rfl (Nat.le_of_ble_eq_true rfl) dX5_fewest_2 ⟨Nat.le_of_ble_eq_true rfl, Nat.le_of_ble_eq_true rfl⟩ (fun H locs I => ?_)
      refine kx_if_ne 5 13 C dX5_fewest_5 (by decide) (fun c5 => ?_) (fun c5 => ?_)
      · have hf := ifn c5 hf
        exact ih1 _ _ _ _ _ _ _ hf I (lv_sub hl [0] rfl)
      · have hf := ifp c5 hf
        refine kx_iload_n 8 C dX5_fewest_8 (lv_at hl 2 rfl) ?_
        refine kx_iconst 9 C dX5_fewest_9 ?_
        refine kx_icmp_ge 10 18 C dX5_fewest_10 (by decide) (fun c6 => ?_) (fun c6 => ?_)
        · have hf := ifp c6 hf
          refine kx_aload_n 18 C dX5_fewest_18 (lv_at hl 0 rfl) ?_
          obtain ⟨h10, hf⟩ := ift hf
          obtain ⟨q9, S7, h8, hf⟩ := ob2 hf
          refine kx_callVp 19 C hl I (ci := 4) (As := []) (rest := []) (c_X5_reachNow G l fu _ _ _ _ h8) (cwV 0 C.ts gX5_fewest_X5_reachNow rfl rfl rfl nyV_X5_reachNow ⟨Nat.le_of_ble_eq_true rfl, Nat.le_of_ble_eq_true rfl⟩) rfl h10 rfl rfl (Nat.le_of_ble_eq_true rfl) dX5_fewest_19 ⟨Nat.le_of_ble_eq_true rfl, Nat.le_of_ble_eq_true rfl⟩ (fun H locs I => ?_)
          refine kx_iload_n 22 C dX5_fewest_22 (lv_at hl 1 rfl) ?_
          refine kx_iload_n 23 C dX5_fewest_23 (lv_at hl 2 rfl) ?_
          obtain ⟨h14, hf⟩ := ift hf
          obtain ⟨x13, S11, h12, hf⟩ := ob2 hf
          refine kx_callVi 24 C hl I (ci := 0) (As := [.int (iI i0), .int (iI i1)]) (rest := []) (c_X0_moveTo G l fu _ _ _ _ _ _ h12) (cwV 2 C.ts gX5_fewest_X0_moveTo rfl rfl rfl nyV_X0_moveTo ⟨Nat.le_of_ble_eq_true rfl, Nat.le_of_ble_eq_true rfl⟩) rfl h14 rfl rfl (Nat.le_of_ble_eq_true rfl) dX5_fewest_24 ⟨Nat.le_of_ble_eq_true rfl, Nat.le_of_ble_eq_true rfl⟩ (fun H locs I => ?_)
          exact kx_iret 27 C I hf dX5_fewest_27
        · have hf := ifn c6 hf
          exact ih1 _ _ _ _ _ _ _ hf I (lv_sub hl [0] rfl)
    · intro S p0 i0 i1 H locs ls hf I hl
      replace hf : b_X5_fewest_1 (g_X5_fewest fu) fu S p0 i0 i1 = some (r, S') := hf
      unfold b_X5_fewest_1 at hf
      refine kx_aload_n 13 C dX5_fewest_13 (lv_at hl 0 rfl) ?_
      obtain ⟨h18, hf⟩ := ift hf
      obtain ⟨x17, S15, h16, hf⟩ := ob2 hf
      refine kx_callVi 14 C hl I (ci := 4) (As := []) (rest := []) (c_X5_refuseQuestion G l fu _ _ _ _ h16) (cwV 0 C.ts gX5_fewest_X5_refuseQuestion rfl rfl rfl nyV_X5_refuseQuestion ⟨Nat.le_of_ble_eq_true rfl, Nat.le_of_ble_eq_true rfl⟩) rfl h18 rfl rfl (Nat.le_of_ble_eq_true rfl) dX5_fewest_14 ⟨Nat.le_of_ble_eq_true rfl, Nat.le_of_ble_eq_true rfl⟩ (fun H locs I => ?_)
      refine W.widen (k := 11) (n := 10139) (Nat.le_of_ble_eq_true rfl) (Nat.le_of_ble_eq_true rfl) ?_
      exact kx_iret 17 C I hf dX5_fewest_17
set_option maxHeartbeats 4000000 in
set_option maxRecDepth 100000 in
theorem c_X5_fewest (G : xG) (l : Launch) (fu : Nat) (S S' : xS) (p0 : Nat) (i0 : Int) (i1 : Int) (r : Int) (hf : f_X5_fewest fu S p0 i0 i1 = some (r, S')) : Met l yX5_fewest vsX5_fewest rm_X5_fewest (va_Pc [.ref (xB G + p0), .int (iI i0), .int (iI i1)] (xPre G S)) (xQi G r S') 11 10139 (xA G) := by
  refine kx_met (ret := (some .int)) RX5 [(0, .ref (xB G + p0)), (1, .int (iI i0)), (2, .int (iI i1))] (by decide) rfl rfl (Nat.le_of_ble_eq_true rfl) rfl (fun p e s m below meth c ls C hin I hl => ?_)
  exact (w_X5_fewest C r S' fu).1 S _ _ _ _ _ _ hf I hl
def rm_X5_doTheseFind : Room := { frames := 4, cells := 0, slots := 0, locals := 98 }
theorem hin_X5_doTheseFind_RX1 : ∀ w ∈ wsX10, w ∈ vsX5_doTheseFind := fun w h => inM (inlX1 w h)
theorem hin_X5_doTheseFind_RX5 : ∀ w ∈ wsX50, w ∈ vsX5_doTheseFind := fun w h => inM (inlX5 w h)
theorem fl_X5_doTheseFind_10 : xFl vsX5_doTheseFind RX5 10 4 0 := ⟨RX5, TX5, 13, rfl, by decide, hin_X5_doTheseFind_RX5, inM mq_1_15, rfl⟩
theorem fl_X5_doTheseFind_69 : xFl vsX5_doTheseFind RX5 69 1 0 := ⟨RX1, TX1, 14, rfl, by decide, hin_X5_doTheseFind_RX1, inM mq_5_19, rfl⟩
theorem fl_X5_doTheseFind_90 : xFl vsX5_doTheseFind RX5 90 1 5 := ⟨RX1, TX1, 14, rfl, by decide, hin_X5_doTheseFind_RX1, inM mq_7_13, rfl⟩
theorem nyS_X5_doTheseFind : yX5_doTheseFind.cls ≠ "java/lang/invoke/MethodHandle" ∧ yX5_doTheseFind.cls ≠ "java/lang/invoke/VarHandle" ∧ (parseMethodDescriptor yX5_doTheseFind.desc).map (fun d => d.parameters.length) = some 2 := by decide +kernel
theorem nyV_X5_doTheseFind : yX5_doTheseFind.cls = RX5 ∧ yX5_doTheseFind.cls ≠ "java/lang/invoke/MethodHandle" ∧ yX5_doTheseFind.cls ≠ "java/lang/invoke/VarHandle" ∧ (parseMethodDescriptor yX5_doTheseFind.desc).map (fun d => d.parameters.length) = some 2 := by decide +kernel
set_option maxHeartbeats 4000000 in
set_option maxRecDepth 100000 in
theorem w_X5_doTheseFind {G : xG} {p : Program} {l : Launch} {e : Env} {s : State} {m : MethodId} {args : Array Value} {below : List Frame} {meth : Method} {c : Code} (C : xK G p s m args meth c cX5_doTheseFind 4 vsX5_doTheseFind RX5 (some .boolean)) (r : Int) (S' : xS) : ∀ k : Nat,
  (∀ (S : xS) (p0 p1 : Nat) (i0 i1 : Int) (H : Heap) (locs : List Loc) (ls : Array Slot), g_X5_doTheseFind k 0 S p0 p1 i0 i1 = some (r, S') → xI G S s H locs → lv_has ls 4 [(0, .ref (xB G + p0)), (1, .ref (xB G + p1)), (2, .int (iI i0))] → W p l e rm_X5_doTheseFind s m args below meth c H locs 0 0 (MQ below (xQi G r S') args s 0 0 (xA G)) (F0 m 0 ls [])) ∧
  (∀ (S : xS) (p0 p1 : Nat) (i0 i1 : Int) (H : Heap) (locs : List Loc) (ls : Array Slot), g_X5_doTheseFind k 1 S p0 p1 i0 i1 = some (r, S') → xI G S s H locs → lv_has ls 4 [(0, .ref (xB G + p0)), (1, .ref (xB G + p1)), (2, .int (iI i0)), (3, .int (iI i1))] → W p l e rm_X5_doTheseFind s m args below meth c H locs 0 0 (MQ below (xQi G r S') args s 0 0 (xA G)) (F0 m 2 ls [])) ∧
  (∀ (S : xS) (p0 p1 : Nat) (i0 i1 : Int) (H : Heap) (locs : List Loc) (ls : Array Slot), g_X5_doTheseFind k 2 S p0 p1 i0 i1 = some (r, S') → xI G S s H locs → lv_has ls 4 [(0, .ref (xB G + p0)), (1, .ref (xB G + p1)), (2, .int (iI i0)), (3, .int (iI i1))] → W p l e rm_X5_doTheseFind s m args below meth c H locs 0 0 (MQ below (xQi G r S') args s 0 0 (xA G)) (F0 m 42 ls [])) := by
  intro k
  induction k with
  | zero => exact ⟨fun _ _ _ _ _ _ _ _ hf => (by cases hf), fun _ _ _ _ _ _ _ _ hf => (by cases hf), fun _ _ _ _ _ _ _ _ hf => (by cases hf)⟩
  | succ fu ih =>
    obtain ⟨ih0, ih1, ih2⟩ := ih
    refine ⟨?_, ?_, ?_⟩
    · intro S p0 p1 i0 i1 H locs ls hf I hl
      replace hf : b_X5_doTheseFind_0 (g_X5_doTheseFind fu) fu S p0 p1 i0 i1 = some (r, S') := hf
      unfold b_X5_doTheseFind_0 at hf
      refine kx_iconst 0 C dX5_doTheseFind_0 ?_
      refine kx_istore_n 1 C (lv' := [(3, .int (iI 0)), (0, .ref (xB G + p0)), (1, .ref (xB G + p1)), (2, .int (iI i0))]) dX5_doTheseFind_1 hl (by decide) rfl rfl (fun ls hl => ?_)
      exact ih1 _ _ _ _ _ _ _ _ hf I (lv_sub hl [1, 2, 3, 0] rfl)
    · intro S p0 p1 i0 i1 H locs ls hf I hl
      replace hf : b_X5_doTheseFind_1 (g_X5_doTheseFind fu) fu S p0 p1 i0 i1 = some (r, S') := hf
      unfold b_X5_doTheseFind_1 at hf
      refine kx_iload_n 2 C dX5_doTheseFind_2 (lv_at hl 3 rfl) ?_
      refine kx_aload_n 3 C dX5_doTheseFind_3 (lv_at hl 0 rfl) ?_
      obtain ⟨q2, h1, hf⟩ := ob hf
      refine kx_getp 4 C I fl_X5_doTheseFind_10 h1 dX5_doTheseFind_4 ?_
      obtain ⟨x4, h3, hf⟩ := ob hf
      refine kx_geti 7 C I fl_X5_doTheseFind_69 h3 dX5_doTheseFind_7 ?_
      refine kx_icmp_ge 10 48 C dX5_doTheseFind_10 (by decide) (fun c5 => ?_) (fun c5 => ?_)
      · have hf := ifp c5 hf
        refine kx_iconst 48 C dX5_doTheseFind_48 ?_
        exact kx_zret 49 C I (by decide) hf dX5_doTheseFind_49
      · have hf := ifn c5 hf
        refine kx_iload_n 13 C dX5_doTheseFind_13 (lv_at hl 2 rfl) ?_
        refine kx_iload_n 14 C dX5_doTheseFind_14 (lv_at hl 3 rfl) ?_
        refine kx_ishr 15 C dX5_doTheseFind_15 ?_
        refine kx_iconst 16 C dX5_doTheseFind_16 ?_
        refine kx_iand 17 C dX5_doTheseFind_17 ?_
        refine kx_iconst 18 C dX5_doTheseFind_18 ?_
        refine kx_icmp_ne 19 42 C dX5_doTheseFind_19 (by decide) (fun c6 => ?_) (fun c6 => ?_)
        · have hf := ifn c6 hf
          exact ih2 _ _ _ _ _ _ _ _ hf I (lv_sub hl [0, 1, 2, 3] rfl)
        · have hf := ifp c6 hf
          refine kx_aload_n 22 C dX5_doTheseFind_22 (lv_at hl 0 rfl) ?_
          refine kx_aload_n 23 C dX5_doTheseFind_23 (lv_at hl 1 rfl) ?_
          refine kx_iload_n 24 C dX5_doTheseFind_24 (lv_at hl 3 rfl) ?_
          refine kx_aload_n 25 C dX5_doTheseFind_25 (lv_at hl 0 rfl) ?_
          obtain ⟨q8, h7, hf⟩ := ob hf
          refine kx_getp 26 C I fl_X5_doTheseFind_10 h7 dX5_doTheseFind_26 ?_
          obtain ⟨q10, h9, hf⟩ := ob hf
          refine kx_getp 29 C I fl_X5_doTheseFind_90 h9 dX5_doTheseFind_29 ?_
          refine kx_iload_n 32 C dX5_doTheseFind_32 (lv_at hl 3 rfl) ?_
          obtain ⟨x11, h12, hf⟩ := ob hf
          refine kx_iald 33 C I h12 dX5_doTheseFind_33 ?_
          obtain ⟨h16, hf⟩ := ift hf
          obtain ⟨x15, S13, h14, hf⟩ := ob2 hf
          refine kx_callVi 34 C hl I (ci := 4) (As := [.ref (xB G + p1), .int (iI i1), .int (iI x11)]) (rest := []) (c_X5_doesFind G l fu _ _ _ _ _ _ _ h14) (cwV 3 C.ts gX5_doTheseFind_X5_doesFind rfl rfl rfl nyV_X5_doesFind ⟨Nat.le_of_ble_eq_true rfl, Nat.le_of_ble_eq_true rfl⟩) rfl h16 rfl rfl (Nat.le_of_ble_eq_true rfl) dX5_doTheseFind_34 ⟨Nat.le_of_ble_eq_true rfl, Nat.le_of_ble_eq_true rfl⟩ (fun H locs I => ?_)
          refine kx_if_ne 37 42 C dX5_doTheseFind_37 (by decide) (fun c17 => ?_) (fun c17 => ?_)
          · have hf := ifn c17 hf
            exact ih2 _ _ _ _ _ _ _ _ hf I (lv_sub hl [0, 1, 2, 3] rfl)
          · have hf := ifp c17 hf
            refine kx_iconst 40 C dX5_doTheseFind_40 ?_
            exact kx_zret 41 C I (by decide) hf dX5_doTheseFind_41
    · intro S p0 p1 i0 i1 H locs ls hf I hl
      replace hf : b_X5_doTheseFind_2 (g_X5_doTheseFind fu) fu S p0 p1 i0 i1 = some (r, S') := hf
      unfold b_X5_doTheseFind_2 at hf
      obtain ⟨x18, e19, hf⟩ := nmx_e hf
      refine kx_iinc 42 C (lv' := [(3, .int (iI x18)), (0, .ref (xB G + p0)), (1, .ref (xB G + p1)), (2, .int (iI i0))]) dX5_doTheseFind_42 hl 3 rfl e19 (by decide) rfl (fun ls hl => ?_)
      refine kx_goto 45 2 C dX5_doTheseFind_45 (by decide) ?_
      exact ih1 _ _ _ _ _ _ _ _ hf I (lv_sub hl [1, 2, 3, 0] rfl)
set_option maxHeartbeats 4000000 in
set_option maxRecDepth 100000 in
theorem c_X5_doTheseFind (G : xG) (l : Launch) (fu : Nat) (S S' : xS) (p0 : Nat) (p1 : Nat) (i0 : Int) (r : Int) (hf : f_X5_doTheseFind fu S p0 p1 i0 = some (r, S')) : Met l yX5_doTheseFind vsX5_doTheseFind rm_X5_doTheseFind (va_Pc [.ref (xB G + p0), .ref (xB G + p1), .int (iI i0)] (xPre G S)) (xQi G r S') 0 0 (xA G) := by
  refine kx_met (ret := (some .boolean)) RX5 [(0, .ref (xB G + p0)), (1, .ref (xB G + p1)), (2, .int (iI i0))] (by decide) rfl rfl (Nat.le_of_ble_eq_true rfl) rfl (fun p e s m below meth c ls C hin I hl => ?_)
  exact (w_X5_doTheseFind C r S' fu).1 S _ _ _ _ _ _ _ hf I hl
def rm_X5_doAllFind : Room := { frames := 5, cells := 0, slots := 0, locals := 121 }
theorem hin_X5_doAllFind_RX1 : ∀ w ∈ wsX10, w ∈ vsX5_doAllFind := fun w h => inM (inlX1 w h)
theorem hin_X5_doAllFind_RX5 : ∀ w ∈ wsX50, w ∈ vsX5_doAllFind := fun w h => inM (inlX5 w h)
theorem fl_X5_doAllFind_10 : xFl vsX5_doAllFind RX5 10 4 0 := ⟨RX5, TX5, 13, rfl, by decide, hin_X5_doAllFind_RX5, inM mq_1_15, rfl⟩
theorem fl_X5_doAllFind_69 : xFl vsX5_doAllFind RX5 69 1 0 := ⟨RX1, TX1, 14, rfl, by decide, hin_X5_doAllFind_RX1, inM mq_5_19, rfl⟩
theorem nyS_X5_doAllFind : yX5_doAllFind.cls ≠ "java/lang/invoke/MethodHandle" ∧ yX5_doAllFind.cls ≠ "java/lang/invoke/VarHandle" ∧ (parseMethodDescriptor yX5_doAllFind.desc).map (fun d => d.parameters.length) = some 1 := by decide +kernel
theorem nyV_X5_doAllFind : yX5_doAllFind.cls = RX5 ∧ yX5_doAllFind.cls ≠ "java/lang/invoke/MethodHandle" ∧ yX5_doAllFind.cls ≠ "java/lang/invoke/VarHandle" ∧ (parseMethodDescriptor yX5_doAllFind.desc).map (fun d => d.parameters.length) = some 1 := by decide +kernel
set_option maxHeartbeats 4000000 in
set_option maxRecDepth 100000 in
theorem c_X5_doAllFind (G : xG) (l : Launch) (fu : Nat) (S S' : xS) (p0 : Nat) (p1 : Nat) (r : Int) (hf : f_X5_doAllFind fu S p0 p1 = some (r, S')) : Met l yX5_doAllFind vsX5_doAllFind rm_X5_doAllFind (va_Pc [.ref (xB G + p0), .ref (xB G + p1)] (xPre G S)) (xQi G r S') 0 0 (xA G) := by
  refine kx_met (ret := (some .boolean)) RX5 [(0, .ref (xB G + p0)), (1, .ref (xB G + p1))] (by decide) rfl rfl (Nat.le_of_ble_eq_true rfl) rfl (fun p e s m below meth c ls C hin I hl => ?_)
  unfold f_X5_doAllFind at hf
  refine kx_aload_n 0 C dX5_doAllFind_0 (lv_at hl 0 rfl) ?_
  refine kx_aload_n 1 C dX5_doAllFind_1 (lv_at hl 1 rfl) ?_
  refine kx_iconst 2 C dX5_doAllFind_2 ?_
  refine kx_aload_n 3 C dX5_doAllFind_3 (lv_at hl 0 rfl) ?_
  obtain ⟨q2, h1, hf⟩ := ob hf
  refine kx_getp 4 C I fl_X5_doAllFind_10 h1 dX5_doAllFind_4 ?_
  obtain ⟨x4, h3, hf⟩ := ob hf
  refine kx_geti 7 C I fl_X5_doAllFind_69 h3 dX5_doAllFind_7 ?_
  refine kx_ishl 10 C dX5_doAllFind_10 ?_
  refine kx_iconst 11 C dX5_doAllFind_11 ?_
  refine kx_isub 12 C dX5_doAllFind_12 ?_
  obtain ⟨h8, hf⟩ := ift hf
  obtain ⟨x7, S5, h6, hf⟩ := ob2 hf
  refine kx_callVi 13 C hl I (ci := 4) (As := [.ref (xB G + p1), .int (iI ((xShl 1 x4) - 1))]) (rest := []) (c_X5_doTheseFind G l fu _ _ _ _ _ _ h6) (cwV 2 C.ts gX5_doAllFind_X5_doTheseFind rfl rfl rfl nyV_X5_doTheseFind ⟨Nat.le_of_ble_eq_true rfl, Nat.le_of_ble_eq_true rfl⟩) rfl h8 rfl rfl (Nat.le_of_ble_eq_true rfl) dX5_doAllFind_13 ⟨Nat.le_of_ble_eq_true rfl, Nat.le_of_ble_eq_true rfl⟩ (fun H locs I => ?_)
  obtain ⟨h9, hf⟩ := ift hf
  exact kx_zret 16 C I h9 hf dX5_doAllFind_16
