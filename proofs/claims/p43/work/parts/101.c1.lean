def rm_X1_goBack : Room := { frames := 2, cells := 0, slots := 0, locals := 51 }
theorem hin_X1_goBack_RX1 : ∀ w ∈ wsX10, w ∈ vsX1_goBack := fun w h => inM (inlX1 w h)
theorem fl_X1_goBack_9 : xFl vsX1_goBack RX1 9 1 3 := ⟨RX1, TX1, 14, rfl, by decide, hin_X1_goBack_RX1, inM mq_2_15, rfl⟩
theorem fl_X1_goBack_30 : xFl vsX1_goBack RX1 30 1 12 := ⟨RX1, TX1, 14, rfl, by decide, hin_X1_goBack_RX1, inM mq_2_21, rfl⟩
theorem fl_X1_goBack_40 : xFl vsX1_goBack RX1 40 1 0 := ⟨RX1, TX1, 14, rfl, by decide, hin_X1_goBack_RX1, inM mq_3_3, rfl⟩
theorem fl_X1_goBack_67 : xFl vsX1_goBack RX1 67 1 11 := ⟨RX1, TX1, 14, rfl, by decide, hin_X1_goBack_RX1, inM mq_3_8, rfl⟩
theorem nyS_X1_goBack : yX1_goBack.cls ≠ "java/lang/invoke/MethodHandle" ∧ yX1_goBack.cls ≠ "java/lang/invoke/VarHandle" ∧ (parseMethodDescriptor yX1_goBack.desc).map (fun d => d.parameters.length) = some 0 := by decide +kernel
theorem nyV_X1_goBack : yX1_goBack.cls = RX1 ∧ yX1_goBack.cls ≠ "java/lang/invoke/MethodHandle" ∧ yX1_goBack.cls ≠ "java/lang/invoke/VarHandle" ∧ (parseMethodDescriptor yX1_goBack.desc).map (fun d => d.parameters.length) = some 0 := by decide +kernel
set_option maxHeartbeats 4000000 in
set_option maxRecDepth 100000 in
theorem c_X1_goBack (G : xG) (l : Launch) (fu : Nat) (S S' : xS) (p0 : Nat) (r : Int) (hf : f_X1_goBack fu S p0 = some (r, S')) : Met l yX1_goBack vsX1_goBack rm_X1_goBack (va_Pc [.ref (xB G + p0)] (xPre G S)) (xQv G S') 0 0 (xA G) := by
  refine kx_met (ret := none) RX1 [(0, .ref (xB G + p0))] (by decide) rfl rfl (Nat.le_of_ble_eq_true rfl) rfl (fun p e s m below meth c ls C hin I hl => ?_)
  unfold f_X1_goBack at hf
  refine kx_aload_n 0 C dX1_goBack_0 (lv_at hl 0 rfl) ?_
  obtain ⟨x2, h1, hf⟩ := ob hf
  refine kx_geti 1 C I fl_X1_goBack_67 h1 dX1_goBack_1 ?_
  refine kx_if_le 4 37 C dX1_goBack_4 (by decide) (fun c3 => ?_) (fun c3 => ?_)
  · have hf := ifp c3 hf
    exact kx_vret 37 C I hf dX1_goBack_37
  · have hf := ifn c3 hf
    refine kx_aload_n 7 C dX1_goBack_7 (lv_at hl 0 rfl) ?_
    refine kx_dup 8 C dX1_goBack_8 rfl ?_
    obtain ⟨x5, h4, hf⟩ := ob hf
    refine kx_geti 9 C I fl_X1_goBack_67 h4 dX1_goBack_9 ?_
    refine kx_iconst 12 C dX1_goBack_12 ?_
    refine kx_isub 13 C dX1_goBack_13 ?_
    obtain ⟨S7, h6, hf⟩ := ob hf
    refine kx_puti 14 C I fl_X1_goBack_67 fw_RX1_11 h6 dX1_goBack_14 (fun H locs I => ?_)
    refine kx_aload_n 17 C dX1_goBack_17 (lv_at hl 0 rfl) ?_
    obtain ⟨q9, h8, hf⟩ := ob hf
    refine kx_getp 18 C I fl_X1_goBack_9 h8 dX1_goBack_18 ?_
    refine kx_aload_n 21 C dX1_goBack_21 (lv_at hl 0 rfl) ?_
    obtain ⟨x11, h10, hf⟩ := ob hf
    refine kx_geti 22 C I fl_X1_goBack_40 h10 dX1_goBack_22 ?_
    refine kx_aload_n 25 C dX1_goBack_25 (lv_at hl 0 rfl) ?_
    obtain ⟨q13, h12, hf⟩ := ob hf
    refine kx_getp 26 C I fl_X1_goBack_30 h12 dX1_goBack_26 ?_
    refine kx_aload_n 29 C dX1_goBack_29 (lv_at hl 0 rfl) ?_
    obtain ⟨x15, h14, hf⟩ := ob hf
    refine kx_geti 30 C I fl_X1_goBack_67 h14 dX1_goBack_30 ?_
    obtain ⟨x16, h17, hf⟩ := ob hf
    refine kx_iald 33 C I h17 dX1_goBack_33 ?_
    obtain ⟨z20, S18, h19, hf⟩ := ob2 hf
    refine kx_callSv 34 C hl I (As := [.ref (xB G + q9), .int (iI x11), .int (iI x16)]) (rest := []) (c_X4_setToRank G l fu _ _ _ _ _ _ h19) (va_cwS 3 C.ts gX1_goBack_X4_setToRank rfl rfl rfl nyS_X4_setToRank ⟨Nat.le_of_ble_eq_true rfl, Nat.le_of_ble_eq_true rfl⟩) rfl rfl (Nat.le_of_ble_eq_true rfl) dX1_goBack_34 ⟨Nat.le_of_ble_eq_true rfl, Nat.le_of_ble_eq_true rfl⟩ (fun H locs I => ?_)
    exact kx_vret 37 C I hf dX1_goBack_37
def rm_X1_knownCount : Room := { frames := 0, cells := 0, slots := 0, locals := 0 }
theorem hin_X1_knownCount_RX1 : ∀ w ∈ wsX10, w ∈ vsX1_knownCount := fun w h => inM (inlX1 w h)
theorem fl_X1_knownCount_15 : xFl vsX1_knownCount RX1 15 1 4 := ⟨RX1, TX1, 14, rfl, by decide, hin_X1_knownCount_RX1, inM mq_2_16, rfl⟩
theorem fl_X1_knownCount_40 : xFl vsX1_knownCount RX1 40 1 0 := ⟨RX1, TX1, 14, rfl, by decide, hin_X1_knownCount_RX1, inM mq_3_3, rfl⟩
theorem nyS_X1_knownCount : yX1_knownCount.cls ≠ "java/lang/invoke/MethodHandle" ∧ yX1_knownCount.cls ≠ "java/lang/invoke/VarHandle" ∧ (parseMethodDescriptor yX1_knownCount.desc).map (fun d => d.parameters.length) = some 0 := by decide +kernel
theorem nyV_X1_knownCount : yX1_knownCount.cls = RX1 ∧ yX1_knownCount.cls ≠ "java/lang/invoke/MethodHandle" ∧ yX1_knownCount.cls ≠ "java/lang/invoke/VarHandle" ∧ (parseMethodDescriptor yX1_knownCount.desc).map (fun d => d.parameters.length) = some 0 := by decide +kernel
set_option maxHeartbeats 4000000 in
set_option maxRecDepth 100000 in
theorem w_X1_knownCount {G : xG} {p : Program} {l : Launch} {e : Env} {s : State} {m : MethodId} {args : Array Value} {below : List Frame} {meth : Method} {c : Code} (C : xK G p s m args meth c cX1_knownCount 3 vsX1_knownCount RX1 (some .int)) (r : Int) (S' : xS) : ∀ k : Nat,
  (∀ (S : xS) (p0 : Nat) (i0 i1 i2 : Int) (H : Heap) (locs : List Loc) (ls : Array Slot), g_X1_knownCount k 0 S p0 i0 i1 i2 = some (r, S') → xI G S s H locs → lv_has ls 3 [(0, .ref (xB G + p0))] → W p l e rm_X1_knownCount s m args below meth c H locs 0 0 (MQ below (xQi G r S') args s 0 0 (xA G)) (F0 m 0 ls [])) ∧
  (∀ (S : xS) (p0 : Nat) (i0 i1 i2 : Int) (H : Heap) (locs : List Loc) (ls : Array Slot), g_X1_knownCount k 1 S p0 i0 i1 i2 = some (r, S') → xI G S s H locs → lv_has ls 3 [(0, .ref (xB G + p0)), (1, .int (iI i0)), (2, .int (iI i1))] → W p l e rm_X1_knownCount s m args below meth c H locs 0 0 (MQ below (xQi G r S') args s 0 0 (xA G)) (F0 m 4 ls [])) ∧
  (∀ (S : xS) (p0 : Nat) (i0 i1 i2 : Int) (H : Heap) (locs : List Loc) (ls : Array Slot), g_X1_knownCount k 2 S p0 i0 i1 i2 = some (r, S') → xI G S s H locs → lv_has ls 3 [(0, .ref (xB G + p0)), (2, .int (iI i0))] → W p l e rm_X1_knownCount s m args below meth c H locs 0 0 (MQ below (xQi G r S') args s 0 0 (xA G)) (F0 m 28 ls [.int (iI i2), .int (iI i1)])) := by
  intro k
  induction k with
  | zero => exact ⟨fun _ _ _ _ _ _ _ _ hf => (by cases hf), fun _ _ _ _ _ _ _ _ hf => (by cases hf), fun _ _ _ _ _ _ _ _ hf => (by cases hf)⟩
  | succ fu ih =>
    obtain ⟨ih0, ih1, ih2⟩ := ih
    refine ⟨?_, ?_, ?_⟩
    · intro S p0 i0 i1 i2 H locs ls hf I hl
      replace hf : b_X1_knownCount_0 (g_X1_knownCount fu) fu S p0 i0 i1 i2 = some (r, S') := hf
      unfold b_X1_knownCount_0 at hf
      refine kx_iconst 0 C dX1_knownCount_0 ?_
      refine kx_istore_n 1 C (lv' := [(1, .int (iI 0)), (0, .ref (xB G + p0))]) dX1_knownCount_1 hl (by decide) rfl rfl (fun ls hl => ?_)
      refine kx_iconst 2 C dX1_knownCount_2 ?_
      refine kx_istore_n 3 C (lv' := [(2, .int (iI 0)), (1, .int (iI 0)), (0, .ref (xB G + p0))]) dX1_knownCount_3 hl (by decide) rfl rfl (fun ls hl => ?_)
      exact ih1 _ _ _ _ _ _ _ _ hf I (lv_sub hl [2, 1, 0] rfl)
    · intro S p0 i0 i1 i2 H locs ls hf I hl
      replace hf : b_X1_knownCount_1 (g_X1_knownCount fu) fu S p0 i0 i1 i2 = some (r, S') := hf
      unfold b_X1_knownCount_1 at hf
      refine kx_iload_n 4 C dX1_knownCount_4 (lv_at hl 2 rfl) ?_
      refine kx_aload_n 5 C dX1_knownCount_5 (lv_at hl 0 rfl) ?_
      obtain ⟨x2, h1, hf⟩ := ob hf
      refine kx_geti 6 C I fl_X1_knownCount_40 h1 dX1_knownCount_6 ?_
      refine kx_icmp_ge 9 36 C dX1_knownCount_9 (by decide) (fun c3 => ?_) (fun c3 => ?_)
      · have hf := ifp c3 hf
        refine kx_iload_n 36 C dX1_knownCount_36 (lv_at hl 1 rfl) ?_
        exact kx_iret 37 C I hf dX1_knownCount_37
      · have hf := ifn c3 hf
        refine kx_iload_n 12 C dX1_knownCount_12 (lv_at hl 1 rfl) ?_
        refine kx_aload_n 13 C dX1_knownCount_13 (lv_at hl 0 rfl) ?_
        obtain ⟨q5, h4, hf⟩ := ob hf
        refine kx_getp 14 C I fl_X1_knownCount_15 h4 dX1_knownCount_14 ?_
        refine kx_iload_n 17 C dX1_knownCount_17 (lv_at hl 2 rfl) ?_
        obtain ⟨x6, h7, hf⟩ := ob hf
        refine kx_iald 18 C I h7 dX1_knownCount_18 ?_
        refine kx_iconst 19 C dX1_knownCount_19 ?_
        refine kx_icmp_eq 20 27 C dX1_knownCount_20 (by decide) (fun c8 => ?_) (fun c8 => ?_)
        · have hf := ifp c8 hf
          refine kx_iconst 27 C dX1_knownCount_27 ?_
          exact ih2 _ _ _ _ _ _ _ _ hf I (lv_sub hl [0, 2] rfl)
        · have hf := ifn c8 hf
          refine kx_iconst 23 C dX1_knownCount_23 ?_
          refine kx_goto 24 28 C dX1_knownCount_24 (by decide) ?_
          exact ih2 _ _ _ _ _ _ _ _ hf I (lv_sub hl [0, 2] rfl)
    · intro S p0 i0 i1 i2 H locs ls hf I hl
      replace hf : b_X1_knownCount_2 (g_X1_knownCount fu) fu S p0 i0 i1 i2 = some (r, S') := hf
      unfold b_X1_knownCount_2 at hf
      refine kx_iadd 28 C dX1_knownCount_28 ?_
      obtain ⟨x9, e10, hf⟩ := nmx_e hf
      refine kx_istore_n 29 C (lv' := [(1, .int (iI x9)), (0, .ref (xB G + p0)), (2, .int (iI i0))]) dX1_knownCount_29 hl (by decide) e10 rfl (fun ls hl => ?_)
      obtain ⟨x11, e12, hf⟩ := nmx_e hf
      refine kx_iinc 30 C (lv' := [(2, .int (iI x11)), (1, .int (iI x9)), (0, .ref (xB G + p0))]) dX1_knownCount_30 hl 2 rfl e12 (by decide) rfl (fun ls hl => ?_)
      refine kx_goto 33 4 C dX1_knownCount_33 (by decide) ?_
      exact ih1 _ _ _ _ _ _ _ _ hf I (lv_sub hl [2, 1, 0] rfl)
set_option maxHeartbeats 4000000 in
set_option maxRecDepth 100000 in
theorem c_X1_knownCount (G : xG) (l : Launch) (fu : Nat) (S S' : xS) (p0 : Nat) (r : Int) (hf : f_X1_knownCount fu S p0 = some (r, S')) : Met l yX1_knownCount vsX1_knownCount rm_X1_knownCount (va_Pc [.ref (xB G + p0)] (xPre G S)) (xQi G r S') 0 0 (xA G) := by
  refine kx_met (ret := (some .int)) RX1 [(0, .ref (xB G + p0))] (by decide) rfl rfl (Nat.le_of_ble_eq_true rfl) rfl (fun p e s m below meth c ls C hin I hl => ?_)
  exact (w_X1_knownCount C r S' fu).1 S _ _ _ _ _ _ _ hf I hl
def rm_X1_isKnownSlip : Room := { frames := 0, cells := 0, slots := 0, locals := 0 }
theorem hin_X1_isKnownSlip_RX1 : ∀ w ∈ wsX10, w ∈ vsX1_isKnownSlip := fun w h => inM (inlX1 w h)
theorem fl_X1_isKnownSlip_15 : xFl vsX1_isKnownSlip RX1 15 1 4 := ⟨RX1, TX1, 14, rfl, by decide, hin_X1_isKnownSlip_RX1, inM mq_2_16, rfl⟩
theorem fl_X1_isKnownSlip_40 : xFl vsX1_isKnownSlip RX1 40 1 0 := ⟨RX1, TX1, 14, rfl, by decide, hin_X1_isKnownSlip_RX1, inM mq_3_3, rfl⟩
theorem nyS_X1_isKnownSlip : yX1_isKnownSlip.cls ≠ "java/lang/invoke/MethodHandle" ∧ yX1_isKnownSlip.cls ≠ "java/lang/invoke/VarHandle" ∧ (parseMethodDescriptor yX1_isKnownSlip.desc).map (fun d => d.parameters.length) = some 1 := by decide +kernel
theorem nyV_X1_isKnownSlip : yX1_isKnownSlip.cls = RX1 ∧ yX1_isKnownSlip.cls ≠ "java/lang/invoke/MethodHandle" ∧ yX1_isKnownSlip.cls ≠ "java/lang/invoke/VarHandle" ∧ (parseMethodDescriptor yX1_isKnownSlip.desc).map (fun d => d.parameters.length) = some 1 := by decide +kernel
set_option maxHeartbeats 4000000 in
set_option maxRecDepth 100000 in
theorem w_X1_isKnownSlip {G : xG} {p : Program} {l : Launch} {e : Env} {s : State} {m : MethodId} {args : Array Value} {below : List Frame} {meth : Method} {c : Code} (C : xK G p s m args meth c cX1_isKnownSlip 3 vsX1_isKnownSlip RX1 (some .boolean)) (r : Int) (S' : xS) : ∀ k : Nat,
  (∀ (S : xS) (p0 : Nat) (i0 i1 : Int) (H : Heap) (locs : List Loc) (ls : Array Slot), g_X1_isKnownSlip k 0 S p0 i0 i1 = some (r, S') → xI G S s H locs → lv_has ls 3 [(0, .ref (xB G + p0)), (1, .int (iI i0))] → W p l e rm_X1_isKnownSlip s m args below meth c H locs 0 0 (MQ below (xQi G r S') args s 0 0 (xA G)) (F0 m 0 ls [])) ∧
  (∀ (S : xS) (p0 : Nat) (i0 i1 : Int) (H : Heap) (locs : List Loc) (ls : Array Slot), g_X1_isKnownSlip k 1 S p0 i0 i1 = some (r, S') → xI G S s H locs → lv_has ls 3 [(0, .ref (xB G + p0)), (1, .int (iI i0)), (2, .int (iI i1))] → W p l e rm_X1_isKnownSlip s m args below meth c H locs 0 0 (MQ below (xQi G r S') args s 0 0 (xA G)) (F0 m 2 ls [])) := by
  intro k
  induction k with
  | zero => exact ⟨fun _ _ _ _ _ _ _ hf => (by cases hf), fun _ _ _ _ _ _ _ hf => (by cases hf)⟩
  | succ fu ih =>
    obtain ⟨ih0, ih1⟩ := ih
    refine ⟨?_, ?_⟩
    · intro S p0 i0 i1 H locs ls hf I hl
      replace hf : b_X1_isKnownSlip_0 (g_X1_isKnownSlip fu) fu S p0 i0 i1 = some (r, S') := hf
      unfold b_X1_isKnownSlip_0 at hf
      refine kx_iconst 0 C dX1_isKnownSlip_0 ?_
      refine kx_istore_n 1 C (lv' := [(2, .int (iI 0)), (0, .ref (xB G + p0)), (1, .int (iI i0))]) dX1_isKnownSlip_1 hl (by decide) rfl rfl (fun ls hl => ?_)
      exact ih1 _ _ _ _ _ _ _ hf I (lv_sub hl [1, 2, 0] rfl)
    · intro S p0 i0 i1 H locs ls hf I hl
      replace hf : b_X1_isKnownSlip_1 (g_X1_isKnownSlip fu) fu S p0 i0 i1 = some (r, S') := hf
      unfold b_X1_isKnownSlip_1 at hf
      refine kx_iload_n 2 C dX1_isKnownSlip_2 (lv_at hl 2 rfl) ?_
      refine kx_aload_n 3 C dX1_isKnownSlip_3 (lv_at hl 0 rfl) ?_
      obtain ⟨x2, h1, hf⟩ := ob hf
      refine kx_geti 4 C I fl_X1_isKnownSlip_40 h1 dX1_isKnownSlip_4 ?_
      refine kx_icmp_ge 7 28 C dX1_isKnownSlip_7 (by decide) (fun c3 => ?_) (fun c3 => ?_)
      · have hf := ifp c3 hf
        refine kx_iconst 28 C dX1_isKnownSlip_28 ?_
        exact kx_zret 29 C I (by decide) hf dX1_isKnownSlip_29
      · have hf := ifn c3 hf
        refine kx_aload_n 10 C dX1_isKnownSlip_10 (lv_at hl 0 rfl) ?_
        obtain ⟨q5, h4, hf⟩ := ob hf
        refine kx_getp 11 C I fl_X1_isKnownSlip_15 h4 dX1_isKnownSlip_11 ?_
        refine kx_iload_n 14 C dX1_isKnownSlip_14 (lv_at hl 2 rfl) ?_
        obtain ⟨x6, h7, hf⟩ := ob hf
        refine kx_iald 15 C I h7 dX1_isKnownSlip_15 ?_
        refine kx_iload_n 16 C dX1_isKnownSlip_16 (lv_at hl 1 rfl) ?_
        refine kx_icmp_ne 17 22 C dX1_isKnownSlip_17 (by decide) (fun c8 => ?_) (fun c8 => ?_)
        · have hf := ifn c8 hf
          obtain ⟨x9, e10, hf⟩ := nmx_e hf
          refine kx_iinc 22 C (lv' := [(2, .int (iI x9)), (0, .ref (xB G + p0)), (1, .int (iI i0))]) dX1_isKnownSlip_22 hl 2 rfl e10 (by decide) rfl (fun ls hl => ?_)
          refine kx_goto 25 2 C dX1_isKnownSlip_25 (by decide) ?_
          exact ih1 _ _ _ _ _ _ _ hf I (lv_sub hl [1, 2, 0] rfl)
        · have hf := ifp c8 hf
          refine kx_iconst 20 C dX1_isKnownSlip_20 ?_
          exact kx_zret 21 C I (by decide) hf dX1_isKnownSlip_21
set_option maxHeartbeats 4000000 in
set_option maxRecDepth 100000 in
theorem c_X1_isKnownSlip (G : xG) (l : Launch) (fu : Nat) (S S' : xS) (p0 : Nat) (i0 : Int) (r : Int) (hf : f_X1_isKnownSlip fu S p0 i0 = some (r, S')) : Met l yX1_isKnownSlip vsX1_isKnownSlip rm_X1_isKnownSlip (va_Pc [.ref (xB G + p0), .int (iI i0)] (xPre G S)) (xQi G r S') 0 0 (xA G) := by
  refine kx_met (ret := (some .boolean)) RX1 [(0, .ref (xB G + p0)), (1, .int (iI i0))] (by decide) rfl rfl (Nat.le_of_ble_eq_true rfl) rfl (fun p e s m below meth c ls C hin I hl => ?_)
  exact (w_X1_isKnownSlip C r S' fu).1 S _ _ _ _ _ _ hf I hl
def rm_X1_addReport : Room := { frames := 0, cells := 0, slots := 0, locals := 0 }
theorem hin_X1_addReport_RX1 : ∀ w ∈ wsX10, w ∈ vsX1_addReport := fun w h => inM (inlX1 w h)
theorem fl_X1_addReport_21 : xFl vsX1_addReport RX1 21 1 7 := ⟨RX1, TX1, 14, rfl, by decide, hin_X1_addReport_RX1, inM mq_2_18, rfl⟩
theorem fl_X1_addReport_24 : xFl vsX1_addReport RX1 24 1 8 := ⟨RX1, TX1, 14, rfl, by decide, hin_X1_addReport_RX1, inM mq_2_19, rfl⟩
theorem fl_X1_addReport_61 : xFl vsX1_addReport RX1 61 1 6 := ⟨RX1, TX1, 14, rfl, by decide, hin_X1_addReport_RX1, inM mq_3_6, rfl⟩
theorem nyS_X1_addReport : yX1_addReport.cls ≠ "java/lang/invoke/MethodHandle" ∧ yX1_addReport.cls ≠ "java/lang/invoke/VarHandle" ∧ (parseMethodDescriptor yX1_addReport.desc).map (fun d => d.parameters.length) = some 2 := by decide +kernel
theorem nyV_X1_addReport : yX1_addReport.cls = RX1 ∧ yX1_addReport.cls ≠ "java/lang/invoke/MethodHandle" ∧ yX1_addReport.cls ≠ "java/lang/invoke/VarHandle" ∧ (parseMethodDescriptor yX1_addReport.desc).map (fun d => d.parameters.length) = some 2 := by decide +kernel
set_option maxHeartbeats 4000000 in
set_option maxRecDepth 100000 in
theorem c_X1_addReport (G : xG) (l : Launch) (fu : Nat) (S S' : xS) (p0 : Nat) (i0 : Int) (i1 : Int) (r : Int) (hf : f_X1_addReport fu S p0 i0 i1 = some (r, S')) : Met l yX1_addReport vsX1_addReport rm_X1_addReport (va_Pc [.ref (xB G + p0), .int (iI i0), .int (iI i1)] (xPre G S)) (xQi G r S') 0 0 (xA G) := by
  refine kx_met (ret := (some .int)) RX1 [(0, .ref (xB G + p0)), (1, .int (iI i0)), (2, .int (iI i1))] (by decide) rfl rfl (Nat.le_of_ble_eq_true rfl) rfl (fun p e s m below meth c ls C hin I hl => ?_)
  unfold f_X1_addReport at hf
  refine kx_aload_n 0 C dX1_addReport_0 (lv_at hl 0 rfl) ?_
  obtain ⟨x2, h1, hf⟩ := ob hf
  refine kx_geti 1 C I fl_X1_addReport_61 h1 dX1_addReport_1 ?_
  refine kx_bipush 4 C dX1_addReport_4 (by decide) ?_
  refine kx_icmp_lt 6 12 C dX1_addReport_6 (by decide) (fun c3 => ?_) (fun c3 => ?_)
  · have hf := ifp c3 hf
    refine kx_aload_n 12 C dX1_addReport_12 (lv_at hl 0 rfl) ?_
    obtain ⟨q5, h4, hf⟩ := ob hf
    refine kx_getp 13 C I fl_X1_addReport_21 h4 dX1_addReport_13 ?_
    refine kx_aload_n 16 C dX1_addReport_16 (lv_at hl 0 rfl) ?_
    obtain ⟨x7, h6, hf⟩ := ob hf
    refine kx_geti 17 C I fl_X1_addReport_61 h6 dX1_addReport_17 ?_
    refine kx_iload_n 20 C dX1_addReport_20 (lv_at hl 1 rfl) ?_
    obtain ⟨S9, h8, hf⟩ := ob hf
    refine kx_iast 21 C I h8 dX1_addReport_21 (fun H locs I => ?_)
    refine kx_aload_n 22 C dX1_addReport_22 (lv_at hl 0 rfl) ?_
    obtain ⟨q11, h10, hf⟩ := ob hf
    refine kx_getp 23 C I fl_X1_addReport_24 h10 dX1_addReport_23 ?_
    refine kx_aload_n 26 C dX1_addReport_26 (lv_at hl 0 rfl) ?_
    obtain ⟨x13, h12, hf⟩ := ob hf
    refine kx_geti 27 C I fl_X1_addReport_61 h12 dX1_addReport_27 ?_
    refine kx_iload_n 30 C dX1_addReport_30 (lv_at hl 2 rfl) ?_
    obtain ⟨S15, h14, hf⟩ := ob hf
    refine kx_iast 31 C I h14 dX1_addReport_31 (fun H locs I => ?_)
    refine kx_aload_n 32 C dX1_addReport_32 (lv_at hl 0 rfl) ?_
    refine kx_dup 33 C dX1_addReport_33 rfl ?_
    obtain ⟨x17, h16, hf⟩ := ob hf
    refine kx_geti 34 C I fl_X1_addReport_61 h16 dX1_addReport_34 ?_
    refine kx_iconst 37 C dX1_addReport_37 ?_
    refine kx_iadd 38 C dX1_addReport_38 ?_
    obtain ⟨S19, h18, hf⟩ := ob hf
    refine kx_puti 39 C I fl_X1_addReport_61 fw_RX1_6 h18 dX1_addReport_39 (fun H locs I => ?_)
    refine kx_aload_n 42 C dX1_addReport_42 (lv_at hl 0 rfl) ?_
    obtain ⟨x21, h20, hf⟩ := ob hf
    refine kx_geti 43 C I fl_X1_addReport_61 h20 dX1_addReport_43 ?_
    refine kx_iconst 46 C dX1_addReport_46 ?_
    refine kx_isub 47 C dX1_addReport_47 ?_
    exact kx_iret 48 C I hf dX1_addReport_48
  · have hf := ifn c3 hf
    refine kx_bipush 9 C dX1_addReport_9 (by decide) ?_
    exact kx_iret 11 C I hf dX1_addReport_11
def rm_X1_addMove : Room := { frames := 0, cells := 0, slots := 0, locals := 0 }
theorem hin_X1_addMove_RX1 : ∀ w ∈ wsX10, w ∈ vsX1_addMove := fun w h => inM (inlX1 w h)
theorem fl_X1_addMove_27 : xFl vsX1_addMove RX1 27 1 10 := ⟨RX1, TX1, 14, rfl, by decide, hin_X1_addMove_RX1, inM mq_2_20, rfl⟩
theorem fl_X1_addMove_64 : xFl vsX1_addMove RX1 64 1 9 := ⟨RX1, TX1, 14, rfl, by decide, hin_X1_addMove_RX1, inM mq_3_7, rfl⟩
theorem nyS_X1_addMove : yX1_addMove.cls ≠ "java/lang/invoke/MethodHandle" ∧ yX1_addMove.cls ≠ "java/lang/invoke/VarHandle" ∧ (parseMethodDescriptor yX1_addMove.desc).map (fun d => d.parameters.length) = some 1 := by decide +kernel
theorem nyV_X1_addMove : yX1_addMove.cls = RX1 ∧ yX1_addMove.cls ≠ "java/lang/invoke/MethodHandle" ∧ yX1_addMove.cls ≠ "java/lang/invoke/VarHandle" ∧ (parseMethodDescriptor yX1_addMove.desc).map (fun d => d.parameters.length) = some 1 := by decide +kernel
set_option maxHeartbeats 4000000 in
set_option maxRecDepth 100000 in
theorem c_X1_addMove (G : xG) (l : Launch) (fu : Nat) (S S' : xS) (p0 : Nat) (i0 : Int) (r : Int) (hf : f_X1_addMove fu S p0 i0 = some (r, S')) : Met l yX1_addMove vsX1_addMove rm_X1_addMove (va_Pc [.ref (xB G + p0), .int (iI i0)] (xPre G S)) (xQi G r S') 0 0 (xA G) := by
  refine kx_met (ret := (some .int)) RX1 [(0, .ref (xB G + p0)), (1, .int (iI i0))] (by decide) rfl rfl (Nat.le_of_ble_eq_true rfl) rfl (fun p e s m below meth c ls C hin I hl => ?_)
  unfold f_X1_addMove at hf
  refine kx_aload_n 0 C dX1_addMove_0 (lv_at hl 0 rfl) ?_
  obtain ⟨x2, h1, hf⟩ := ob hf
  refine kx_geti 1 C I fl_X1_addMove_64 h1 dX1_addMove_1 ?_
  refine kx_iconst 4 C dX1_addMove_4 ?_
  refine kx_icmp_lt 5 11 C dX1_addMove_5 (by decide) (fun c3 => ?_) (fun c3 => ?_)
  · have hf := ifp c3 hf
    refine kx_aload_n 11 C dX1_addMove_11 (lv_at hl 0 rfl) ?_
    obtain ⟨q5, h4, hf⟩ := ob hf
    refine kx_getp 12 C I fl_X1_addMove_27 h4 dX1_addMove_12 ?_
    refine kx_aload_n 15 C dX1_addMove_15 (lv_at hl 0 rfl) ?_
    obtain ⟨x7, h6, hf⟩ := ob hf
    refine kx_geti 16 C I fl_X1_addMove_64 h6 dX1_addMove_16 ?_
    refine kx_iload_n 19 C dX1_addMove_19 (lv_at hl 1 rfl) ?_
    obtain ⟨S9, h8, hf⟩ := ob hf
    refine kx_iast 20 C I h8 dX1_addMove_20 (fun H locs I => ?_)
    refine kx_aload_n 21 C dX1_addMove_21 (lv_at hl 0 rfl) ?_
    refine kx_dup 22 C dX1_addMove_22 rfl ?_
    obtain ⟨x11, h10, hf⟩ := ob hf
    refine kx_geti 23 C I fl_X1_addMove_64 h10 dX1_addMove_23 ?_
    refine kx_iconst 26 C dX1_addMove_26 ?_
    refine kx_iadd 27 C dX1_addMove_27 ?_
    obtain ⟨S13, h12, hf⟩ := ob hf
    refine kx_puti 28 C I fl_X1_addMove_64 fw_RX1_9 h12 dX1_addMove_28 (fun H locs I => ?_)
    refine kx_aload_n 31 C dX1_addMove_31 (lv_at hl 0 rfl) ?_
    obtain ⟨x15, h14, hf⟩ := ob hf
    refine kx_geti 32 C I fl_X1_addMove_64 h14 dX1_addMove_32 ?_
    refine kx_iconst 35 C dX1_addMove_35 ?_
    refine kx_isub 36 C dX1_addMove_36 ?_
    exact kx_iret 37 C I hf dX1_addMove_37
  · have hf := ifn c3 hf
    refine kx_bipush 8 C dX1_addMove_8 (by decide) ?_
    exact kx_iret 10 C I hf dX1_addMove_10
def rm_X1_makeMove : Room := { frames := 4, cells := 0, slots := 0, locals := 85 }
theorem hin_X1_makeMove_RX1 : ∀ w ∈ wsX10, w ∈ vsX1_makeMove := fun w h => inM (inlX1 w h)
theorem fl_X1_makeMove_9 : xFl vsX1_makeMove RX1 9 1 3 := ⟨RX1, TX1, 14, rfl, by decide, hin_X1_makeMove_RX1, inM mq_2_15, rfl⟩
theorem fl_X1_makeMove_27 : xFl vsX1_makeMove RX1 27 1 10 := ⟨RX1, TX1, 14, rfl, by decide, hin_X1_makeMove_RX1, inM mq_2_20, rfl⟩
theorem fl_X1_makeMove_33 : xFl vsX1_makeMove RX1 33 1 13 := ⟨RX1, TX1, 14, rfl, by decide, hin_X1_makeMove_RX1, inM mq_2_22, rfl⟩
theorem fl_X1_makeMove_40 : xFl vsX1_makeMove RX1 40 1 0 := ⟨RX1, TX1, 14, rfl, by decide, hin_X1_makeMove_RX1, inM mq_3_3, rfl⟩
theorem mw_X1_makeMove_0 : Cond.methodLink RX1 70 arraycopyName ∈ vsX1_makeMove := inM mq_8_12
theorem mw_X1_makeMove_1 : Cond.native arraycopyName ∈ vsX1_makeMove := inM mq_8_13
theorem mw_X1_makeMove_2 : Cond.static arraycopyName ∈ vsX1_makeMove := inM mq_8_14
theorem mw_X1_makeMove_3 : Cond.initialized "java/lang/System" ∈ vsX1_makeMove := inM mq_8_15
theorem nyS_X1_makeMove : yX1_makeMove.cls ≠ "java/lang/invoke/MethodHandle" ∧ yX1_makeMove.cls ≠ "java/lang/invoke/VarHandle" ∧ (parseMethodDescriptor yX1_makeMove.desc).map (fun d => d.parameters.length) = some 2 := by decide +kernel
theorem nyV_X1_makeMove : yX1_makeMove.cls = RX1 ∧ yX1_makeMove.cls ≠ "java/lang/invoke/MethodHandle" ∧ yX1_makeMove.cls ≠ "java/lang/invoke/VarHandle" ∧ (parseMethodDescriptor yX1_makeMove.desc).map (fun d => d.parameters.length) = some 2 := by decide +kernel
set_option maxHeartbeats 4000000 in
set_option maxRecDepth 100000 in
theorem c_X1_makeMove (G : xG) (l : Launch) (fu : Nat) (S S' : xS) (p0 : Nat) (i0 : Int) (p1 : Nat) (r : Int) (hf : f_X1_makeMove fu S p0 i0 p1 = some (r, S')) : Met l yX1_makeMove vsX1_makeMove rm_X1_makeMove (va_Pc [.ref (xB G + p0), .int (iI i0), .ref (xB G + p1)] (xPre G S)) (xQv G S') 0 0 (xA G) := by
  refine kx_met (ret := none) RX1 [(0, .ref (xB G + p0)), (1, .int (iI i0)), (2, .ref (xB G + p1))] (by decide) rfl rfl (Nat.le_of_ble_eq_true rfl) rfl (fun p e s m below meth c ls C hin I hl => ?_)
  unfold f_X1_makeMove at hf
  refine kx_aload_n 0 C dX1_makeMove_0 (lv_at hl 0 rfl) ?_
  obtain ⟨h4, hf⟩ := ift hf
  obtain ⟨z3, S1, h2, hf⟩ := ob2 hf
  refine kx_callVv 1 C hl I (ci := 1) (As := []) (rest := []) (c_X1_keepPast G l fu _ _ _ _ h2) (cwV 0 C.ts gX1_makeMove_X1_keepPast rfl rfl rfl nyV_X1_keepPast ⟨Nat.le_of_ble_eq_true rfl, Nat.le_of_ble_eq_true rfl⟩) rfl h4 rfl rfl (Nat.le_of_ble_eq_true rfl) dX1_makeMove_1 ⟨Nat.le_of_ble_eq_true rfl, Nat.le_of_ble_eq_true rfl⟩ (fun H locs I => ?_)
  refine kx_aload_n 4 C dX1_makeMove_4 (lv_at hl 2 rfl) ?_
  refine kx_aload_n 5 C dX1_makeMove_5 (lv_at hl 0 rfl) ?_
  obtain ⟨x6, h5, hf⟩ := ob hf
  refine kx_geti 6 C I fl_X1_makeMove_40 h5 dX1_makeMove_6 ?_
  refine kx_aload_n 9 C dX1_makeMove_9 (lv_at hl 0 rfl) ?_
  obtain ⟨q8, h7, hf⟩ := ob hf
  refine kx_getp 10 C I fl_X1_makeMove_27 h7 dX1_makeMove_10 ?_
  refine kx_iload_n 13 C dX1_makeMove_13 (lv_at hl 1 rfl) ?_
  obtain ⟨x9, h10, hf⟩ := ob hf
  refine kx_iald 14 C I h10 dX1_makeMove_14 ?_
  obtain ⟨z13, S11, h12, hf⟩ := ob2 hf
  refine kx_callSv 15 C hl I (As := [.ref (xB G + p1), .int (iI x6), .int (iI x9)]) (rest := []) (c_X4_setToRank G l fu _ _ _ _ _ _ h12) (va_cwS 3 C.ts gX1_makeMove_X4_setToRank rfl rfl rfl nyS_X4_setToRank ⟨Nat.le_of_ble_eq_true rfl, Nat.le_of_ble_eq_true rfl⟩) rfl rfl (Nat.le_of_ble_eq_true rfl) dX1_makeMove_15 ⟨Nat.le_of_ble_eq_true rfl, Nat.le_of_ble_eq_true rfl⟩ (fun H locs I => ?_)
  refine kx_aload_n 18 C dX1_makeMove_18 (lv_at hl 0 rfl) ?_
  obtain ⟨q15, h14, hf⟩ := ob hf
  refine kx_getp 19 C I fl_X1_makeMove_33 h14 dX1_makeMove_19 ?_
  refine kx_aload_n 22 C dX1_makeMove_22 (lv_at hl 0 rfl) ?_
  obtain ⟨q17, h16, hf⟩ := ob hf
  refine kx_getp 23 C I fl_X1_makeMove_9 h16 dX1_makeMove_23 ?_
  refine kx_aload_n 26 C dX1_makeMove_26 (lv_at hl 2 rfl) ?_
  refine kx_aload_n 27 C dX1_makeMove_27 (lv_at hl 0 rfl) ?_
  obtain ⟨x19, h18, hf⟩ := ob hf
  refine kx_geti 28 C I fl_X1_makeMove_40 h18 dX1_makeMove_28 ?_
  obtain ⟨z22, S20, h21, hf⟩ := ob2 hf
  refine kx_callSv 31 C hl I (As := [.ref (xB G + q15), .ref (xB G + q17), .ref (xB G + p1), .int (iI x19)]) (rest := []) (c_X4_setMoved G l fu _ _ _ _ _ _ _ h21) (va_cwS 4 C.ts gX1_makeMove_X4_setMoved rfl rfl rfl nyS_X4_setMoved ⟨Nat.le_of_ble_eq_true rfl, Nat.le_of_ble_eq_true rfl⟩) rfl rfl (Nat.le_of_ble_eq_true rfl) dX1_makeMove_31 ⟨Nat.le_of_ble_eq_true rfl, Nat.le_of_ble_eq_true rfl⟩ (fun H locs I => ?_)
  refine kx_aload_n 34 C dX1_makeMove_34 (lv_at hl 0 rfl) ?_
  obtain ⟨q24, h23, hf⟩ := ob hf
  refine kx_getp 35 C I fl_X1_makeMove_33 h23 dX1_makeMove_35 ?_
  refine kx_iconst 38 C dX1_makeMove_38 ?_
  refine kx_aload_n 39 C dX1_makeMove_39 (lv_at hl 0 rfl) ?_
  obtain ⟨q26, h25, hf⟩ := ob hf
  refine kx_getp 40 C I fl_X1_makeMove_9 h25 dX1_makeMove_40 ?_
  refine kx_iconst 43 C dX1_makeMove_43 ?_
  refine kx_aload_n 44 C dX1_makeMove_44 (lv_at hl 0 rfl) ?_
  obtain ⟨x28, h27, hf⟩ := ob hf
  refine kx_geti 45 C I fl_X1_makeMove_40 h27 dX1_makeMove_45 ?_
  obtain ⟨S30, h29, hf⟩ := ob hf
  refine kx_cpy 48 C hl I mw_X1_makeMove_0 mw_X1_makeMove_1 mw_X1_makeMove_2 mw_X1_makeMove_3 h29 ⟨Nat.le_of_ble_eq_true rfl, Nat.le_of_ble_eq_true rfl⟩ dX1_makeMove_48 (fun H locs I => ?_)
  exact kx_vret 51 C I hf dX1_makeMove_51
def rm_X2_init : Room := { frames := 1, cells := 1, slots := 7, locals := 20 }
theorem hin_X2_init_RX2 : ∀ w ∈ wsX20, w ∈ vsX2_init := fun w h => inM (inlX2 w h)
theorem fl_X2_init_9 : xFl vsX2_init RX2 9 2 0 := ⟨RX2, TX2, 4, rfl, by decide, hin_X2_init_RX2, inM mq_4_8, rfl⟩
theorem fl_X2_init_15 : xFl vsX2_init RX2 15 2 1 := ⟨RX2, TX2, 4, rfl, by decide, hin_X2_init_RX2, inM mq_4_9, rfl⟩
theorem fl_X2_init_19 : xFl vsX2_init RX2 19 2 2 := ⟨RX2, TX2, 4, rfl, by decide, hin_X2_init_RX2, inM mq_4_10, rfl⟩
theorem fl_X2_init_23 : xFl vsX2_init RX2 23 2 3 := ⟨RX2, TX2, 4, rfl, by decide, hin_X2_init_RX2, inM mq_4_11, rfl⟩
theorem mw_X2_init_0 : Cond.methodLink RX2 3 objectInit ∈ vsX2_init := inM mq_4_7
theorem mw_X2_init_1 : Cond.instanceMethod objectInit ∈ vsX2_init := inM mq_1_10
theorem mw_X2_init_2 : Cond.code objectInit ⟨#[0xb1]⟩ 1 none ∈ vsX2_init := inM mq_1_11
theorem mw_X2_init_3 : Cond.arrayClass .int ∈ vsX2_init := inM mq_2_2
theorem nyS_X2_init : yX2_init.cls ≠ "java/lang/invoke/MethodHandle" ∧ yX2_init.cls ≠ "java/lang/invoke/VarHandle" ∧ (parseMethodDescriptor yX2_init.desc).map (fun d => d.parameters.length) = some 0 := by decide +kernel
set_option maxHeartbeats 4000000 in
set_option maxRecDepth 100000 in
theorem c_X2_init (G : xG) (l : Launch) (fu : Nat) (S S' : xS) (p0 : Nat) (r : Int) (hf : f_X2_init fu S p0 = some (r, S')) : Met l yX2_init vsX2_init rm_X2_init (va_Pc [.ref (xB G + p0)] (xPre G S)) (xQv G S') 1 7 (xA G) := by
  refine kx_met (ret := none) RX2 [(0, .ref (xB G + p0))] (by decide) rfl rfl (Nat.le_of_ble_eq_true rfl) rfl (fun p e s m below meth c ls C hin I hl => ?_)
  have hin := hin rfl
  unfold f_X2_init at hf
  refine kx_aload_n 0 C dX2_init_0 (lv_at hl 0 rfl) ?_
  refine kx_objInit 1 C hl mw_X2_init_0 mw_X2_init_1 mw_X2_init_2 ⟨Nat.le_of_ble_eq_true rfl, Nat.le_of_ble_eq_true rfl⟩ dX2_init_1 ?_
  refine kx_aload_n 4 C dX2_init_4 (lv_at hl 0 rfl) ?_
  refine kx_bipush 5 C dX2_init_5 (by decide) ?_
  obtain ⟨S1, eS1, hf⟩ := nmx_e hf
  refine kx_newa 7 C I (ty := .int) 0 7 rfl rfl rfl (fun _ _ h => h) mw_X2_init_3 rfl (Nat.le_of_ble_eq_true rfl) (by decide) ⟨Nat.le_of_ble_eq_true rfl, Nat.le_of_ble_eq_true rfl⟩ dX2_init_7 (fun H I => ?_)
  rw [← eS1] at I
  obtain ⟨S3, h2, hf⟩ := ob hf
  refine kx_putFp 9 C I fl_X2_init_9 fw_RX2_0 hin rfl (fun _ => ⟨rfl, rfl⟩) h2 dX2_init_9 (fun H locs I => ?_)
  refine kx_aload_n 12 C dX2_init_12 (lv_at hl 0 rfl) ?_
  refine kx_iconst 13 C dX2_init_13 ?_
  obtain ⟨S5, h4, hf⟩ := ob hf
  refine kx_puti 14 C I fl_X2_init_15 fw_RX2_1 h4 dX2_init_14 (fun H locs I => ?_)
  refine kx_aload_n 17 C dX2_init_17 (lv_at hl 0 rfl) ?_
  refine kx_iconst 18 C dX2_init_18 ?_
  obtain ⟨S7, h6, hf⟩ := ob hf
  refine kx_putz 19 C I fl_X2_init_19 fw_RX2_2 (by decide) h6 dX2_init_19 (fun H locs I => ?_)
  refine kx_aload_n 22 C dX2_init_22 (lv_at hl 0 rfl) ?_
  refine kx_iconst 23 C dX2_init_23 ?_
  obtain ⟨S10, h9, hf⟩ := ob hf
  refine kx_puti 24 C I fl_X2_init_23 fw_RX2_3 h9 dX2_init_24 (fun H locs I => ?_)
  exact kx_vret 27 C I hf dX2_init_27
def rm_X2_closedFrom : Room := { frames := 0, cells := 0, slots := 0, locals := 0 }
theorem hin_X2_closedFrom_RX2 : ∀ w ∈ wsX20, w ∈ vsX2_closedFrom := fun w h => inM (inlX2 w h)
theorem fl_X2_closedFrom_23 : xFl vsX2_closedFrom RX2 23 2 3 := ⟨RX2, TX2, 4, rfl, by decide, hin_X2_closedFrom_RX2, inM mq_4_11, rfl⟩
theorem nyS_X2_closedFrom : yX2_closedFrom.cls ≠ "java/lang/invoke/MethodHandle" ∧ yX2_closedFrom.cls ≠ "java/lang/invoke/VarHandle" ∧ (parseMethodDescriptor yX2_closedFrom.desc).map (fun d => d.parameters.length) = some 2 := by decide +kernel
theorem nyV_X2_closedFrom : yX2_closedFrom.cls = RX2 ∧ yX2_closedFrom.cls ≠ "java/lang/invoke/MethodHandle" ∧ yX2_closedFrom.cls ≠ "java/lang/invoke/VarHandle" ∧ (parseMethodDescriptor yX2_closedFrom.desc).map (fun d => d.parameters.length) = some 2 := by decide +kernel
set_option maxHeartbeats 4000000 in
set_option maxRecDepth 100000 in
theorem w_X2_closedFrom {G : xG} {p : Program} {l : Launch} {e : Env} {s : State} {m : MethodId} {args : Array Value} {below : List Frame} {meth : Method} {c : Code} (C : xK G p s m args meth c cX2_closedFrom 5 vsX2_closedFrom RX2 (some .int)) (r : Int) (S' : xS) : ∀ k : Nat,
  (∀ (S : xS) (p0 : Nat) (i0 i1 i2 : Int) (H : Heap) (locs : List Loc) (ls : Array Slot), g_X2_closedFrom k 0 S p0 i0 i1 i2 = some (r, S') → xI G S s H locs → lv_has ls 5 [(0, .ref (xB G + p0)), (1, .int (iI i0)), (2, .int (iI i1))] → W p l e rm_X2_closedFrom s m args below meth c H locs 0 0 (MQ below (xQi G r S') args s 0 0 (xA G)) (F0 m 0 ls [])) ∧
  (∀ (S : xS) (p0 : Nat) (i0 i1 i2 : Int) (H : Heap) (locs : List Loc) (ls : Array Slot), g_X2_closedFrom k 1 S p0 i0 i1 i2 = some (r, S') → xI G S s H locs → lv_has ls 5 [(0, .ref (xB G + p0)), (2, .int (iI i0)), (3, .int (iI i1)), (4, .int (iI i2))] → W p l e rm_X2_closedFrom s m args below meth c H locs 0 0 (MQ below (xQi G r S') args s 0 0 (xA G)) (F0 m 5 ls [])) := by
  intro k
  induction k with
  | zero => exact ⟨fun _ _ _ _ _ _ _ _ hf => (by cases hf), fun _ _ _ _ _ _ _ _ hf => (by cases hf)⟩
  | succ fu ih =>
    obtain ⟨ih0, ih1⟩ := ih
    refine ⟨?_, ?_⟩
    · intro S p0 i0 i1 i2 H locs ls hf I hl
      replace hf : b_X2_closedFrom_0 (g_X2_closedFrom fu) fu S p0 i0 i1 i2 = some (r, S') := hf
      unfold b_X2_closedFrom_0 at hf
      refine kx_iload_n 0 C dX2_closedFrom_0 (lv_at hl 1 rfl) ?_
      refine kx_istore_n 1 C (lv' := [(3, .int (iI i0)), (0, .ref (xB G + p0)), (1, .int (iI i0)), (2, .int (iI i1))]) dX2_closedFrom_1 hl (by decide) rfl rfl (fun ls hl => ?_)
      refine kx_iconst 2 C dX2_closedFrom_2 ?_
      refine kx_istore 3 C (lv' := [(4, .int (iI 0)), (3, .int (iI i0)), (0, .ref (xB G + p0)), (1, .int (iI i0)), (2, .int (iI i1))]) dX2_closedFrom_3 hl (by decide) rfl rfl (fun ls hl => ?_)
      exact ih1 _ _ _ _ _ _ _ _ hf I (lv_sub hl [2, 4, 1, 0] rfl)
    · intro S p0 i0 i1 i2 H locs ls hf I hl
      replace hf : b_X2_closedFrom_1 (g_X2_closedFrom fu) fu S p0 i0 i1 i2 = some (r, S') := hf
      unfold b_X2_closedFrom_1 at hf
      refine kx_iload 5 C dX2_closedFrom_5 (lv_at hl 3 rfl) ?_
      refine kx_iload_n 7 C dX2_closedFrom_7 (lv_at hl 1 rfl) ?_
      refine kx_icmp_ge 8 35 C dX2_closedFrom_8 (by decide) (fun c1 => ?_) (fun c1 => ?_)
      · have hf := ifp c1 hf
        refine kx_iload_n 35 C dX2_closedFrom_35 (lv_at hl 2 rfl) ?_
        exact kx_iret 36 C I hf dX2_closedFrom_36
      · have hf := ifn c1 hf
        refine kx_aload_n 11 C dX2_closedFrom_11 (lv_at hl 0 rfl) ?_
        obtain ⟨x3, h2, hf⟩ := ob hf
        refine kx_geti 12 C I fl_X2_closedFrom_23 h2 dX2_closedFrom_12 ?_
        refine kx_iload_n 15 C dX2_closedFrom_15 (lv_at hl 2 rfl) ?_
        refine kx_ishr 16 C dX2_closedFrom_16 ?_
        refine kx_iconst 17 C dX2_closedFrom_17 ?_
        refine kx_iand 18 C dX2_closedFrom_18 ?_
        refine kx_iconst 19 C dX2_closedFrom_19 ?_
        refine kx_icmp_ne 20 35 C dX2_closedFrom_20 (by decide) (fun c4 => ?_) (fun c4 => ?_)
        · have hf := ifn c4 hf
          refine kx_iload_n 35 C dX2_closedFrom_35 (lv_at hl 2 rfl) ?_
          exact kx_iret 36 C I hf dX2_closedFrom_36
        · have hf := ifp c4 hf
          refine kx_iload_n 23 C dX2_closedFrom_23 (lv_at hl 2 rfl) ?_
          refine kx_iconst 24 C dX2_closedFrom_24 ?_
          refine kx_iadd 25 C dX2_closedFrom_25 ?_
          refine kx_iload_n 26 C dX2_closedFrom_26 (lv_at hl 1 rfl) ?_
          obtain ⟨h5, hf⟩ := ifz hf
          refine kx_irem 27 C dX2_closedFrom_27 h5 ?_
          obtain ⟨x6, e7, hf⟩ := nmx_e hf
          refine kx_istore_n 28 C (lv' := [(3, .int (iI x6)), (0, .ref (xB G + p0)), (2, .int (iI i0)), (4, .int (iI i2))]) dX2_closedFrom_28 hl (by decide) e7 rfl (fun ls hl => ?_)
          obtain ⟨x8, e9, hf⟩ := nmx_e hf
          refine kx_iinc 29 C (lv' := [(4, .int (iI x8)), (3, .int (iI x6)), (0, .ref (xB G + p0)), (2, .int (iI i0))]) dX2_closedFrom_29 hl 3 rfl e9 (by decide) rfl (fun ls hl => ?_)
          refine kx_goto 32 5 C dX2_closedFrom_32 (by decide) ?_
          exact ih1 _ _ _ _ _ _ _ _ hf I (lv_sub hl [2, 3, 1, 0] rfl)
set_option maxHeartbeats 4000000 in
set_option maxRecDepth 100000 in
theorem c_X2_closedFrom (G : xG) (l : Launch) (fu : Nat) (S S' : xS) (p0 : Nat) (i0 : Int) (i1 : Int) (r : Int) (hf : f_X2_closedFrom fu S p0 i0 i1 = some (r, S')) : Met l yX2_closedFrom vsX2_closedFrom rm_X2_closedFrom (va_Pc [.ref (xB G + p0), .int (iI i0), .int (iI i1)] (xPre G S)) (xQi G r S') 0 0 (xA G) := by
  refine kx_met (ret := (some .int)) RX2 [(0, .ref (xB G + p0)), (1, .int (iI i0)), (2, .int (iI i1))] (by decide) rfl rfl (Nat.le_of_ble_eq_true rfl) rfl (fun p e s m below meth c ls C hin I hl => ?_)
  exact (w_X2_closedFrom C r S' fu).1 S _ _ _ _ _ _ _ hf I hl
def rm_X2_nextBox : Room := { frames := 1, cells := 0, slots := 0, locals := 24 }
theorem hin_X2_nextBox_RX1 : ∀ w ∈ wsX10, w ∈ vsX2_nextBox := fun w h => inM (inlX1 w h)
theorem hin_X2_nextBox_RX2 : ∀ w ∈ wsX20, w ∈ vsX2_nextBox := fun w h => inM (inlX2 w h)
theorem fl_X2_nextBox_15 : xFl vsX2_nextBox RX2 15 2 1 := ⟨RX2, TX2, 4, rfl, by decide, hin_X2_nextBox_RX2, inM mq_4_9, rfl⟩
theorem fl_X2_nextBox_31 : xFl vsX2_nextBox RX2 31 1 0 := ⟨RX1, TX1, 14, rfl, by decide, hin_X2_nextBox_RX1, inM mq_25_21, rfl⟩
theorem fl_X2_nextBox_38 : xFl vsX2_nextBox RX2 38 1 2 := ⟨RX1, TX1, 14, rfl, by decide, hin_X2_nextBox_RX1, inM mq_26_2, rfl⟩
theorem mw_X2_nextBox_0 : Cond.methodLink RX2 45 Lib.Math.max.name ∈ vsX2_nextBox := inM mq_26_3
theorem mw_X2_nextBox_1 : Cond.static Lib.Math.max.name ∈ vsX2_nextBox := inM mq_26_4
theorem mw_X2_nextBox_2 : Cond.initialized "java/lang/Math" ∈ vsX2_nextBox := inM mq_16_21
theorem mw_X2_nextBox_3 : Cond.code Lib.Math.max.name Lib.Math.max.code 2 (some .int) ∈ vsX2_nextBox := inM mq_26_5
theorem nyS_X2_nextBox : yX2_nextBox.cls ≠ "java/lang/invoke/MethodHandle" ∧ yX2_nextBox.cls ≠ "java/lang/invoke/VarHandle" ∧ (parseMethodDescriptor yX2_nextBox.desc).map (fun d => d.parameters.length) = some 4 := by decide +kernel
theorem nyV_X2_nextBox : yX2_nextBox.cls = RX2 ∧ yX2_nextBox.cls ≠ "java/lang/invoke/MethodHandle" ∧ yX2_nextBox.cls ≠ "java/lang/invoke/VarHandle" ∧ (parseMethodDescriptor yX2_nextBox.desc).map (fun d => d.parameters.length) = some 4 := by decide +kernel
set_option maxHeartbeats 4000000 in
set_option maxRecDepth 100000 in
theorem c_X2_nextBox (G : xG) (l : Launch) (fu : Nat) (S S' : xS) (p0 : Nat) (p1 : Nat) (i0 : Int) (i1 : Int) (i2 : Int) (r : Int) (hf : f_X2_nextBox fu S p0 p1 i0 i1 i2 = some (r, S')) : Met l yX2_nextBox vsX2_nextBox rm_X2_nextBox (va_Pc [.ref (xB G + p0), .ref (xB G + p1), .int (iI i0), .int (iI i1), .int (iI i2)] (xPre G S)) (xQi G r S') 0 0 (xA G) := by
  refine kx_met (ret := (some .int)) RX2 [(0, .ref (xB G + p0)), (1, .ref (xB G + p1)), (2, .int (iI i0)), (3, .int (iI i1)), (4, .int (iI i2))] (by decide) rfl rfl (Nat.le_of_ble_eq_true rfl) rfl (fun p e s m below meth c ls C hin I hl => ?_)
  unfold f_X2_nextBox at hf
  refine kx_aload_n 0 C dX2_nextBox_0 (lv_at hl 1 rfl) ?_
  obtain ⟨x2, h1, hf⟩ := ob hf
  refine kx_geti 1 C I fl_X2_nextBox_31 h1 dX2_nextBox_1 ?_
  refine kx_istore 4 C (lv' := [(5, .int (iI x2)), (0, .ref (xB G + p0)), (1, .ref (xB G + p1)), (2, .int (iI i0)), (3, .int (iI i1)), (4, .int (iI i2))]) dX2_nextBox_4 hl (by decide) rfl rfl (fun ls hl => ?_)
  refine kx_iload_n 6 C dX2_nextBox_6 (lv_at hl 3 rfl) ?_
  by_cases c3 : wI i0 = 1
  · have hf := ifp c3 hf
    refine kx_tabIn 7 40 C 1 dX2_nextBox_7 c3 (by decide) rfl (by decide) ?_
    refine kx_aload_n 40 C dX2_nextBox_40 (lv_at hl 1 rfl) ?_
    obtain ⟨x5, h4, hf⟩ := ob hf
    refine kx_geti 41 C I fl_X2_nextBox_15 h4 dX2_nextBox_41 ?_
    exact kx_iret 44 C I hf dX2_nextBox_44
  have hf := ifn c3 hf
  by_cases c6 : wI i0 = 2
  · have hf := ifp c6 hf
    refine kx_tabIn 7 45 C 2 dX2_nextBox_7 c6 (by decide) rfl (by decide) ?_
    refine kx_iload 45 C dX2_nextBox_45 (lv_at hl 0 rfl) ?_
    refine kx_iconst 47 C dX2_nextBox_47 ?_
    refine kx_isub 48 C dX2_nextBox_48 ?_
    refine kx_aload_n 49 C dX2_nextBox_49 (lv_at hl 1 rfl) ?_
    obtain ⟨x8, h7, hf⟩ := ob hf
    refine kx_geti 50 C I fl_X2_nextBox_15 h7 dX2_nextBox_50 ?_
    refine kx_isub 53 C dX2_nextBox_53 ?_
    exact kx_iret 54 C I hf dX2_nextBox_54
  have hf := ifn c6 hf
  by_cases c9 : wI i0 = 3
  · have hf := ifp c9 hf
    refine kx_tabIn 7 55 C 3 dX2_nextBox_7 c9 (by decide) rfl (by decide) ?_
    refine kx_iconst 55 C dX2_nextBox_55 ?_
    refine kx_aload_n 56 C dX2_nextBox_56 (lv_at hl 1 rfl) ?_
    obtain ⟨x11, h10, hf⟩ := ob hf
    refine kx_geti 57 C I fl_X2_nextBox_15 h10 dX2_nextBox_57 ?_
    refine kx_imul 60 C dX2_nextBox_60 ?_
    refine kx_iload 61 C dX2_nextBox_61 (lv_at hl 0 rfl) ?_
    refine kx_icmp_ge 63 75 C dX2_nextBox_63 (by decide) (fun c12 => ?_) (fun c12 => ?_)
    · have hf := ifp c12 hf
      refine kx_iconst 75 C dX2_nextBox_75 ?_
      refine kx_aload_n 76 C dX2_nextBox_76 (lv_at hl 1 rfl) ?_
      obtain ⟨x14, h13, hf⟩ := ob hf
      refine kx_geti 77 C I fl_X2_nextBox_15 h13 dX2_nextBox_77 ?_
      refine kx_iload 80 C dX2_nextBox_80 (lv_at hl 0 rfl) ?_
      refine kx_iconst 82 C dX2_nextBox_82 ?_
      refine kx_iadd 83 C dX2_nextBox_83 ?_
      refine kx_iconst 84 C dX2_nextBox_84 ?_
      obtain ⟨h15, hf⟩ := ifz hf
      refine kx_idiv 85 C dX2_nextBox_85 h15 ?_
      refine kx_isub 86 C dX2_nextBox_86 ?_
      refine kx_imul 87 C dX2_nextBox_87 ?_
      refine kx_iconst 88 C dX2_nextBox_88 ?_
      refine kx_iadd 89 C dX2_nextBox_89 ?_
      exact kx_iret 90 C I hf dX2_nextBox_90
    · have hf := ifn c12 hf
      refine kx_iconst 66 C dX2_nextBox_66 ?_
      refine kx_aload_n 67 C dX2_nextBox_67 (lv_at hl 1 rfl) ?_
      obtain ⟨x17, h16, hf⟩ := ob hf
      refine kx_geti 68 C I fl_X2_nextBox_15 h16 dX2_nextBox_68 ?_
      refine kx_imul 71 C dX2_nextBox_71 ?_
      refine kx_goto 72 90 C dX2_nextBox_72 (by decide) ?_
      exact kx_iret 90 C I hf dX2_nextBox_90
  have hf := ifn c9 hf
  by_cases c18 : wI i0 = 4
  · have hf := ifp c18 hf
    refine kx_tabIn 7 91 C 4 dX2_nextBox_7 c18 (by decide) rfl (by decide) ?_
    refine kx_aload_n 91 C dX2_nextBox_91 (lv_at hl 1 rfl) ?_
    refine kx_iload 92 C dX2_nextBox_92 (lv_at hl 5 rfl) ?_
    refine kx_aload_n 94 C dX2_nextBox_94 (lv_at hl 2 rfl) ?_
    obtain ⟨x20, h19, hf⟩ := ob hf
    refine kx_geti 95 C I fl_X2_nextBox_38 h19 dX2_nextBox_95 ?_
    refine kx_iadd 98 C dX2_nextBox_98 ?_
    refine kx_iload 99 C dX2_nextBox_99 (lv_at hl 0 rfl) ?_
    obtain ⟨h21, hf⟩ := ifz hf
    refine kx_irem 101 C dX2_nextBox_101 h21 ?_
    refine kx_iload 102 C dX2_nextBox_102 (lv_at hl 0 rfl) ?_
    obtain ⟨h25, hf⟩ := ift hf
    obtain ⟨x24, S22, h23, hf⟩ := ob2 hf
    refine kx_callVi 104 C hl I (ci := 2) (As := [.int (iI ((wI (i2 + x20)).tmod (wI x2))), .int (iI x2)]) (rest := []) (c_X2_closedFrom G l fu _ _ _ _ _ _ h23) (cwV 2 C.ts gX2_nextBox_X2_closedFrom rfl rfl rfl nyV_X2_closedFrom ⟨Nat.le_of_ble_eq_true rfl, Nat.le_of_ble_eq_true rfl⟩) rfl h25 rfl rfl (Nat.le_of_ble_eq_true rfl) dX2_nextBox_104 ⟨Nat.le_of_ble_eq_true rfl, Nat.le_of_ble_eq_true rfl⟩ (fun H locs I => ?_)
    exact kx_iret 107 C I hf dX2_nextBox_107
  have hf := ifn c18 hf
  by_cases c26 : wI i0 = 5
  · have hf := ifp c26 hf
    refine kx_tabIn 7 108 C 5 dX2_nextBox_7 c26 (by decide) rfl (by decide) ?_
    refine kx_aload_n 108 C dX2_nextBox_108 (lv_at hl 1 rfl) ?_
    obtain ⟨x28, h27, hf⟩ := ob hf
    refine kx_geti 109 C I fl_X2_nextBox_15 h27 dX2_nextBox_109 ?_
    refine kx_if_ne 112 119 C dX2_nextBox_112 (by decide) (fun c29 => ?_) (fun c29 => ?_)
    · have hf := ifn c29 hf
      refine kx_aload_n 119 C dX2_nextBox_119 (lv_at hl 1 rfl) ?_
      refine kx_iload_n 120 C dX2_nextBox_120 (lv_at hl 4 rfl) ?_
      refine kx_iconst 121 C dX2_nextBox_121 ?_
      refine kx_aload_n 122 C dX2_nextBox_122 (lv_at hl 2 rfl) ?_
      obtain ⟨x31, h30, hf⟩ := ob hf
      refine kx_geti 123 C I fl_X2_nextBox_38 h30 dX2_nextBox_123 ?_
      refine kx_mmax 126 C hl mw_X2_nextBox_0 mw_X2_nextBox_1 mw_X2_nextBox_2 mw_X2_nextBox_3 ⟨Nat.le_of_ble_eq_true rfl, Nat.le_of_ble_eq_true rfl⟩ ⟨Nat.le_of_ble_eq_true rfl, Nat.le_of_ble_eq_true rfl⟩ dX2_nextBox_126 ?_
      refine kx_iadd 129 C dX2_nextBox_129 ?_
      refine kx_iload 130 C dX2_nextBox_130 (lv_at hl 0 rfl) ?_
      obtain ⟨h32, hf⟩ := ifz hf
      refine kx_irem 132 C dX2_nextBox_132 h32 ?_
      refine kx_iload 133 C dX2_nextBox_133 (lv_at hl 0 rfl) ?_
      obtain ⟨h36, hf⟩ := ift hf
      obtain ⟨x35, S33, h34, hf⟩ := ob2 hf
      refine kx_callVi 135 C hl I (ci := 2) (As := [.int (iI ((wI (i1 + (xMax 1 x31))).tmod (wI x2))), .int (iI x2)]) (rest := []) (c_X2_closedFrom G l fu _ _ _ _ _ _ h34) (cwV 2 C.ts gX2_nextBox_X2_closedFrom rfl rfl rfl nyV_X2_closedFrom ⟨Nat.le_of_ble_eq_true rfl, Nat.le_of_ble_eq_true rfl⟩) rfl h36 rfl rfl (Nat.le_of_ble_eq_true rfl) dX2_nextBox_135 ⟨Nat.le_of_ble_eq_true rfl, Nat.le_of_ble_eq_true rfl⟩ (fun H locs I => ?_)
      exact kx_iret 138 C I hf dX2_nextBox_138
    · have hf := ifp c29 hf
      refine kx_iconst 115 C dX2_nextBox_115 ?_
      refine kx_goto 116 138 C dX2_nextBox_116 (by decide) ?_
      exact kx_iret 138 C I hf dX2_nextBox_138
  have hf := ifn c26 hf
  refine kx_tabOut 7 139 C dX2_nextBox_7 (by omega) (by decide) ?_
  refine kx_iload 139 C dX2_nextBox_139 (lv_at hl 5 rfl) ?_
  exact kx_iret 141 C I hf dX2_nextBox_141
def rm_X2_seek : Room := { frames := 2, cells := 0, slots := 0, locals := 49 }
theorem hin_X2_seek_RX1 : ∀ w ∈ wsX10, w ∈ vsX2_seek := fun w h => inM (inlX1 w h)
theorem hin_X2_seek_RX2 : ∀ w ∈ wsX20, w ∈ vsX2_seek := fun w h => inM (inlX2 w h)
theorem fl_X2_seek_9 : xFl vsX2_seek RX2 9 2 0 := ⟨RX2, TX2, 4, rfl, by decide, hin_X2_seek_RX2, inM mq_4_8, rfl⟩
theorem fl_X2_seek_15 : xFl vsX2_seek RX2 15 2 1 := ⟨RX2, TX2, 4, rfl, by decide, hin_X2_seek_RX2, inM mq_4_9, rfl⟩
theorem fl_X2_seek_19 : xFl vsX2_seek RX2 19 2 2 := ⟨RX2, TX2, 4, rfl, by decide, hin_X2_seek_RX2, inM mq_4_10, rfl⟩
theorem fl_X2_seek_23 : xFl vsX2_seek RX2 23 2 3 := ⟨RX2, TX2, 4, rfl, by decide, hin_X2_seek_RX2, inM mq_4_11, rfl⟩
theorem fl_X2_seek_26 : xFl vsX2_seek RX2 26 1 1 := ⟨RX1, TX1, 14, rfl, by decide, hin_X2_seek_RX1, inM mq_25_20, rfl⟩
theorem fl_X2_seek_31 : xFl vsX2_seek RX2 31 1 0 := ⟨RX1, TX1, 14, rfl, by decide, hin_X2_seek_RX1, inM mq_25_21, rfl⟩
theorem nyS_X2_seek : yX2_seek.cls ≠ "java/lang/invoke/MethodHandle" ∧ yX2_seek.cls ≠ "java/lang/invoke/VarHandle" ∧ (parseMethodDescriptor yX2_seek.desc).map (fun d => d.parameters.length) = some 4 := by decide +kernel
theorem nyV_X2_seek : yX2_seek.cls = RX2 ∧ yX2_seek.cls ≠ "java/lang/invoke/MethodHandle" ∧ yX2_seek.cls ≠ "java/lang/invoke/VarHandle" ∧ (parseMethodDescriptor yX2_seek.desc).map (fun d => d.parameters.length) = some 4 := by decide +kernel
set_option maxHeartbeats 4000000 in
set_option maxRecDepth 100000 in
theorem w_X2_seek {G : xG} {p : Program} {l : Launch} {e : Env} {s : State} {m : MethodId} {args : Array Value} {below : List Frame} {meth : Method} {c : Code} (C : xK G p s m args meth c cX2_seek 7 vsX2_seek RX2 none) (r : Int) (S' : xS) : ∀ k : Nat,
  (∀ (S : xS) (p0 p1 p2 p3 : Nat) (i0 i1 i2 i3 i4 : Int) (H : Heap) (locs : List Loc) (ls : Array Slot), g_X2_seek k 0 S p0 p1 p2 p3 i0 i1 i2 i3 i4 = some (r, S') → xI G S s H locs → lv_has ls 7 [(0, .ref (xB G + p0)), (1, .ref (xB G + p1)), (2, .ref (xB G + p2)), (3, .int (iI i0)), (4, .int (iI i1))] → W p l e rm_X2_seek s m args below meth c H locs 0 0 (MQ below (xQv G S') args s 0 0 (xA G)) (F0 m 0 ls [])) ∧
  (∀ (S : xS) (p0 p1 p2 p3 : Nat) (i0 i1 i2 i3 i4 : Int) (H : Heap) (locs : List Loc) (ls : Array Slot), g_X2_seek k 1 S p0 p1 p2 p3 i0 i1 i2 i3 i4 = some (r, S') → xI G S s H locs → lv_has ls 7 [(0, .ref (xB G + p0)), (1, .ref (xB G + p1)), (2, .ref (xB G + p2)), (3, .int (iI i0)), (4, .int (iI i1)), (5, .int (iI i2)), (6, .int (iI i3))] → W p l e rm_X2_seek s m args below meth c H locs 0 0 (MQ below (xQv G S') args s 0 0 (xA G)) (F0 m 21 ls [])) ∧
  (∀ (S : xS) (p0 p1 p2 p3 : Nat) (i0 i1 i2 i3 i4 : Int) (H : Heap) (locs : List Loc) (ls : Array Slot), g_X2_seek k 2 S p0 p1 p2 p3 i0 i1 i2 i3 i4 = some (r, S') → xI G S s H locs → lv_has ls 7 [(0, .ref (xB G + p0)), (1, .ref (xB G + p1)), (2, .ref (xB G + p2)), (3, .int (iI i0)), (4, .int (iI i1)), (5, .int (iI i2)), (6, .int (iI i3))] → W p l e rm_X2_seek s m args below meth c H locs 0 0 (MQ below (xQv G S') args s 0 0 (xA G)) (F0 m 115 ls [.int (iI i4), .ref (xB G + p3)])) := by
  intro k
  induction k with
  | zero => exact ⟨fun _ _ _ _ _ _ _ _ _ _ _ _ _ hf => (by cases hf), fun _ _ _ _ _ _ _ _ _ _ _ _ _ hf => (by cases hf), fun _ _ _ _ _ _ _ _ _ _ _ _ _ hf => (by cases hf)⟩
  | succ fu ih =>
    obtain ⟨ih0, ih1, ih2⟩ := ih
    refine ⟨?_, ?_, ?_⟩
    · intro S p0 p1 p2 p3 i0 i1 i2 i3 i4 H locs ls hf I hl
      replace hf : b_X2_seek_0 (g_X2_seek fu) fu S p0 p1 p2 p3 i0 i1 i2 i3 i4 = some (r, S') := hf
      unfold b_X2_seek_0 at hf
      refine kx_aload_n 0 C dX2_seek_0 (lv_at hl 0 rfl) ?_
      refine kx_iconst 1 C dX2_seek_1 ?_
      obtain ⟨S2, h1, hf⟩ := ob hf
      refine kx_puti 2 C I fl_X2_seek_15 fw_RX2_1 h1 dX2_seek_2 (fun H locs I => ?_)
      refine kx_aload_n 5 C dX2_seek_5 (lv_at hl 0 rfl) ?_
      refine kx_iconst 6 C dX2_seek_6 ?_
      obtain ⟨S4, h3, hf⟩ := ob hf
      refine kx_putz 7 C I fl_X2_seek_19 fw_RX2_2 (by decide) h3 dX2_seek_7 (fun H locs I => ?_)
      refine kx_aload_n 10 C dX2_seek_10 (lv_at hl 0 rfl) ?_
      refine kx_iconst 11 C dX2_seek_11 ?_
      obtain ⟨S7, h6, hf⟩ := ob hf
      refine kx_puti 12 C I fl_X2_seek_23 fw_RX2_3 h6 dX2_seek_12 (fun H locs I => ?_)
      refine kx_iconst 15 C dX2_seek_15 ?_
      refine kx_istore 16 C (lv' := [(5, .int (iI 0)), (0, .ref (xB G + p0)), (1, .ref (xB G + p1)), (2, .ref (xB G + p2)), (3, .int (iI i0)), (4, .int (iI i1))]) dX2_seek_16 hl (by decide) rfl rfl (fun ls hl => ?_)
      refine kx_iload_n 18 C dX2_seek_18 (lv_at hl 4 rfl) ?_
      refine kx_istore 19 C (lv' := [(6, .int (iI i0)), (5, .int (iI 0)), (0, .ref (xB G + p0)), (1, .ref (xB G + p1)), (2, .ref (xB G + p2)), (3, .int (iI i0)), (4, .int (iI i1))]) dX2_seek_19 hl (by decide) rfl rfl (fun ls hl => ?_)
      exact ih1 _ _ _ _ _ _ _ _ _ _ _ _ _ hf I (lv_sub hl [2, 3, 4, 5, 6, 1, 0] rfl)
    · intro S p0 p1 p2 p3 i0 i1 i2 i3 i4 H locs ls hf I hl
      replace hf : b_X2_seek_1 (g_X2_seek fu) fu S p0 p1 p2 p3 i0 i1 i2 i3 i4 = some (r, S') := hf
      unfold b_X2_seek_1 at hf
      refine kx_aload_n 21 C dX2_seek_21 (lv_at hl 0 rfl) ?_
      obtain ⟨x9, h8, hf⟩ := ob hf
      refine kx_geti 22 C I fl_X2_seek_15 h8 dX2_seek_22 ?_
      refine kx_aload_n 25 C dX2_seek_25 (lv_at hl 1 rfl) ?_
      obtain ⟨x11, h10, hf⟩ := ob hf
      refine kx_geti 26 C I fl_X2_seek_26 h10 dX2_seek_26 ?_
      refine kx_icmp_ge 29 121 C dX2_seek_29 (by decide) (fun c12 => ?_) (fun c12 => ?_)
      · have hf := ifp c12 hf
        exact kx_vret 121 C I hf dX2_seek_121
      · have hf := ifn c12 hf
        refine kx_aload_n 32 C dX2_seek_32 (lv_at hl 0 rfl) ?_
        obtain ⟨x14, h13, hf⟩ := ob hf
        refine kx_geti 33 C I fl_X2_seek_15 h13 dX2_seek_33 ?_
        refine kx_aload_n 36 C dX2_seek_36 (lv_at hl 1 rfl) ?_
        obtain ⟨x16, h15, hf⟩ := ob hf
        refine kx_geti 37 C I fl_X2_seek_31 h15 dX2_seek_37 ?_
        refine kx_icmp_ge 40 121 C dX2_seek_40 (by decide) (fun c17 => ?_) (fun c17 => ?_)
        · have hf := ifp c17 hf
          exact kx_vret 121 C I hf dX2_seek_121
        · have hf := ifn c17 hf
          refine kx_aload_n 43 C dX2_seek_43 (lv_at hl 0 rfl) ?_
          obtain ⟨x19, h18, hf⟩ := ob hf
          refine kx_geti 44 C I fl_X2_seek_19 h18 dX2_seek_44 ?_
          refine kx_if_ne 47 121 C dX2_seek_47 (by decide) (fun c20 => ?_) (fun c20 => ?_)
          · have hf := ifn c20 hf
            exact kx_vret 121 C I hf dX2_seek_121
          · have hf := ifp c20 hf
            refine kx_aload_n 50 C dX2_seek_50 (lv_at hl 0 rfl) ?_
            refine kx_aload_n 51 C dX2_seek_51 (lv_at hl 1 rfl) ?_
            refine kx_iload 52 C dX2_seek_52 (lv_at hl 4 rfl) ?_
            refine kx_iload 54 C dX2_seek_54 (lv_at hl 5 rfl) ?_
            refine kx_iload 56 C dX2_seek_56 (lv_at hl 6 rfl) ?_
            obtain ⟨h24, hf⟩ := ift hf
            obtain ⟨x23, S21, h22, hf⟩ := ob2 hf
            refine kx_callVi 58 C hl I (ci := 2) (As := [.ref (xB G + p1), .int (iI i1), .int (iI i2), .int (iI i3)]) (rest := []) (c_X2_nextBox G l fu _ _ _ _ _ _ _ _ h22) (cwV 4 C.ts gX2_seek_X2_nextBox rfl rfl rfl nyV_X2_nextBox ⟨Nat.le_of_ble_eq_true rfl, Nat.le_of_ble_eq_true rfl⟩) rfl h24 rfl rfl (Nat.le_of_ble_eq_true rfl) dX2_seek_58 ⟨Nat.le_of_ble_eq_true rfl, Nat.le_of_ble_eq_true rfl⟩ (fun H locs I => ?_)
            refine kx_istore 61 C (lv' := [(5, .int (iI x23)), (0, .ref (xB G + p0)), (1, .ref (xB G + p1)), (2, .ref (xB G + p2)), (3, .int (iI i0)), (4, .int (iI i1)), (6, .int (iI i3))]) dX2_seek_61 hl (by decide) rfl rfl (fun ls hl => ?_)
            refine kx_aload_n 63 C dX2_seek_63 (lv_at hl 1 rfl) ?_
            obtain ⟨q26, h25, hf⟩ := ob hf
            refine kx_getp 64 C I fl_X2_seek_9 h25 dX2_seek_64 ?_
            refine kx_aload_n 67 C dX2_seek_67 (lv_at hl 1 rfl) ?_
            obtain ⟨x28, h27, hf⟩ := ob hf
            refine kx_geti 68 C I fl_X2_seek_15 h27 dX2_seek_68 ?_
            refine kx_iload 71 C dX2_seek_71 (lv_at hl 0 rfl) ?_
            obtain ⟨S30, h29, hf⟩ := ob hf
            refine kx_iast 73 C I h29 dX2_seek_73 (fun H locs I => ?_)
            refine kx_aload_n 74 C dX2_seek_74 (lv_at hl 1 rfl) ?_
            refine kx_dup 75 C dX2_seek_75 rfl ?_
            obtain ⟨x32, h31, hf⟩ := ob hf
            refine kx_geti 76 C I fl_X2_seek_15 h31 dX2_seek_76 ?_
            refine kx_iconst 79 C dX2_seek_79 ?_
            refine kx_iadd 80 C dX2_seek_80 ?_
            obtain ⟨S34, h33, hf⟩ := ob hf
            refine kx_puti 81 C I fl_X2_seek_15 fw_RX2_1 h33 dX2_seek_81 (fun H locs I => ?_)
            refine kx_aload_n 84 C dX2_seek_84 (lv_at hl 1 rfl) ?_
            refine kx_dup 85 C dX2_seek_85 rfl ?_
            obtain ⟨x36, h35, hf⟩ := ob hf
            refine kx_geti 86 C I fl_X2_seek_23 h35 dX2_seek_86 ?_
            refine kx_iconst 89 C dX2_seek_89 ?_
            refine kx_iload 90 C dX2_seek_90 (lv_at hl 0 rfl) ?_
            refine kx_ishl 92 C dX2_seek_92 ?_
            refine kx_ior 93 C dX2_seek_93 ?_
            obtain ⟨S38, h37, hf⟩ := ob hf
            refine kx_puti 94 C I fl_X2_seek_23 fw_RX2_3 h37 dX2_seek_94 (fun H locs I => ?_)
            refine kx_aload_n 97 C dX2_seek_97 (lv_at hl 3 rfl) ?_
            refine kx_iload 98 C dX2_seek_98 (lv_at hl 0 rfl) ?_
            obtain ⟨x39, h40, hf⟩ := ob hf
            refine kx_iald 100 C I h40 dX2_seek_100 ?_
            refine kx_istore 101 C (lv' := [(6, .int (iI x39)), (5, .int (iI x23)), (0, .ref (xB G + p0)), (1, .ref (xB G + p1)), (2, .ref (xB G + p2)), (3, .int (iI i0)), (4, .int (iI i1))]) dX2_seek_101 hl (by decide) rfl rfl (fun ls hl => ?_)
            refine kx_aload_n 103 C dX2_seek_103 (lv_at hl 2 rfl) ?_
            refine kx_iload 104 C dX2_seek_104 (lv_at hl 0 rfl) ?_
            refine kx_iload_n 106 C dX2_seek_106 (lv_at hl 5 rfl) ?_
            refine kx_icmp_ne 107 114 C dX2_seek_107 (by decide) (fun c41 => ?_) (fun c41 => ?_)
            · have hf := ifn c41 hf
              refine kx_iconst 114 C dX2_seek_114 ?_
              exact ih2 _ _ _ _ _ _ _ _ _ _ _ _ _ hf I (lv_sub hl [2, 3, 4, 5, 6, 1, 0] rfl)
            · have hf := ifp c41 hf
              refine kx_iconst 110 C dX2_seek_110 ?_
              refine kx_goto 111 115 C dX2_seek_111 (by decide) ?_
              exact ih2 _ _ _ _ _ _ _ _ _ _ _ _ _ hf I (lv_sub hl [2, 3, 4, 5, 6, 1, 0] rfl)
    · intro S p0 p1 p2 p3 i0 i1 i2 i3 i4 H locs ls hf I hl
      replace hf : b_X2_seek_2 (g_X2_seek fu) fu S p0 p1 p2 p3 i0 i1 i2 i3 i4 = some (r, S') := hf
      unfold b_X2_seek_2 at hf
      obtain ⟨h44, hf⟩ := ift hf
      obtain ⟨S43, h42, hf⟩ := ob hf
      refine kx_putz 115 C I fl_X2_seek_19 fw_RX2_2 h44 h42 dX2_seek_115 (fun H locs I => ?_)
      refine kx_goto 118 21 C dX2_seek_118 (by decide) ?_
      exact ih1 _ _ _ _ _ _ _ _ _ _ _ _ _ hf I (lv_sub hl [0, 1, 2, 3, 4, 5, 6] rfl)
set_option maxHeartbeats 4000000 in
set_option maxRecDepth 100000 in
theorem c_X2_seek (G : xG) (l : Launch) (fu : Nat) (S S' : xS) (p0 : Nat) (p1 : Nat) (p2 : Nat) (i0 : Int) (i1 : Int) (r : Int) (hf : f_X2_seek fu S p0 p1 p2 i0 i1 = some (r, S')) : Met l yX2_seek vsX2_seek rm_X2_seek (va_Pc [.ref (xB G + p0), .ref (xB G + p1), .ref (xB G + p2), .int (iI i0), .int (iI i1)] (xPre G S)) (xQv G S') 0 0 (xA G) := by
  refine kx_met (ret := none) RX2 [(0, .ref (xB G + p0)), (1, .ref (xB G + p1)), (2, .ref (xB G + p2)), (3, .int (iI i0)), (4, .int (iI i1))] (by decide) rfl rfl (Nat.le_of_ble_eq_true rfl) rfl (fun p e s m below meth c ls C hin I hl => ?_)
  exact (w_X2_seek C r S' fu).1 S _ _ _ _ _ _ _ _ _ _ _ _ hf I hl
def rm_X3_init : Room := { frames := 1, cells := 1, slots := 150, locals := 20 }
theorem hin_X3_init_RX3 : ∀ w ∈ wsX30, w ∈ vsX3_init := fun w h => inM (inlX3 w h)
theorem fl_X3_init_9 : xFl vsX3_init RX3 9 3 0 := ⟨RX3, TX3, 6, rfl, by decide, hin_X3_init_RX3, inM mq_3_22, rfl⟩
theorem fl_X3_init_15 : xFl vsX3_init RX3 15 3 1 := ⟨RX3, TX3, 6, rfl, by decide, hin_X3_init_RX3, inM mq_3_23, rfl⟩
theorem fl_X3_init_19 : xFl vsX3_init RX3 19 3 2 := ⟨RX3, TX3, 6, rfl, by decide, hin_X3_init_RX3, inM mq_4_0, rfl⟩
theorem fl_X3_init_22 : xFl vsX3_init RX3 22 3 3 := ⟨RX3, TX3, 6, rfl, by decide, hin_X3_init_RX3, inM mq_4_1, rfl⟩
theorem fl_X3_init_25 : xFl vsX3_init RX3 25 3 4 := ⟨RX3, TX3, 6, rfl, by decide, hin_X3_init_RX3, inM mq_4_2, rfl⟩
theorem fl_X3_init_28 : xFl vsX3_init RX3 28 3 5 := ⟨RX3, TX3, 6, rfl, by decide, hin_X3_init_RX3, inM mq_4_3, rfl⟩
theorem mw_X3_init_0 : Cond.methodLink RX3 3 objectInit ∈ vsX3_init := inM mq_3_20
theorem mw_X3_init_1 : Cond.instanceMethod objectInit ∈ vsX3_init := inM mq_1_10
theorem mw_X3_init_2 : Cond.code objectInit ⟨#[0xb1]⟩ 1 none ∈ vsX3_init := inM mq_1_11
theorem mw_X3_init_3 : Cond.arrayClass .byte ∈ vsX3_init := inM mq_3_21
theorem nyS_X3_init : yX3_init.cls ≠ "java/lang/invoke/MethodHandle" ∧ yX3_init.cls ≠ "java/lang/invoke/VarHandle" ∧ (parseMethodDescriptor yX3_init.desc).map (fun d => d.parameters.length) = some 0 := by decide +kernel
set_option maxHeartbeats 4000000 in
set_option maxRecDepth 100000 in
theorem c_X3_init (G : xG) (l : Launch) (fu : Nat) (S S' : xS) (p0 : Nat) (r : Int) (hf : f_X3_init fu S p0 = some (r, S')) : Met l yX3_init vsX3_init rm_X3_init (va_Pc [.ref (xB G + p0)] (xPre G S)) (xQv G S') 1 150 (xA G) := by
  refine kx_met (ret := none) RX3 [(0, .ref (xB G + p0))] (by decide) rfl rfl (Nat.le_of_ble_eq_true rfl) rfl (fun p e s m below meth c ls C hin I hl => ?_)
  have hin := hin rfl
  unfold f_X3_init at hf
  refine kx_aload_n 0 C dX3_init_0 (lv_at hl 0 rfl) ?_
  refine kx_objInit 1 C hl mw_X3_init_0 mw_X3_init_1 mw_X3_init_2 ⟨Nat.le_of_ble_eq_true rfl, Nat.le_of_ble_eq_true rfl⟩ dX3_init_1 ?_
  refine kx_aload_n 4 C dX3_init_4 (lv_at hl 0 rfl) ?_
  refine kx_sipush 5 C dX3_init_5 (by decide) ?_
  obtain ⟨S1, eS1, hf⟩ := nmx_e hf
  refine kx_newa 8 C I (ty := .byte) 1 150 rfl rfl rfl (fun _ _ h => h) mw_X3_init_3 rfl (Nat.le_of_ble_eq_true rfl) (by decide) ⟨Nat.le_of_ble_eq_true rfl, Nat.le_of_ble_eq_true rfl⟩ dX3_init_8 (fun H I => ?_)
  rw [← eS1] at I
  obtain ⟨S3, h2, hf⟩ := ob hf
  refine kx_putFp 10 C I fl_X3_init_9 fw_RX3_0 hin rfl (fun _ => ⟨rfl, rfl⟩) h2 dX3_init_10 (fun H locs I => ?_)
  refine kx_aload_n 13 C dX3_init_13 (lv_at hl 0 rfl) ?_
  refine kx_iconst 14 C dX3_init_14 ?_
  obtain ⟨S5, h4, hf⟩ := ob hf
  refine kx_puti 15 C I fl_X3_init_15 fw_RX3_1 h4 dX3_init_15 (fun H locs I => ?_)
  refine kx_aload_n 18 C dX3_init_18 (lv_at hl 0 rfl) ?_
  refine kx_iconst 19 C dX3_init_19 ?_
  obtain ⟨S7, h6, hf⟩ := ob hf
  refine kx_puti 20 C I fl_X3_init_19 fw_RX3_2 h6 dX3_init_20 (fun H locs I => ?_)
  refine kx_aload_n 23 C dX3_init_23 (lv_at hl 0 rfl) ?_
  refine kx_iconst 24 C dX3_init_24 ?_
  obtain ⟨S9, h8, hf⟩ := ob hf
  refine kx_puti 25 C I fl_X3_init_22 fw_RX3_3 h8 dX3_init_25 (fun H locs I => ?_)
  refine kx_aload_n 28 C dX3_init_28 (lv_at hl 0 rfl) ?_
  refine kx_iconst 29 C dX3_init_29 ?_
  obtain ⟨S11, h10, hf⟩ := ob hf
  refine kx_puti 30 C I fl_X3_init_25 fw_RX3_4 h10 dX3_init_30 (fun H locs I => ?_)
  refine kx_aload_n 33 C dX3_init_33 (lv_at hl 0 rfl) ?_
  refine kx_iconst 34 C dX3_init_34 ?_
  obtain ⟨S13, h12, hf⟩ := ob hf
  refine kx_puti 35 C I fl_X3_init_28 fw_RX3_5 h12 dX3_init_35 (fun H locs I => ?_)
  exact kx_vret 38 C I hf dX3_init_38
def rm_X3_isWithin : Room := { frames := 0, cells := 0, slots := 0, locals := 0 }
theorem nyS_X3_isWithin : yX3_isWithin.cls ≠ "java/lang/invoke/MethodHandle" ∧ yX3_isWithin.cls ≠ "java/lang/invoke/VarHandle" ∧ (parseMethodDescriptor yX3_isWithin.desc).map (fun d => d.parameters.length) = some 3 := by decide +kernel
set_option maxHeartbeats 4000000 in
set_option maxRecDepth 100000 in
theorem w_X3_isWithin {G : xG} {p : Program} {l : Launch} {e : Env} {s : State} {m : MethodId} {args : Array Value} {below : List Frame} {meth : Method} {c : Code} (C : xK G p s m args meth c cX3_isWithin 3 vsX3_isWithin RX3 (some .boolean)) (r : Int) (S' : xS) : ∀ k : Nat,
  (∀ (S : xS) (i0 i1 i2 : Int) (H : Heap) (locs : List Loc) (ls : Array Slot), g_X3_isWithin k 0 S i0 i1 i2 = some (r, S') → xI G S s H locs → lv_has ls 3 [(0, .int (iI i0)), (1, .int (iI i1)), (2, .int (iI i2))] → W p l e rm_X3_isWithin s m args below meth c H locs 0 0 (MQ below (xQi G r S') args s 0 0 (xA G)) (F0 m 0 ls [])) ∧
  (∀ (S : xS) (i0 i1 i2 : Int) (H : Heap) (locs : List Loc) (ls : Array Slot), g_X3_isWithin k 1 S i0 i1 i2 = some (r, S') → xI G S s H locs → lv_has ls 3 [] → W p l e rm_X3_isWithin s m args below meth c H locs 0 0 (MQ below (xQi G r S') args s 0 0 (xA G)) (F0 m 14 ls [])) := by
  intro k
  induction k with
  | zero => exact ⟨fun _ _ _ _ _ _ _ hf => (by cases hf), fun _ _ _ _ _ _ _ hf => (by cases hf)⟩
  | succ fu ih =>
    obtain ⟨ih0, ih1⟩ := ih
    refine ⟨?_, ?_⟩
    · intro S i0 i1 i2 H locs ls hf I hl
      replace hf : b_X3_isWithin_0 (g_X3_isWithin fu) fu S i0 i1 i2 = some (r, S') := hf
      unfold b_X3_isWithin_0 at hf
      refine kx_iload_n 0 C dX3_isWithin_0 (lv_at hl 0 rfl) ?_
      refine kx_iload_n 1 C dX3_isWithin_1 (lv_at hl 1 rfl) ?_
      refine kx_icmp_lt 2 14 C dX3_isWithin_2 (by decide) (fun c1 => ?_) (fun c1 => ?_)
      · have hf := ifp c1 hf
        exact ih1 _ _ _ _ _ _ _ hf I (lv_sub hl [] rfl)
      · have hf := ifn c1 hf
        refine kx_iload_n 5 C dX3_isWithin_5 (lv_at hl 0 rfl) ?_
        refine kx_iload_n 6 C dX3_isWithin_6 (lv_at hl 2 rfl) ?_
        refine kx_icmp_gt 7 14 C dX3_isWithin_7 (by decide) (fun c2 => ?_) (fun c2 => ?_)
        · have hf := ifp c2 hf
          exact ih1 _ _ _ _ _ _ _ hf I (lv_sub hl [] rfl)
        · have hf := ifn c2 hf
          refine kx_iconst 10 C dX3_isWithin_10 ?_
          refine kx_goto 11 15 C dX3_isWithin_11 (by decide) ?_
          exact kx_zret 15 C I (by decide) hf dX3_isWithin_15
    · intro S i0 i1 i2 H locs ls hf I hl
      replace hf : b_X3_isWithin_1 (g_X3_isWithin fu) fu S i0 i1 i2 = some (r, S') := hf
      unfold b_X3_isWithin_1 at hf
      refine kx_iconst 14 C dX3_isWithin_14 ?_
      exact kx_zret 15 C I (by decide) hf dX3_isWithin_15
set_option maxHeartbeats 4000000 in
set_option maxRecDepth 100000 in
theorem c_X3_isWithin (G : xG) (l : Launch) (fu : Nat) (S S' : xS) (i0 : Int) (i1 : Int) (i2 : Int) (r : Int) (hf : f_X3_isWithin fu S i0 i1 i2 = some (r, S')) : Met l yX3_isWithin vsX3_isWithin rm_X3_isWithin (va_Pc [.int (iI i0), .int (iI i1), .int (iI i2)] (xPre G S)) (xQi G r S') 0 0 (xA G) := by
  refine kx_met (ret := (some .boolean)) RX3 [(0, .int (iI i0)), (1, .int (iI i1)), (2, .int (iI i2))] (by decide) rfl rfl (Nat.le_of_ble_eq_true rfl) rfl (fun p e s m below meth c ls C hin I hl => ?_)
  exact (w_X3_isWithin C r S' fu).1 S _ _ _ _ _ _ hf I hl
def rm_X3_takeWord : Room := { frames := 1, cells := 0, slots := 0, locals := 22 }
theorem hin_X3_takeWord_RX3 : ∀ w ∈ wsX30, w ∈ vsX3_takeWord := fun w h => inM (inlX3 w h)
theorem fl_X3_takeWord_9 : xFl vsX3_takeWord RX3 9 3 0 := ⟨RX3, TX3, 6, rfl, by decide, hin_X3_takeWord_RX3, inM mq_3_22, rfl⟩
theorem fl_X3_takeWord_15 : xFl vsX3_takeWord RX3 15 3 1 := ⟨RX3, TX3, 6, rfl, by decide, hin_X3_takeWord_RX3, inM mq_3_23, rfl⟩
theorem fl_X3_takeWord_19 : xFl vsX3_takeWord RX3 19 3 2 := ⟨RX3, TX3, 6, rfl, by decide, hin_X3_takeWord_RX3, inM mq_4_0, rfl⟩
theorem fl_X3_takeWord_22 : xFl vsX3_takeWord RX3 22 3 3 := ⟨RX3, TX3, 6, rfl, by decide, hin_X3_takeWord_RX3, inM mq_4_1, rfl⟩
theorem nyS_X3_takeWord : yX3_takeWord.cls ≠ "java/lang/invoke/MethodHandle" ∧ yX3_takeWord.cls ≠ "java/lang/invoke/VarHandle" ∧ (parseMethodDescriptor yX3_takeWord.desc).map (fun d => d.parameters.length) = some 0 := by decide +kernel
theorem nyV_X3_takeWord : yX3_takeWord.cls = RX3 ∧ yX3_takeWord.cls ≠ "java/lang/invoke/MethodHandle" ∧ yX3_takeWord.cls ≠ "java/lang/invoke/VarHandle" ∧ (parseMethodDescriptor yX3_takeWord.desc).map (fun d => d.parameters.length) = some 0 := by decide +kernel
set_option maxHeartbeats 4000000 in
set_option maxRecDepth 100000 in
theorem w_X3_takeWord {G : xG} {p : Program} {l : Launch} {e : Env} {s : State} {m : MethodId} {args : Array Value} {below : List Frame} {meth : Method} {c : Code} (C : xK G p s m args meth c cX3_takeWord 1 vsX3_takeWord RX3 none) (r : Int) (S' : xS) : ∀ k : Nat,
  (∀ (S : xS) (p0 : Nat) (H : Heap) (locs : List Loc) (ls : Array Slot), g_X3_takeWord k 0 S p0 = some (r, S') → xI G S s H locs → lv_has ls 1 [(0, .ref (xB G + p0))] → W p l e rm_X3_takeWord s m args below meth c H locs 0 0 (MQ below (xQv G S') args s 0 0 (xA G)) (F0 m 0 ls [])) ∧
  (∀ (S : xS) (p0 : Nat) (H : Heap) (locs : List Loc) (ls : Array Slot), g_X3_takeWord k 1 S p0 = some (r, S') → xI G S s H locs → lv_has ls 1 [(0, .ref (xB G + p0))] → W p l e rm_X3_takeWord s m args below meth c H locs 0 0 (MQ below (xQv G S') args s 0 0 (xA G)) (F0 m 5 ls [])) := by
  intro k
  induction k with
  | zero => exact ⟨fun _ _ _ _ _ hf => (by cases hf), fun _ _ _ _ _ hf => (by cases hf)⟩
  | succ fu ih =>
    obtain ⟨ih0, ih1⟩ := ih
    refine ⟨?_, ?_⟩
    · intro S p0 H locs ls hf I hl
      replace hf : b_X3_takeWord_0 (g_X3_takeWord fu) fu S p0 = some (r, S') := hf
      unfold b_X3_takeWord_0 at hf
      refine kx_aload_n 0 C dX3_takeWord_0 (lv_at hl 0 rfl) ?_
      refine kx_iconst 1 C dX3_takeWord_1 ?_
      obtain ⟨S2, h1, hf⟩ := ob hf
      refine kx_puti 2 C I fl_X3_takeWord_22 fw_RX3_3 h1 dX3_takeWord_2 (fun H locs I => ?_)
      exact ih1 _ _ _ _ _ hf I (lv_sub hl [0] rfl)
    · intro S p0 H locs ls hf I hl
      replace hf : b_X3_takeWord_1 (g_X3_takeWord fu) fu S p0 = some (r, S') := hf
      unfold b_X3_takeWord_1 at hf
      refine kx_aload_n 5 C dX3_takeWord_5 (lv_at hl 0 rfl) ?_
      obtain ⟨x4, h3, hf⟩ := ob hf
      refine kx_geti 6 C I fl_X3_takeWord_19 h3 dX3_takeWord_6 ?_
      refine kx_aload_n 9 C dX3_takeWord_9 (lv_at hl 0 rfl) ?_
      obtain ⟨x6, h5, hf⟩ := ob hf
      refine kx_geti 10 C I fl_X3_takeWord_15 h5 dX3_takeWord_10 ?_
      refine kx_icmp_ge 13 48 C dX3_takeWord_13 (by decide) (fun c7 => ?_) (fun c7 => ?_)
      · have hf := ifp c7 hf
        exact kx_vret 48 C I hf dX3_takeWord_48
      · have hf := ifn c7 hf
        refine kx_aload_n 16 C dX3_takeWord_16 (lv_at hl 0 rfl) ?_
        obtain ⟨q9, h8, hf⟩ := ob hf
        refine kx_getp 17 C I fl_X3_takeWord_9 h8 dX3_takeWord_17 ?_
        refine kx_aload_n 20 C dX3_takeWord_20 (lv_at hl 0 rfl) ?_
        obtain ⟨x11, h10, hf⟩ := ob hf
        refine kx_geti 21 C I fl_X3_takeWord_19 h10 dX3_takeWord_21 ?_
        obtain ⟨x12, h13, hf⟩ := ob hf
        refine kx_bald 24 C I h13 dX3_takeWord_24 ?_
        refine kx_bipush 25 C dX3_takeWord_25 (by decide) ?_
        refine kx_bipush 27 C dX3_takeWord_27 (by decide) ?_
        obtain ⟨x16, S14, h15, hf⟩ := ob2 hf
        refine kx_callSi 29 C hl I (As := [.int (iI x12), .int (iI 97), .int (iI 122)]) (rest := []) (c_X3_isWithin G l fu _ _ _ _ _ _ h15) (va_cwS 3 C.ts gX3_takeWord_X3_isWithin rfl rfl rfl nyS_X3_isWithin ⟨Nat.le_of_ble_eq_true rfl, Nat.le_of_ble_eq_true rfl⟩) rfl rfl (Nat.le_of_ble_eq_true rfl) dX3_takeWord_29 ⟨Nat.le_of_ble_eq_true rfl, Nat.le_of_ble_eq_true rfl⟩ (fun H locs I => ?_)
        refine kx_if_eq 32 48 C dX3_takeWord_32 (by decide) (fun c17 => ?_) (fun c17 => ?_)
        · have hf := ifp c17 hf
          exact kx_vret 48 C I hf dX3_takeWord_48
        · have hf := ifn c17 hf
          refine kx_aload_n 35 C dX3_takeWord_35 (lv_at hl 0 rfl) ?_
          refine kx_dup 36 C dX3_takeWord_36 rfl ?_
          obtain ⟨x19, h18, hf⟩ := ob hf
          refine kx_geti 37 C I fl_X3_takeWord_19 h18 dX3_takeWord_37 ?_
          refine kx_iconst 40 C dX3_takeWord_40 ?_
          refine kx_iadd 41 C dX3_takeWord_41 ?_
          obtain ⟨S21, h20, hf⟩ := ob hf
          refine kx_puti 42 C I fl_X3_takeWord_19 fw_RX3_2 h20 dX3_takeWord_42 (fun H locs I => ?_)
          refine kx_goto 45 5 C dX3_takeWord_45 (by decide) ?_
          exact ih1 _ _ _ _ _ hf I (lv_sub hl [0] rfl)
set_option maxHeartbeats 4000000 in
set_option maxRecDepth 100000 in
theorem c_X3_takeWord (G : xG) (l : Launch) (fu : Nat) (S S' : xS) (p0 : Nat) (r : Int) (hf : f_X3_takeWord fu S p0 = some (r, S')) : Met l yX3_takeWord vsX3_takeWord rm_X3_takeWord (va_Pc [.ref (xB G + p0)] (xPre G S)) (xQv G S') 0 0 (xA G) := by
  refine kx_met (ret := none) RX3 [(0, .ref (xB G + p0))] (by decide) rfl rfl (Nat.le_of_ble_eq_true rfl) rfl (fun p e s m below meth c ls C hin I hl => ?_)
  exact (w_X3_takeWord C r S' fu).1 S _ _ _ _ hf I hl
def rm_X3_takeFigures : Room := { frames := 1, cells := 0, slots := 0, locals := 23 }
theorem hin_X3_takeFigures_RX3 : ∀ w ∈ wsX30, w ∈ vsX3_takeFigures := fun w h => inM (inlX3 w h)
theorem fl_X3_takeFigures_9 : xFl vsX3_takeFigures RX3 9 3 0 := ⟨RX3, TX3, 6, rfl, by decide, hin_X3_takeFigures_RX3, inM mq_3_22, rfl⟩
theorem fl_X3_takeFigures_15 : xFl vsX3_takeFigures RX3 15 3 1 := ⟨RX3, TX3, 6, rfl, by decide, hin_X3_takeFigures_RX3, inM mq_3_23, rfl⟩
theorem fl_X3_takeFigures_19 : xFl vsX3_takeFigures RX3 19 3 2 := ⟨RX3, TX3, 6, rfl, by decide, hin_X3_takeFigures_RX3, inM mq_4_0, rfl⟩
theorem fl_X3_takeFigures_22 : xFl vsX3_takeFigures RX3 22 3 3 := ⟨RX3, TX3, 6, rfl, by decide, hin_X3_takeFigures_RX3, inM mq_4_1, rfl⟩
theorem fl_X3_takeFigures_25 : xFl vsX3_takeFigures RX3 25 3 4 := ⟨RX3, TX3, 6, rfl, by decide, hin_X3_takeFigures_RX3, inM mq_4_2, rfl⟩
theorem fl_X3_takeFigures_28 : xFl vsX3_takeFigures RX3 28 3 5 := ⟨RX3, TX3, 6, rfl, by decide, hin_X3_takeFigures_RX3, inM mq_4_3, rfl⟩
theorem mw_X3_takeFigures_0 : Cond.methodLink RX3 120 Lib.Math.min.name ∈ vsX3_takeFigures := inM mq_16_19
theorem mw_X3_takeFigures_1 : Cond.static Lib.Math.min.name ∈ vsX3_takeFigures := inM mq_16_20
theorem mw_X3_takeFigures_2 : Cond.initialized "java/lang/Math" ∈ vsX3_takeFigures := inM mq_16_21
theorem mw_X3_takeFigures_3 : Cond.code Lib.Math.min.name Lib.Math.min.code 2 (some .int) ∈ vsX3_takeFigures := inM mq_16_22
theorem nyS_X3_takeFigures : yX3_takeFigures.cls ≠ "java/lang/invoke/MethodHandle" ∧ yX3_takeFigures.cls ≠ "java/lang/invoke/VarHandle" ∧ (parseMethodDescriptor yX3_takeFigures.desc).map (fun d => d.parameters.length) = some 0 := by decide +kernel
theorem nyV_X3_takeFigures : yX3_takeFigures.cls = RX3 ∧ yX3_takeFigures.cls ≠ "java/lang/invoke/MethodHandle" ∧ yX3_takeFigures.cls ≠ "java/lang/invoke/VarHandle" ∧ (parseMethodDescriptor yX3_takeFigures.desc).map (fun d => d.parameters.length) = some 0 := by decide +kernel
set_option maxHeartbeats 4000000 in
set_option maxRecDepth 100000 in
theorem w_X3_takeFigures {G : xG} {p : Program} {l : Launch} {e : Env} {s : State} {m : MethodId} {args : Array Value} {below : List Frame} {meth : Method} {c : Code} (C : xK G p s m args meth c cX3_takeFigures 1 vsX3_takeFigures RX3 none) (r : Int) (S' : xS) : ∀ k : Nat,
  (∀ (S : xS) (p0 : Nat) (H : Heap) (locs : List Loc) (ls : Array Slot), g_X3_takeFigures k 0 S p0 = some (r, S') → xI G S s H locs → lv_has ls 1 [(0, .ref (xB G + p0))] → W p l e rm_X3_takeFigures s m args below meth c H locs 0 0 (MQ below (xQv G S') args s 0 0 (xA G)) (F0 m 0 ls [])) ∧
  (∀ (S : xS) (p0 : Nat) (H : Heap) (locs : List Loc) (ls : Array Slot), g_X3_takeFigures k 1 S p0 = some (r, S') → xI G S s H locs → lv_has ls 1 [(0, .ref (xB G + p0))] → W p l e rm_X3_takeFigures s m args below meth c H locs 0 0 (MQ below (xQv G S') args s 0 0 (xA G)) (F0 m 5 ls [])) ∧
  (∀ (S : xS) (p0 : Nat) (H : Heap) (locs : List Loc) (ls : Array Slot), g_X3_takeFigures k 2 S p0 = some (r, S') → xI G S s H locs → lv_has ls 1 [(0, .ref (xB G + p0))] → W p l e rm_X3_takeFigures s m args below meth c H locs 0 0 (MQ below (xQv G S') args s 0 0 (xA G)) (F0 m 78 ls [])) := by
  intro k
  induction k with
  | zero => exact ⟨fun _ _ _ _ _ hf => (by cases hf), fun _ _ _ _ _ hf => (by cases hf), fun _ _ _ _ _ hf => (by cases hf)⟩
  | succ fu ih =>
    obtain ⟨ih0, ih1, ih2⟩ := ih
    refine ⟨?_, ?_, ?_⟩
    · intro S p0 H locs ls hf I hl
      replace hf : b_X3_takeFigures_0 (g_X3_takeFigures fu) fu S p0 = some (r, S') := hf
      unfold b_X3_takeFigures_0 at hf
      refine kx_aload_n 0 C dX3_takeFigures_0 (lv_at hl 0 rfl) ?_
      refine kx_iconst 1 C dX3_takeFigures_1 ?_
      obtain ⟨S2, h1, hf⟩ := ob hf
      refine kx_puti 2 C I fl_X3_takeFigures_28 fw_RX3_5 h1 dX3_takeFigures_2 (fun H locs I => ?_)
      exact ih1 _ _ _ _ _ hf I (lv_sub hl [0] rfl)
    · intro S p0 H locs ls hf I hl
      replace hf : b_X3_takeFigures_1 (g_X3_takeFigures fu) fu S p0 = some (r, S') := hf
      unfold b_X3_takeFigures_1 at hf
      refine kx_aload_n 5 C dX3_takeFigures_5 (lv_at hl 0 rfl) ?_
      obtain ⟨x4, h3, hf⟩ := ob hf
      refine kx_geti 6 C I fl_X3_takeFigures_19 h3 dX3_takeFigures_6 ?_
      refine kx_aload_n 9 C dX3_takeFigures_9 (lv_at hl 0 rfl) ?_
      obtain ⟨x6, h5, hf⟩ := ob hf
      refine kx_geti 10 C I fl_X3_takeFigures_15 h5 dX3_takeFigures_10 ?_
      refine kx_icmp_ge 13 78 C dX3_takeFigures_13 (by decide) (fun c7 => ?_) (fun c7 => ?_)
      · have hf := ifp c7 hf
        exact ih2 _ _ _ _ _ hf I (lv_sub hl [0] rfl)
      · have hf := ifn c7 hf
        refine kx_aload_n 16 C dX3_takeFigures_16 (lv_at hl 0 rfl) ?_
        obtain ⟨q9, h8, hf⟩ := ob hf
        refine kx_getp 17 C I fl_X3_takeFigures_9 h8 dX3_takeFigures_17 ?_
        refine kx_aload_n 20 C dX3_takeFigures_20 (lv_at hl 0 rfl) ?_
        obtain ⟨x11, h10, hf⟩ := ob hf
        refine kx_geti 21 C I fl_X3_takeFigures_19 h10 dX3_takeFigures_21 ?_
        obtain ⟨x12, h13, hf⟩ := ob hf
        refine kx_bald 24 C I h13 dX3_takeFigures_24 ?_
        refine kx_bipush 25 C dX3_takeFigures_25 (by decide) ?_
        refine kx_bipush 27 C dX3_takeFigures_27 (by decide) ?_
        obtain ⟨x16, S14, h15, hf⟩ := ob2 hf
        refine kx_callSi 29 C hl I (As := [.int (iI x12), .int (iI 48), .int (iI 57)]) (rest := []) (c_X3_isWithin G l fu _ _ _ _ _ _ h15) (va_cwS 3 C.ts gX3_takeFigures_X3_isWithin rfl rfl rfl nyS_X3_isWithin ⟨Nat.le_of_ble_eq_true rfl, Nat.le_of_ble_eq_true rfl⟩) rfl rfl (Nat.le_of_ble_eq_true rfl) dX3_takeFigures_29 ⟨Nat.le_of_ble_eq_true rfl, Nat.le_of_ble_eq_true rfl⟩ (fun H locs I => ?_)
        refine kx_if_eq 32 78 C dX3_takeFigures_32 (by decide) (fun c17 => ?_) (fun c17 => ?_)
        · have hf := ifp c17 hf
          exact ih2 _ _ _ _ _ hf I (lv_sub hl [0] rfl)
        · have hf := ifn c17 hf
          refine kx_aload_n 35 C dX3_takeFigures_35 (lv_at hl 0 rfl) ?_
          refine kx_sipush 36 C dX3_takeFigures_36 (by decide) ?_
          refine kx_bipush 39 C dX3_takeFigures_39 (by decide) ?_
          refine kx_aload_n 41 C dX3_takeFigures_41 (lv_at hl 0 rfl) ?_
          obtain ⟨x19, h18, hf⟩ := ob hf
          refine kx_geti 42 C I fl_X3_takeFigures_28 h18 dX3_takeFigures_42 ?_
          refine kx_imul 45 C dX3_takeFigures_45 ?_
          refine kx_aload_n 46 C dX3_takeFigures_46 (lv_at hl 0 rfl) ?_
          obtain ⟨q21, h20, hf⟩ := ob hf
          refine kx_getp 47 C I fl_X3_takeFigures_9 h20 dX3_takeFigures_47 ?_
          refine kx_aload_n 50 C dX3_takeFigures_50 (lv_at hl 0 rfl) ?_
          obtain ⟨x23, h22, hf⟩ := ob hf
          refine kx_geti 51 C I fl_X3_takeFigures_19 h22 dX3_takeFigures_51 ?_
          obtain ⟨x24, h25, hf⟩ := ob hf
          refine kx_bald 54 C I h25 dX3_takeFigures_54 ?_
          refine kx_iadd 55 C dX3_takeFigures_55 ?_
          refine kx_bipush 56 C dX3_takeFigures_56 (by decide) ?_
          refine kx_isub 58 C dX3_takeFigures_58 ?_
          refine kx_mmin 59 C hl mw_X3_takeFigures_0 mw_X3_takeFigures_1 mw_X3_takeFigures_2 mw_X3_takeFigures_3 ⟨Nat.le_of_ble_eq_true rfl, Nat.le_of_ble_eq_true rfl⟩ ⟨Nat.le_of_ble_eq_true rfl, Nat.le_of_ble_eq_true rfl⟩ dX3_takeFigures_59 ?_
          obtain ⟨S27, h26, hf⟩ := ob hf
          refine kx_puti 62 C I fl_X3_takeFigures_28 fw_RX3_5 h26 dX3_takeFigures_62 (fun H locs I => ?_)
          refine kx_aload_n 65 C dX3_takeFigures_65 (lv_at hl 0 rfl) ?_
          refine kx_dup 66 C dX3_takeFigures_66 rfl ?_
          obtain ⟨x29, h28, hf⟩ := ob hf
          refine kx_geti 67 C I fl_X3_takeFigures_19 h28 dX3_takeFigures_67 ?_
          refine kx_iconst 70 C dX3_takeFigures_70 ?_
          refine kx_iadd 71 C dX3_takeFigures_71 ?_
          obtain ⟨S31, h30, hf⟩ := ob hf
          refine kx_puti 72 C I fl_X3_takeFigures_19 fw_RX3_2 h30 dX3_takeFigures_72 (fun H locs I => ?_)
          refine kx_goto 75 5 C dX3_takeFigures_75 (by decide) ?_
          exact ih1 _ _ _ _ _ hf I (lv_sub hl [0] rfl)
    · intro S p0 H locs ls hf I hl
      replace hf : b_X3_takeFigures_2 (g_X3_takeFigures fu) fu S p0 = some (r, S') := hf
      unfold b_X3_takeFigures_2 at hf
      refine kx_aload_n 78 C dX3_takeFigures_78 (lv_at hl 0 rfl) ?_
      refine kx_aload_n 79 C dX3_takeFigures_79 (lv_at hl 0 rfl) ?_
      obtain ⟨x33, h32, hf⟩ := ob hf
      refine kx_geti 80 C I fl_X3_takeFigures_19 h32 dX3_takeFigures_80 ?_
      refine kx_aload_n 83 C dX3_takeFigures_83 (lv_at hl 0 rfl) ?_
      obtain ⟨x35, h34, hf⟩ := ob hf
      refine kx_geti 84 C I fl_X3_takeFigures_25 h34 dX3_takeFigures_84 ?_
      refine kx_isub 87 C dX3_takeFigures_87 ?_
      refine kx_iconst 88 C dX3_takeFigures_88 ?_
      refine kx_icmp_gt 89 96 C dX3_takeFigures_89 (by decide) (fun c36 => ?_) (fun c36 => ?_)
      · have hf := ifp c36 hf
        refine kx_iconst 96 C dX3_takeFigures_96 ?_
        obtain ⟨S38, h37, hf⟩ := ob hf
        refine kx_puti 97 C I fl_X3_takeFigures_22 fw_RX3_3 h37 dX3_takeFigures_97 (fun H locs I => ?_)
        exact kx_vret 100 C I hf dX3_takeFigures_100
      · have hf := ifn c36 hf
        refine kx_iconst 92 C dX3_takeFigures_92 ?_
        refine kx_goto 93 97 C dX3_takeFigures_93 (by decide) ?_
        obtain ⟨S40, h39, hf⟩ := ob hf
        refine kx_puti 97 C I fl_X3_takeFigures_22 fw_RX3_3 h39 dX3_takeFigures_97 (fun H locs I => ?_)
        exact kx_vret 100 C I hf dX3_takeFigures_100
set_option maxHeartbeats 4000000 in
set_option maxRecDepth 100000 in
theorem c_X3_takeFigures (G : xG) (l : Launch) (fu : Nat) (S S' : xS) (p0 : Nat) (r : Int) (hf : f_X3_takeFigures fu S p0 = some (r, S')) : Met l yX3_takeFigures vsX3_takeFigures rm_X3_takeFigures (va_Pc [.ref (xB G + p0)] (xPre G S)) (xQv G S') 0 0 (xA G) := by
  refine kx_met (ret := none) RX3 [(0, .ref (xB G + p0))] (by decide) rfl rfl (Nat.le_of_ble_eq_true rfl) rfl (fun p e s m below meth c ls C hin I hl => ?_)
  exact (w_X3_takeFigures C r S' fu).1 S _ _ _ _ hf I hl
def rm_X3_toNextToken : Room := { frames := 2, cells := 0, slots := 0, locals := 43 }
theorem hin_X3_toNextToken_RX3 : ∀ w ∈ wsX30, w ∈ vsX3_toNextToken := fun w h => inM (inlX3 w h)
theorem fl_X3_toNextToken_9 : xFl vsX3_toNextToken RX3 9 3 0 := ⟨RX3, TX3, 6, rfl, by decide, hin_X3_toNextToken_RX3, inM mq_3_22, rfl⟩
theorem fl_X3_toNextToken_15 : xFl vsX3_toNextToken RX3 15 3 1 := ⟨RX3, TX3, 6, rfl, by decide, hin_X3_toNextToken_RX3, inM mq_3_23, rfl⟩
theorem fl_X3_toNextToken_19 : xFl vsX3_toNextToken RX3 19 3 2 := ⟨RX3, TX3, 6, rfl, by decide, hin_X3_toNextToken_RX3, inM mq_4_0, rfl⟩
theorem fl_X3_toNextToken_22 : xFl vsX3_toNextToken RX3 22 3 3 := ⟨RX3, TX3, 6, rfl, by decide, hin_X3_toNextToken_RX3, inM mq_4_1, rfl⟩
theorem fl_X3_toNextToken_25 : xFl vsX3_toNextToken RX3 25 3 4 := ⟨RX3, TX3, 6, rfl, by decide, hin_X3_toNextToken_RX3, inM mq_4_2, rfl⟩
theorem nyS_X3_toNextToken : yX3_toNextToken.cls ≠ "java/lang/invoke/MethodHandle" ∧ yX3_toNextToken.cls ≠ "java/lang/invoke/VarHandle" ∧ (parseMethodDescriptor yX3_toNextToken.desc).map (fun d => d.parameters.length) = some 0 := by decide +kernel
theorem nyV_X3_toNextToken : yX3_toNextToken.cls = RX3 ∧ yX3_toNextToken.cls ≠ "java/lang/invoke/MethodHandle" ∧ yX3_toNextToken.cls ≠ "java/lang/invoke/VarHandle" ∧ (parseMethodDescriptor yX3_toNextToken.desc).map (fun d => d.parameters.length) = some 0 := by decide +kernel
set_option maxHeartbeats 4000000 in
set_option maxRecDepth 100000 in
theorem w_X3_toNextToken {G : xG} {p : Program} {l : Launch} {e : Env} {s : State} {m : MethodId} {args : Array Value} {below : List Frame} {meth : Method} {c : Code} (C : xK G p s m args meth c cX3_toNextToken 1 vsX3_toNextToken RX3 none) (r : Int) (S' : xS) : ∀ k : Nat,
  (∀ (S : xS) (p0 p1 : Nat) (i0 : Int) (H : Heap) (locs : List Loc) (ls : Array Slot), g_X3_toNextToken k 0 S p0 p1 i0 = some (r, S') → xI G S s H locs → lv_has ls 1 [(0, .ref (xB G + p0))] → W p l e rm_X3_toNextToken s m args below meth c H locs 0 0 (MQ below (xQv G S') args s 0 0 (xA G)) (F0 m 0 ls [])) ∧
  (∀ (S : xS) (p0 p1 : Nat) (i0 : Int) (H : Heap) (locs : List Loc) (ls : Array Slot), g_X3_toNextToken k 1 S p0 p1 i0 = some (r, S') → xI G S s H locs → lv_has ls 1 [(0, .ref (xB G + p0))] → W p l e rm_X3_toNextToken s m args below meth c H locs 0 0 (MQ below (xQv G S') args s 0 0 (xA G)) (F0 m 38 ls [])) ∧
  (∀ (S : xS) (p0 p1 : Nat) (i0 : Int) (H : Heap) (locs : List Loc) (ls : Array Slot), g_X3_toNextToken k 2 S p0 p1 i0 = some (r, S') → xI G S s H locs → lv_has ls 1 [(0, .ref (xB G + p0))] → W p l e rm_X3_toNextToken s m args below meth c H locs 0 0 (MQ below (xQv G S') args s 0 0 (xA G)) (F0 m 137 ls [.int (iI i0), .ref (xB G + p1)])) := by
  intro k
  induction k with
  | zero => exact ⟨fun _ _ _ _ _ _ _ hf => (by cases hf), fun _ _ _ _ _ _ _ hf => (by cases hf), fun _ _ _ _ _ _ _ hf => (by cases hf)⟩
  | succ fu ih =>
    obtain ⟨ih0, ih1, ih2⟩ := ih
    refine ⟨?_, ?_, ?_⟩
    · intro S p0 p1 i0 H locs ls hf I hl
      replace hf : b_X3_toNextToken_0 (g_X3_toNextToken fu) fu S p0 p1 i0 = some (r, S') := hf
      unfold b_X3_toNextToken_0 at hf
      refine kx_aload_n 0 C dX3_toNextToken_0 (lv_at hl 0 rfl) ?_
      obtain ⟨x2, h1, hf⟩ := ob hf
      refine kx_geti 1 C I fl_X3_toNextToken_19 h1 dX3_toNextToken_1 ?_
      refine kx_aload_n 4 C dX3_toNextToken_4 (lv_at hl 0 rfl) ?_
      obtain ⟨x4, h3, hf⟩ := ob hf
      refine kx_geti 5 C I fl_X3_toNextToken_15 h3 dX3_toNextToken_5 ?_
      refine kx_icmp_ge 8 38 C dX3_toNextToken_8 (by decide) (fun c5 => ?_) (fun c5 => ?_)
      · have hf := ifp c5 hf
        exact ih1 _ _ _ _ _ _ _ hf I (lv_sub hl [0] rfl)
      · have hf := ifn c5 hf
        refine kx_aload_n 11 C dX3_toNextToken_11 (lv_at hl 0 rfl) ?_
        obtain ⟨q7, h6, hf⟩ := ob hf
        refine kx_getp 12 C I fl_X3_toNextToken_9 h6 dX3_toNextToken_12 ?_
        refine kx_aload_n 15 C dX3_toNextToken_15 (lv_at hl 0 rfl) ?_
        obtain ⟨x9, h8, hf⟩ := ob hf
        refine kx_geti 16 C I fl_X3_toNextToken_19 h8 dX3_toNextToken_16 ?_
        obtain ⟨x10, h11, hf⟩ := ob hf
        refine kx_bald 19 C I h11 dX3_toNextToken_19 ?_
        refine kx_bipush 20 C dX3_toNextToken_20 (by decide) ?_
        refine kx_icmp_ne 22 38 C dX3_toNextToken_22 (by decide) (fun c12 => ?_) (fun c12 => ?_)
        · have hf := ifn c12 hf
          exact ih1 _ _ _ _ _ _ _ hf I (lv_sub hl [0] rfl)
        · have hf := ifp c12 hf
          refine kx_aload_n 25 C dX3_toNextToken_25 (lv_at hl 0 rfl) ?_
          refine kx_dup 26 C dX3_toNextToken_26 rfl ?_
          obtain ⟨x14, h13, hf⟩ := ob hf
          refine kx_geti 27 C I fl_X3_toNextToken_19 h13 dX3_toNextToken_27 ?_
          refine kx_iconst 30 C dX3_toNextToken_30 ?_
          refine kx_iadd 31 C dX3_toNextToken_31 ?_
          obtain ⟨S16, h15, hf⟩ := ob hf
          refine kx_puti 32 C I fl_X3_toNextToken_19 fw_RX3_2 h15 dX3_toNextToken_32 (fun H locs I => ?_)
          refine kx_goto 35 0 C dX3_toNextToken_35 (by decide) ?_
          exact ih0 _ _ _ _ _ _ _ hf I (lv_sub hl [0] rfl)
    · intro S p0 p1 i0 H locs ls hf I hl
      replace hf : b_X3_toNextToken_1 (g_X3_toNextToken fu) fu S p0 p1 i0 = some (r, S') := hf
      unfold b_X3_toNextToken_1 at hf
      refine kx_aload_n 38 C dX3_toNextToken_38 (lv_at hl 0 rfl) ?_
      refine kx_aload_n 39 C dX3_toNextToken_39 (lv_at hl 0 rfl) ?_
      obtain ⟨x18, h17, hf⟩ := ob hf
      refine kx_geti 40 C I fl_X3_toNextToken_19 h17 dX3_toNextToken_40 ?_
      obtain ⟨S20, h19, hf⟩ := ob hf
      refine kx_puti 43 C I fl_X3_toNextToken_25 fw_RX3_4 h19 dX3_toNextToken_43 (fun H locs I => ?_)
      refine kx_aload_n 46 C dX3_toNextToken_46 (lv_at hl 0 rfl) ?_
      obtain ⟨x22, h21, hf⟩ := ob hf
      refine kx_geti 47 C I fl_X3_toNextToken_19 h21 dX3_toNextToken_47 ?_
      refine kx_aload_n 50 C dX3_toNextToken_50 (lv_at hl 0 rfl) ?_
      obtain ⟨x24, h23, hf⟩ := ob hf
      refine kx_geti 51 C I fl_X3_toNextToken_15 h23 dX3_toNextToken_51 ?_
      refine kx_icmp_lt 54 65 C dX3_toNextToken_54 (by decide) (fun c25 => ?_) (fun c25 => ?_)
      · have hf := ifp c25 hf
        refine kx_aload_n 65 C dX3_toNextToken_65 (lv_at hl 0 rfl) ?_
        obtain ⟨q27, h26, hf⟩ := ob hf
        refine kx_getp 66 C I fl_X3_toNextToken_9 h26 dX3_toNextToken_66 ?_
        refine kx_aload_n 69 C dX3_toNextToken_69 (lv_at hl 0 rfl) ?_
        obtain ⟨x29, h28, hf⟩ := ob hf
        refine kx_geti 70 C I fl_X3_toNextToken_19 h28 dX3_toNextToken_70 ?_
        obtain ⟨x30, h31, hf⟩ := ob hf
        refine kx_bald 73 C I h31 dX3_toNextToken_73 ?_
        refine kx_bipush 74 C dX3_toNextToken_74 (by decide) ?_
        refine kx_bipush 76 C dX3_toNextToken_76 (by decide) ?_
        obtain ⟨x34, S32, h33, hf⟩ := ob2 hf
        refine kx_callSi 78 C hl I (As := [.int (iI x30), .int (iI 97), .int (iI 122)]) (rest := []) (c_X3_isWithin G l fu _ _ _ _ _ _ h33) (va_cwS 3 C.ts gX3_toNextToken_X3_isWithin rfl rfl rfl nyS_X3_isWithin ⟨Nat.le_of_ble_eq_true rfl, Nat.le_of_ble_eq_true rfl⟩) rfl rfl (Nat.le_of_ble_eq_true rfl) dX3_toNextToken_78 ⟨Nat.le_of_ble_eq_true rfl, Nat.le_of_ble_eq_true rfl⟩ (fun H locs I => ?_)
        refine kx_if_eq 81 91 C dX3_toNextToken_81 (by decide) (fun c35 => ?_) (fun c35 => ?_)
        · have hf := ifp c35 hf
          refine kx_aload_n 91 C dX3_toNextToken_91 (lv_at hl 0 rfl) ?_
          obtain ⟨q37, h36, hf⟩ := ob hf
          refine kx_getp 92 C I fl_X3_toNextToken_9 h36 dX3_toNextToken_92 ?_
          refine kx_aload_n 95 C dX3_toNextToken_95 (lv_at hl 0 rfl) ?_
          obtain ⟨x39, h38, hf⟩ := ob hf
          refine kx_geti 96 C I fl_X3_toNextToken_19 h38 dX3_toNextToken_96 ?_
          obtain ⟨x40, h41, hf⟩ := ob hf
          refine kx_bald 99 C I h41 dX3_toNextToken_99 ?_
          refine kx_bipush 100 C dX3_toNextToken_100 (by decide) ?_
          refine kx_bipush 102 C dX3_toNextToken_102 (by decide) ?_
          obtain ⟨x44, S42, h43, hf⟩ := ob2 hf
          refine kx_callSi 104 C hl I (As := [.int (iI x40), .int (iI 48), .int (iI 57)]) (rest := []) (c_X3_isWithin G l fu _ _ _ _ _ _ h43) (va_cwS 3 C.ts gX3_toNextToken_X3_isWithin rfl rfl rfl nyS_X3_isWithin ⟨Nat.le_of_ble_eq_true rfl, Nat.le_of_ble_eq_true rfl⟩) rfl rfl (Nat.le_of_ble_eq_true rfl) dX3_toNextToken_104 ⟨Nat.le_of_ble_eq_true rfl, Nat.le_of_ble_eq_true rfl⟩ (fun H locs I => ?_)
          refine kx_if_eq 107 117 C dX3_toNextToken_107 (by decide) (fun c45 => ?_) (fun c45 => ?_)
          · have hf := ifp c45 hf
            refine kx_aload_n 117 C dX3_toNextToken_117 (lv_at hl 0 rfl) ?_
            refine kx_aload_n 118 C dX3_toNextToken_118 (lv_at hl 0 rfl) ?_
            obtain ⟨q47, h46, hf⟩ := ob hf
            refine kx_getp 119 C I fl_X3_toNextToken_9 h46 dX3_toNextToken_119 ?_
            refine kx_aload_n 122 C dX3_toNextToken_122 (lv_at hl 0 rfl) ?_
            obtain ⟨x49, h48, hf⟩ := ob hf
            refine kx_geti 123 C I fl_X3_toNextToken_19 h48 dX3_toNextToken_123 ?_
            obtain ⟨x50, h51, hf⟩ := ob hf
            refine kx_bald 126 C I h51 dX3_toNextToken_126 ?_
            refine kx_bipush 127 C dX3_toNextToken_127 (by decide) ?_
            refine kx_icmp_ne 129 136 C dX3_toNextToken_129 (by decide) (fun c52 => ?_) (fun c52 => ?_)
            · have hf := ifn c52 hf
              refine kx_iconst 136 C dX3_toNextToken_136 ?_
              exact ih2 _ _ _ _ _ _ _ hf I (lv_sub hl [0] rfl)
            · have hf := ifp c52 hf
              refine kx_iconst 132 C dX3_toNextToken_132 ?_
              refine kx_goto 133 137 C dX3_toNextToken_133 (by decide) ?_
              exact ih2 _ _ _ _ _ _ _ hf I (lv_sub hl [0] rfl)
          · have hf := ifn c45 hf
            refine kx_aload_n 110 C dX3_toNextToken_110 (lv_at hl 0 rfl) ?_
            obtain ⟨h56, hf⟩ := ift hf
            obtain ⟨z55, S53, h54, hf⟩ := ob2 hf
            refine kx_callVv 111 C hl I (ci := 3) (As := []) (rest := []) (c_X3_takeFigures G l fu _ _ _ _ h54) (cwV 0 C.ts gX3_toNextToken_X3_takeFigures rfl rfl rfl nyV_X3_takeFigures ⟨Nat.le_of_ble_eq_true rfl, Nat.le_of_ble_eq_true rfl⟩) rfl h56 rfl rfl (Nat.le_of_ble_eq_true rfl) dX3_toNextToken_111 ⟨Nat.le_of_ble_eq_true rfl, Nat.le_of_ble_eq_true rfl⟩ (fun H locs I => ?_)
            refine kx_goto 114 150 C dX3_toNextToken_114 (by decide) ?_
            exact kx_vret 150 C I hf dX3_toNextToken_150
        · have hf := ifn c35 hf
          refine kx_aload_n 84 C dX3_toNextToken_84 (lv_at hl 0 rfl) ?_
          obtain ⟨h60, hf⟩ := ift hf
          obtain ⟨z59, S57, h58, hf⟩ := ob2 hf
          refine kx_callVv 85 C hl I (ci := 3) (As := []) (rest := []) (c_X3_takeWord G l fu _ _ _ _ h58) (cwV 0 C.ts gX3_toNextToken_X3_takeWord rfl rfl rfl nyV_X3_takeWord ⟨Nat.le_of_ble_eq_true rfl, Nat.le_of_ble_eq_true rfl⟩) rfl h60 rfl rfl (Nat.le_of_ble_eq_true rfl) dX3_toNextToken_85 ⟨Nat.le_of_ble_eq_true rfl, Nat.le_of_ble_eq_true rfl⟩ (fun H locs I => ?_)
          refine kx_goto 88 150 C dX3_toNextToken_88 (by decide) ?_
          exact kx_vret 150 C I hf dX3_toNextToken_150
      · have hf := ifn c25 hf
        refine kx_aload_n 57 C dX3_toNextToken_57 (lv_at hl 0 rfl) ?_
        refine kx_iconst 58 C dX3_toNextToken_58 ?_
        obtain ⟨S62, h61, hf⟩ := ob hf
        refine kx_puti 59 C I fl_X3_toNextToken_22 fw_RX3_3 h61 dX3_toNextToken_59 (fun H locs I => ?_)
        refine kx_goto 62 150 C dX3_toNextToken_62 (by decide) ?_
        exact kx_vret 150 C I hf dX3_toNextToken_150
    · intro S p0 p1 i0 H locs ls hf I hl
      replace hf : b_X3_toNextToken_2 (g_X3_toNextToken fu) fu S p0 p1 i0 = some (r, S') := hf
      unfold b_X3_toNextToken_2 at hf
      obtain ⟨S64, h63, hf⟩ := ob hf
      refine kx_puti 137 C I fl_X3_toNextToken_22 fw_RX3_3 h63 dX3_toNextToken_137 (fun H locs I => ?_)
      refine kx_aload_n 140 C dX3_toNextToken_140 (lv_at hl 0 rfl) ?_
      refine kx_dup 141 C dX3_toNextToken_141 rfl ?_
      obtain ⟨x66, h65, hf⟩ := ob hf
      refine kx_geti 142 C I fl_X3_toNextToken_19 h65 dX3_toNextToken_142 ?_
      refine kx_iconst 145 C dX3_toNextToken_145 ?_
      refine kx_iadd 146 C dX3_toNextToken_146 ?_
      obtain ⟨S68, h67, hf⟩ := ob hf
      refine kx_puti 147 C I fl_X3_toNextToken_19 fw_RX3_2 h67 dX3_toNextToken_147 (fun H locs I => ?_)
      exact kx_vret 150 C I hf dX3_toNextToken_150
set_option maxHeartbeats 4000000 in
set_option maxRecDepth 100000 in
theorem c_X3_toNextToken (G : xG) (l : Launch) (fu : Nat) (S S' : xS) (p0 : Nat) (r : Int) (hf : f_X3_toNextToken fu S p0 = some (r, S')) : Met l yX3_toNextToken vsX3_toNextToken rm_X3_toNextToken (va_Pc [.ref (xB G + p0)] (xPre G S)) (xQv G S') 0 0 (xA G) := by
  refine kx_met (ret := none) RX3 [(0, .ref (xB G + p0))] (by decide) rfl rfl (Nat.le_of_ble_eq_true rfl) rfl (fun p e s m below meth c ls C hin I hl => ?_)
  exact (w_X3_toNextToken C r S' fu).1 S _ _ _ _ _ _ hf I hl
def rm_X3_wordAt : Room := { frames := 0, cells := 0, slots := 0, locals := 0 }
theorem nyS_X3_wordAt : yX3_wordAt.cls ≠ "java/lang/invoke/MethodHandle" ∧ yX3_wordAt.cls ≠ "java/lang/invoke/VarHandle" ∧ (parseMethodDescriptor yX3_wordAt.desc).map (fun d => d.parameters.length) = some 1 := by decide +kernel
set_option maxHeartbeats 4000000 in
set_option maxRecDepth 100000 in
theorem c_X3_wordAt (G : xG) (l : Launch) (fu : Nat) (S S' : xS) (i0 : Int) (r : Nat) (hf : f_X3_wordAt fu S i0 = some (r, S')) : Met l yX3_wordAt vsX3_wordAt rm_X3_wordAt (va_Pc [.int (iI i0)] (xPre G S)) (xQs G r S') 0 0 (xA G) := by
  refine kx_met (ret := (some (.object "java/lang/String"))) RX3 [(0, .int (iI i0))] (by decide) rfl rfl (Nat.le_of_ble_eq_true rfl) rfl (fun p e s m below meth c ls C hin I hl => ?_)
  unfold f_X3_wordAt at hf
  refine kx_iload_n 0 C dX3_wordAt_0 (lv_at hl 0 rfl) ?_
  by_cases c1 : wI i0 = 0
  · have hf := ifp c1 hf
    refine kx_tabIn 1 48 C 0 dX3_wordAt_1 c1 (by decide) rfl (by decide) ?_
    refine kx_ldcS 48 C (i := 0) (by decide) dX3_wordAt_48 ?_
    exact kx_sret 50 C I hf dX3_wordAt_50
  have hf := ifn c1 hf
  by_cases c2 : wI i0 = 1
  · have hf := ifp c2 hf
    refine kx_tabIn 1 51 C 1 dX3_wordAt_1 c2 (by decide) rfl (by decide) ?_
    refine kx_ldcS 51 C (i := 1) (by decide) dX3_wordAt_51 ?_
    exact kx_sret 53 C I hf dX3_wordAt_53
  have hf := ifn c2 hf
  by_cases c3 : wI i0 = 2
  · have hf := ifp c3 hf
    refine kx_tabIn 1 54 C 2 dX3_wordAt_1 c3 (by decide) rfl (by decide) ?_
    refine kx_ldcS 54 C (i := 2) (by decide) dX3_wordAt_54 ?_
    exact kx_sret 56 C I hf dX3_wordAt_56
  have hf := ifn c3 hf
  by_cases c4 : wI i0 = 3
  · have hf := ifp c4 hf
    refine kx_tabIn 1 57 C 3 dX3_wordAt_1 c4 (by decide) rfl (by decide) ?_
    refine kx_ldcS 57 C (i := 3) (by decide) dX3_wordAt_57 ?_
    exact kx_sret 59 C I hf dX3_wordAt_59
  have hf := ifn c4 hf
  by_cases c5 : wI i0 = 4
  · have hf := ifp c5 hf
    refine kx_tabIn 1 60 C 4 dX3_wordAt_1 c5 (by decide) rfl (by decide) ?_
    refine kx_ldcS 60 C (i := 4) (by decide) dX3_wordAt_60 ?_
    exact kx_sret 62 C I hf dX3_wordAt_62
  have hf := ifn c5 hf
  by_cases c6 : wI i0 = 5
  · have hf := ifp c6 hf
    refine kx_tabIn 1 63 C 5 dX3_wordAt_1 c6 (by decide) rfl (by decide) ?_
    refine kx_ldcS 63 C (i := 5) (by decide) dX3_wordAt_63 ?_
    exact kx_sret 65 C I hf dX3_wordAt_65
  have hf := ifn c6 hf
  by_cases c7 : wI i0 = 6
  · have hf := ifp c7 hf
    refine kx_tabIn 1 66 C 6 dX3_wordAt_1 c7 (by decide) rfl (by decide) ?_
    refine kx_ldcS 66 C (i := 6) (by decide) dX3_wordAt_66 ?_
    exact kx_sret 68 C I hf dX3_wordAt_68
  have hf := ifn c7 hf
  by_cases c8 : wI i0 = 7
  · have hf := ifp c8 hf
    refine kx_tabIn 1 69 C 7 dX3_wordAt_1 c8 (by decide) rfl (by decide) ?_
    refine kx_ldcS 69 C (i := 7) (by decide) dX3_wordAt_69 ?_
    exact kx_sret 71 C I hf dX3_wordAt_71
  have hf := ifn c8 hf
  refine kx_tabOut 1 72 C dX3_wordAt_1 (by omega) (by decide) ?_
  refine kx_ldcS 72 C (i := 8) (by decide) dX3_wordAt_72 ?_
  exact kx_sret 74 C I hf dX3_wordAt_74
def rm_X3_isTokenWord : Room := { frames := 5, cells := 0, slots := 0, locals := 121 }
theorem hin_X3_isTokenWord_RX3 : ∀ w ∈ wsX30, w ∈ vsX3_isTokenWord := fun w h => inM (inlX3 w h)
theorem fl_X3_isTokenWord_9 : xFl vsX3_isTokenWord RX3 9 3 0 := ⟨RX3, TX3, 6, rfl, by decide, hin_X3_isTokenWord_RX3, inM mq_3_22, rfl⟩
theorem fl_X3_isTokenWord_19 : xFl vsX3_isTokenWord RX3 19 3 2 := ⟨RX3, TX3, 6, rfl, by decide, hin_X3_isTokenWord_RX3, inM mq_4_0, rfl⟩
theorem fl_X3_isTokenWord_25 : xFl vsX3_isTokenWord RX3 25 3 4 := ⟨RX3, TX3, 6, rfl, by decide, hin_X3_isTokenWord_RX3, inM mq_4_2, rfl⟩
theorem nyS_X3_isTokenWord : yX3_isTokenWord.cls ≠ "java/lang/invoke/MethodHandle" ∧ yX3_isTokenWord.cls ≠ "java/lang/invoke/VarHandle" ∧ (parseMethodDescriptor yX3_isTokenWord.desc).map (fun d => d.parameters.length) = some 1 := by decide +kernel
theorem nyV_X3_isTokenWord : yX3_isTokenWord.cls = RX3 ∧ yX3_isTokenWord.cls ≠ "java/lang/invoke/MethodHandle" ∧ yX3_isTokenWord.cls ≠ "java/lang/invoke/VarHandle" ∧ (parseMethodDescriptor yX3_isTokenWord.desc).map (fun d => d.parameters.length) = some 1 := by decide +kernel
set_option maxHeartbeats 4000000 in
set_option maxRecDepth 100000 in
theorem w_X3_isTokenWord {G : xG} {p : Program} {l : Launch} {e : Env} {s : State} {m : MethodId} {args : Array Value} {below : List Frame} {meth : Method} {c : Code} (C : xK G p s m args meth c cX3_isTokenWord 3 vsX3_isTokenWord RX3 (some .boolean)) (r : Int) (S' : xS) : ∀ k : Nat,
  (∀ (S : xS) (p0 p1 : Nat) (i0 : Int) (H : Heap) (locs : List Loc) (ls : Array Slot), g_X3_isTokenWord k 0 S p0 p1 i0 = some (r, S') → xI G S s H locs → lv_has ls 3 [(0, .ref (xB G + p0)), (1, .ref (xKs G p1))] → W p l e rm_X3_isTokenWord s m args below meth c H locs 0 0 (MQ below (xQi G r S') args s 0 0 (xA G)) (F0 m 0 ls [])) ∧
  (∀ (S : xS) (p0 p1 : Nat) (i0 : Int) (H : Heap) (locs : List Loc) (ls : Array Slot), g_X3_isTokenWord k 1 S p0 p1 i0 = some (r, S') → xI G S s H locs → lv_has ls 3 [(0, .ref (xB G + p0)), (1, .ref (xKs G p1)), (2, .int (iI i0))] → W p l e rm_X3_isTokenWord s m args below meth c H locs 0 0 (MQ below (xQi G r S') args s 0 0 (xA G)) (F0 m 20 ls [])) := by
  intro k
  induction k with
  | zero => exact ⟨fun _ _ _ _ _ _ _ hf => (by cases hf), fun _ _ _ _ _ _ _ hf => (by cases hf)⟩
  | succ fu ih =>
    obtain ⟨ih0, ih1⟩ := ih
    refine ⟨?_, ?_⟩
    · intro S p0 p1 i0 H locs ls hf I hl
      replace hf : b_X3_isTokenWord_0 (g_X3_isTokenWord fu) fu S p0 p1 i0 = some (r, S') := hf
      unfold b_X3_isTokenWord_0 at hf
      refine kx_aload_n 0 C dX3_isTokenWord_0 (lv_at hl 0 rfl) ?_
      obtain ⟨x2, h1, hf⟩ := ob hf
      refine kx_geti 1 C I fl_X3_isTokenWord_19 h1 dX3_isTokenWord_1 ?_
      refine kx_aload_n 4 C dX3_isTokenWord_4 (lv_at hl 0 rfl) ?_
      obtain ⟨x4, h3, hf⟩ := ob hf
      refine kx_geti 5 C I fl_X3_isTokenWord_25 h3 dX3_isTokenWord_5 ?_
      refine kx_isub 8 C dX3_isTokenWord_8 ?_
      refine kx_aload_n 9 C dX3_isTokenWord_9 (lv_at hl 1 rfl) ?_
      obtain ⟨x5, h6, hf⟩ := ob hf
      refine kx_slen 10 C hl I h6 gX3_isTokenWord_J0_length_8abf5 ⟨Nat.le_of_ble_eq_true rfl, Nat.le_of_ble_eq_true rfl⟩ (Nat.le_of_ble_eq_true rfl) dX3_isTokenWord_10 ⟨Nat.le_of_ble_eq_true rfl, Nat.le_of_ble_eq_true rfl⟩ (fun H locs I => ?_)
      refine kx_icmp_eq 13 18 C dX3_isTokenWord_13 (by decide) (fun c7 => ?_) (fun c7 => ?_)
      · have hf := ifp c7 hf
        refine kx_iconst 18 C dX3_isTokenWord_18 ?_
        refine kx_istore_n 19 C (lv' := [(2, .int (iI 0)), (0, .ref (xB G + p0)), (1, .ref (xKs G p1))]) dX3_isTokenWord_19 hl (by decide) rfl rfl (fun ls hl => ?_)
        exact ih1 _ _ _ _ _ _ _ hf I (lv_sub hl [1, 2, 0] rfl)
      · have hf := ifn c7 hf
        refine kx_iconst 16 C dX3_isTokenWord_16 ?_
        exact kx_zret 17 C I (by decide) hf dX3_isTokenWord_17
    · intro S p0 p1 i0 H locs ls hf I hl
      replace hf : b_X3_isTokenWord_1 (g_X3_isTokenWord fu) fu S p0 p1 i0 = some (r, S') := hf
      unfold b_X3_isTokenWord_1 at hf
      refine kx_iload_n 20 C dX3_isTokenWord_20 (lv_at hl 2 rfl) ?_
      refine kx_aload_n 21 C dX3_isTokenWord_21 (lv_at hl 1 rfl) ?_
      obtain ⟨x8, h9, hf⟩ := ob hf
      refine kx_slen 22 C hl I h9 gX3_isTokenWord_J0_length_8abf5 ⟨Nat.le_of_ble_eq_true rfl, Nat.le_of_ble_eq_true rfl⟩ (Nat.le_of_ble_eq_true rfl) dX3_isTokenWord_22 ⟨Nat.le_of_ble_eq_true rfl, Nat.le_of_ble_eq_true rfl⟩ (fun H locs I => ?_)
      refine kx_icmp_ge 25 55 C dX3_isTokenWord_25 (by decide) (fun c10 => ?_) (fun c10 => ?_)
      · have hf := ifp c10 hf
        refine kx_iconst 55 C dX3_isTokenWord_55 ?_
        exact kx_zret 56 C I (by decide) hf dX3_isTokenWord_56
      · have hf := ifn c10 hf
        refine kx_aload_n 28 C dX3_isTokenWord_28 (lv_at hl 0 rfl) ?_
        obtain ⟨q12, h11, hf⟩ := ob hf
        refine kx_getp 29 C I fl_X3_isTokenWord_9 h11 dX3_isTokenWord_29 ?_
        refine kx_aload_n 32 C dX3_isTokenWord_32 (lv_at hl 0 rfl) ?_
        obtain ⟨x14, h13, hf⟩ := ob hf
        refine kx_geti 33 C I fl_X3_isTokenWord_25 h13 dX3_isTokenWord_33 ?_
        refine kx_iload_n 36 C dX3_isTokenWord_36 (lv_at hl 2 rfl) ?_
        refine kx_iadd 37 C dX3_isTokenWord_37 ?_
        obtain ⟨x15, h16, hf⟩ := ob hf
        refine kx_bald 38 C I h16 dX3_isTokenWord_38 ?_
        refine kx_aload_n 39 C dX3_isTokenWord_39 (lv_at hl 1 rfl) ?_
        refine kx_iload_n 40 C dX3_isTokenWord_40 (lv_at hl 2 rfl) ?_
        obtain ⟨x17, h18, hf⟩ := ob hf
        refine kx_schr 41 C hl I h18 gX3_isTokenWord_J0_charAt_5068e ⟨Nat.le_of_ble_eq_true rfl, Nat.le_of_ble_eq_true rfl⟩ (Nat.le_of_ble_eq_true rfl) dX3_isTokenWord_41 ⟨Nat.le_of_ble_eq_true rfl, Nat.le_of_ble_eq_true rfl⟩ (fun H locs I => ?_)
        refine kx_icmp_eq 44 49 C dX3_isTokenWord_44 (by decide) (fun c19 => ?_) (fun c19 => ?_)
        · have hf := ifp c19 hf
          obtain ⟨x20, e21, hf⟩ := nmx_e hf
          refine kx_iinc 49 C (lv' := [(2, .int (iI x20)), (0, .ref (xB G + p0)), (1, .ref (xKs G p1))]) dX3_isTokenWord_49 hl 2 rfl e21 (by decide) rfl (fun ls hl => ?_)
          refine kx_goto 52 20 C dX3_isTokenWord_52 (by decide) ?_
          exact ih1 _ _ _ _ _ _ _ hf I (lv_sub hl [1, 2, 0] rfl)
        · have hf := ifn c19 hf
          refine kx_iconst 47 C dX3_isTokenWord_47 ?_
          exact kx_zret 48 C I (by decide) hf dX3_isTokenWord_48
set_option maxHeartbeats 4000000 in
set_option maxRecDepth 100000 in
theorem c_X3_isTokenWord (G : xG) (l : Launch) (fu : Nat) (S S' : xS) (p0 : Nat) (p1 : Nat) (r : Int) (hf : f_X3_isTokenWord fu S p0 p1 = some (r, S')) : Met l yX3_isTokenWord vsX3_isTokenWord rm_X3_isTokenWord (va_Pc [.ref (xB G + p0), .ref (xKs G p1)] (xPre G S)) (xQi G r S') 0 0 (xA G) := by
  refine kx_met (ret := (some .boolean)) RX3 [(0, .ref (xB G + p0)), (1, .ref (xKs G p1))] (by decide) rfl rfl (Nat.le_of_ble_eq_true rfl) rfl (fun p e s m below meth c ls C hin I hl => ?_)
  exact (w_X3_isTokenWord C r S' fu).1 S _ _ _ _ _ _ hf I hl
def rm_X3_wordNow : Room := { frames := 6, cells := 0, slots := 0, locals := 143 }
theorem nyS_X3_wordNow : yX3_wordNow.cls ≠ "java/lang/invoke/MethodHandle" ∧ yX3_wordNow.cls ≠ "java/lang/invoke/VarHandle" ∧ (parseMethodDescriptor yX3_wordNow.desc).map (fun d => d.parameters.length) = some 0 := by decide +kernel
theorem nyV_X3_wordNow : yX3_wordNow.cls = RX3 ∧ yX3_wordNow.cls ≠ "java/lang/invoke/MethodHandle" ∧ yX3_wordNow.cls ≠ "java/lang/invoke/VarHandle" ∧ (parseMethodDescriptor yX3_wordNow.desc).map (fun d => d.parameters.length) = some 0 := by decide +kernel
set_option maxHeartbeats 4000000 in
set_option maxRecDepth 100000 in
theorem w_X3_wordNow {G : xG} {p : Program} {l : Launch} {e : Env} {s : State} {m : MethodId} {args : Array Value} {below : List Frame} {meth : Method} {c : Code} (C : xK G p s m args meth c cX3_wordNow 2 vsX3_wordNow RX3 (some .int)) (r : Int) (S' : xS) : ∀ k : Nat,
  (∀ (S : xS) (p0 : Nat) (i0 : Int) (H : Heap) (locs : List Loc) (ls : Array Slot), g_X3_wordNow k 0 S p0 i0 = some (r, S') → xI G S s H locs → lv_has ls 2 [(0, .ref (xB G + p0))] → W p l e rm_X3_wordNow s m args below meth c H locs 0 0 (MQ below (xQi G r S') args s 0 0 (xA G)) (F0 m 0 ls [])) ∧
  (∀ (S : xS) (p0 : Nat) (i0 : Int) (H : Heap) (locs : List Loc) (ls : Array Slot), g_X3_wordNow k 1 S p0 i0 = some (r, S') → xI G S s H locs → lv_has ls 2 [(0, .ref (xB G + p0)), (1, .int (iI i0))] → W p l e rm_X3_wordNow s m args below meth c H locs 0 0 (MQ below (xQi G r S') args s 0 0 (xA G)) (F0 m 2 ls [])) := by
  intro k
  induction k with
  | zero => exact ⟨fun _ _ _ _ _ _ hf => (by cases hf), fun _ _ _ _ _ _ hf => (by cases hf)⟩
  | succ fu ih =>
    obtain ⟨ih0, ih1⟩ := ih
    refine ⟨?_, ?_⟩
    · intro S p0 i0 H locs ls hf I hl
      replace hf : b_X3_wordNow_0 (g_X3_wordNow fu) fu S p0 i0 = some (r, S') := hf
      unfold b_X3_wordNow_0 at hf
      refine kx_iconst 0 C dX3_wordNow_0 ?_
      refine kx_istore_n 1 C (lv' := [(1, .int (iI 0)), (0, .ref (xB G + p0))]) dX3_wordNow_1 hl (by decide) rfl rfl (fun ls hl => ?_)
      exact ih1 _ _ _ _ _ _ hf I (lv_sub hl [1, 0] rfl)
    · intro S p0 i0 H locs ls hf I hl
      replace hf : b_X3_wordNow_1 (g_X3_wordNow fu) fu S p0 i0 = some (r, S') := hf
      unfold b_X3_wordNow_1 at hf
      refine kx_iload_n 2 C dX3_wordNow_2 (lv_at hl 1 rfl) ?_
      refine kx_bipush 3 C dX3_wordNow_3 (by decide) ?_
      refine kx_icmp_ge 5 27 C dX3_wordNow_5 (by decide) (fun c1 => ?_) (fun c1 => ?_)
      · have hf := ifp c1 hf
        refine kx_iconst 27 C dX3_wordNow_27 ?_
        exact kx_iret 28 C I hf dX3_wordNow_28
      · have hf := ifn c1 hf
        refine kx_aload_n 8 C dX3_wordNow_8 (lv_at hl 0 rfl) ?_
        refine kx_iload_n 9 C dX3_wordNow_9 (lv_at hl 1 rfl) ?_
        obtain ⟨q4, S2, h3, hf⟩ := ob2 hf
        refine kx_callSs 10 C hl I (As := [.int (iI i0)]) (rest := [.ref (xB G + p0)]) (c_X3_wordAt G l fu _ _ _ _ h3) (va_cwS 1 C.ts gX3_wordNow_X3_wordAt rfl rfl rfl nyS_X3_wordAt ⟨Nat.le_of_ble_eq_true rfl, Nat.le_of_ble_eq_true rfl⟩) rfl rfl (Nat.le_of_ble_eq_true rfl) dX3_wordNow_10 ⟨Nat.le_of_ble_eq_true rfl, Nat.le_of_ble_eq_true rfl⟩ (fun H locs I => ?_)
        obtain ⟨h8, hf⟩ := ift hf
        obtain ⟨x7, S5, h6, hf⟩ := ob2 hf
        refine kx_callVi 13 C hl I (ci := 3) (As := [.ref (xKs G q4)]) (rest := []) (c_X3_isTokenWord G l fu _ _ _ _ _ h6) (cwV 1 C.ts gX3_wordNow_X3_isTokenWord rfl rfl rfl nyV_X3_isTokenWord ⟨Nat.le_of_ble_eq_true rfl, Nat.le_of_ble_eq_true rfl⟩) rfl h8 rfl rfl (Nat.le_of_ble_eq_true rfl) dX3_wordNow_13 ⟨Nat.le_of_ble_eq_true rfl, Nat.le_of_ble_eq_true rfl⟩ (fun H locs I => ?_)
        refine kx_if_eq 16 21 C dX3_wordNow_16 (by decide) (fun c9 => ?_) (fun c9 => ?_)
        · have hf := ifp c9 hf
          obtain ⟨x10, e11, hf⟩ := nmx_e hf
          refine kx_iinc 21 C (lv' := [(1, .int (iI x10)), (0, .ref (xB G + p0))]) dX3_wordNow_21 hl 1 rfl e11 (by decide) rfl (fun ls hl => ?_)
          refine kx_goto 24 2 C dX3_wordNow_24 (by decide) ?_
          exact ih1 _ _ _ _ _ _ hf I (lv_sub hl [1, 0] rfl)
        · have hf := ifn c9 hf
          refine kx_iload_n 19 C dX3_wordNow_19 (lv_at hl 1 rfl) ?_
          exact kx_iret 20 C I hf dX3_wordNow_20
set_option maxHeartbeats 4000000 in
set_option maxRecDepth 100000 in
theorem c_X3_wordNow (G : xG) (l : Launch) (fu : Nat) (S S' : xS) (p0 : Nat) (r : Int) (hf : f_X3_wordNow fu S p0 = some (r, S')) : Met l yX3_wordNow vsX3_wordNow rm_X3_wordNow (va_Pc [.ref (xB G + p0)] (xPre G S)) (xQi G r S') 0 0 (xA G) := by
  refine kx_met (ret := (some .int)) RX3 [(0, .ref (xB G + p0))] (by decide) rfl rfl (Nat.le_of_ble_eq_true rfl) rfl (fun p e s m below meth c ls C hin I hl => ?_)
  exact (w_X3_wordNow C r S' fu).1 S _ _ _ _ _ hf I hl
def rm_X3_hasPlace : Room := { frames := 0, cells := 0, slots := 0, locals := 0 }
theorem hin_X3_hasPlace_RX1 : ∀ w ∈ wsX10, w ∈ vsX3_hasPlace := fun w h => inM (inlX1 w h)
theorem fl_X3_hasPlace_96 : xFl vsX3_hasPlace RX3 96 1 6 := ⟨RX1, TX1, 14, rfl, by decide, hin_X3_hasPlace_RX1, inM mq_19_18, rfl⟩
theorem fl_X3_hasPlace_101 : xFl vsX3_hasPlace RX3 101 1 9 := ⟨RX1, TX1, 14, rfl, by decide, hin_X3_hasPlace_RX1, inM mq_19_19, rfl⟩
theorem nyS_X3_hasPlace : yX3_hasPlace.cls ≠ "java/lang/invoke/MethodHandle" ∧ yX3_hasPlace.cls ≠ "java/lang/invoke/VarHandle" ∧ (parseMethodDescriptor yX3_hasPlace.desc).map (fun d => d.parameters.length) = some 2 := by decide +kernel
set_option maxHeartbeats 4000000 in
set_option maxRecDepth 100000 in
theorem w_X3_hasPlace {G : xG} {p : Program} {l : Launch} {e : Env} {s : State} {m : MethodId} {args : Array Value} {below : List Frame} {meth : Method} {c : Code} (C : xK G p s m args meth c cX3_hasPlace 2 vsX3_hasPlace RX3 (some .boolean)) (r : Int) (S' : xS) : ∀ k : Nat,
  (∀ (S : xS) (p0 : Nat) (i0 : Int) (H : Heap) (locs : List Loc) (ls : Array Slot), g_X3_hasPlace k 0 S p0 i0 = some (r, S') → xI G S s H locs → lv_has ls 2 [(0, .ref (xB G + p0)), (1, .int (iI i0))] → W p l e rm_X3_hasPlace s m args below meth c H locs 0 0 (MQ below (xQi G r S') args s 0 0 (xA G)) (F0 m 0 ls [])) ∧
  (∀ (S : xS) (p0 : Nat) (i0 : Int) (H : Heap) (locs : List Loc) (ls : Array Slot), g_X3_hasPlace k 1 S p0 i0 = some (r, S') → xI G S s H locs → lv_has ls 2 [(0, .ref (xB G + p0))] → W p l e rm_X3_hasPlace s m args below meth c H locs 0 0 (MQ below (xQi G r S') args s 0 0 (xA G)) (F0 m 32 ls [])) := by
  intro k
  induction k with
  | zero => exact ⟨fun _ _ _ _ _ _ hf => (by cases hf), fun _ _ _ _ _ _ hf => (by cases hf)⟩
  | succ fu ih =>
    obtain ⟨ih0, ih1⟩ := ih
    refine ⟨?_, ?_⟩
    · intro S p0 i0 H locs ls hf I hl
      replace hf : b_X3_hasPlace_0 (g_X3_hasPlace fu) fu S p0 i0 = some (r, S') := hf
      unfold b_X3_hasPlace_0 at hf
      refine kx_iload_n 0 C dX3_hasPlace_0 (lv_at hl 1 rfl) ?_
      by_cases c1 : wI i0 = 5
      · have hf := ifp c1 hf
        refine kx_tabIn 1 32 C 5 dX3_hasPlace_1 c1 (by decide) rfl (by decide) ?_
        exact ih1 _ _ _ _ _ _ hf I (lv_sub hl [0] rfl)
      have hf := ifn c1 hf
      by_cases c2 : wI i0 = 6
      · have hf := ifp c2 hf
        refine kx_tabIn 1 32 C 6 dX3_hasPlace_1 c2 (by decide) rfl (by decide) ?_
        exact ih1 _ _ _ _ _ _ hf I (lv_sub hl [0] rfl)
      have hf := ifn c2 hf
      by_cases c3 : wI i0 = 7
      · have hf := ifp c3 hf
        refine kx_tabIn 1 61 C 7 dX3_hasPlace_1 c3 (by decide) rfl (by decide) ?_
        refine kx_iconst 61 C dX3_hasPlace_61 ?_
        exact kx_zret 62 C I (by decide) hf dX3_hasPlace_62
      have hf := ifn c3 hf
      by_cases c4 : wI i0 = 8
      · have hf := ifp c4 hf
        refine kx_tabIn 1 47 C 8 dX3_hasPlace_1 c4 (by decide) rfl (by decide) ?_
        refine kx_aload_n 47 C dX3_hasPlace_47 (lv_at hl 0 rfl) ?_
        obtain ⟨x6, h5, hf⟩ := ob hf
        refine kx_geti 48 C I fl_X3_hasPlace_101 h5 dX3_hasPlace_48 ?_
        refine kx_iconst 51 C dX3_hasPlace_51 ?_
        refine kx_icmp_ge 52 59 C dX3_hasPlace_52 (by decide) (fun c7 => ?_) (fun c7 => ?_)
        · have hf := ifp c7 hf
          refine kx_iconst 59 C dX3_hasPlace_59 ?_
          exact kx_zret 60 C I (by decide) hf dX3_hasPlace_60
        · have hf := ifn c7 hf
          refine kx_iconst 55 C dX3_hasPlace_55 ?_
          refine kx_goto 56 60 C dX3_hasPlace_56 (by decide) ?_
          exact kx_zret 60 C I (by decide) hf dX3_hasPlace_60
      have hf := ifn c4 hf
      refine kx_tabOut 1 61 C dX3_hasPlace_1 (by omega) (by decide) ?_
      refine kx_iconst 61 C dX3_hasPlace_61 ?_
      exact kx_zret 62 C I (by decide) hf dX3_hasPlace_62
    · intro S p0 i0 H locs ls hf I hl
      replace hf : b_X3_hasPlace_1 (g_X3_hasPlace fu) fu S p0 i0 = some (r, S') := hf
      unfold b_X3_hasPlace_1 at hf
      refine kx_aload_n 32 C dX3_hasPlace_32 (lv_at hl 0 rfl) ?_
      obtain ⟨x9, h8, hf⟩ := ob hf
      refine kx_geti 33 C I fl_X3_hasPlace_96 h8 dX3_hasPlace_33 ?_
      refine kx_bipush 36 C dX3_hasPlace_36 (by decide) ?_
      refine kx_icmp_ge 38 45 C dX3_hasPlace_38 (by decide) (fun c10 => ?_) (fun c10 => ?_)
      · have hf := ifp c10 hf
        refine kx_iconst 45 C dX3_hasPlace_45 ?_
        exact kx_zret 46 C I (by decide) hf dX3_hasPlace_46
      · have hf := ifn c10 hf
        refine kx_iconst 41 C dX3_hasPlace_41 ?_
        refine kx_goto 42 46 C dX3_hasPlace_42 (by decide) ?_
        exact kx_zret 46 C I (by decide) hf dX3_hasPlace_46
set_option maxHeartbeats 4000000 in
set_option maxRecDepth 100000 in
theorem c_X3_hasPlace (G : xG) (l : Launch) (fu : Nat) (S S' : xS) (p0 : Nat) (i0 : Int) (r : Int) (hf : f_X3_hasPlace fu S p0 i0 = some (r, S')) : Met l yX3_hasPlace vsX3_hasPlace rm_X3_hasPlace (va_Pc [.ref (xB G + p0), .int (iI i0)] (xPre G S)) (xQi G r S') 0 0 (xA G) := by
  refine kx_met (ret := (some .boolean)) RX3 [(0, .ref (xB G + p0)), (1, .int (iI i0))] (by decide) rfl rfl (Nat.le_of_ble_eq_true rfl) rfl (fun p e s m below meth c ls C hin I hl => ?_)
  exact (w_X3_hasPlace C r S' fu).1 S _ _ _ _ _ hf I hl
