def rm_X6_giveRules : Room := { frames := 0, cells := 0, slots := 0, locals := 0 }
theorem hin_X6_giveRules_RX6 : ∀ w ∈ wsX60, w ∈ vsX6_giveRules := fun w h => inM (inlX6 w h)
theorem fl_X6_giveRules_7 : xFl vsX6_giveRules RX6 7 5 0 := ⟨RX6, TX6, 30, rfl, by decide, hin_X6_giveRules_RX6, inM mq_4_16, rfl⟩
theorem fl_X6_giveRules_54 : xFl vsX6_giveRules RX6 54 5 20 := ⟨RX6, TX6, 30, rfl, by decide, hin_X6_giveRules_RX6, inM mq_5_7, rfl⟩
theorem nyS_X6_giveRules : yX6_giveRules.cls ≠ "java/lang/invoke/MethodHandle" ∧ yX6_giveRules.cls ≠ "java/lang/invoke/VarHandle" ∧ (parseMethodDescriptor yX6_giveRules.desc).map (fun d => d.parameters.length) = some 0 := by decide +kernel
theorem nyV_X6_giveRules : yX6_giveRules.cls = RX6 ∧ yX6_giveRules.cls ≠ "java/lang/invoke/MethodHandle" ∧ yX6_giveRules.cls ≠ "java/lang/invoke/VarHandle" ∧ (parseMethodDescriptor yX6_giveRules.desc).map (fun d => d.parameters.length) = some 0 := by decide +kernel
set_option maxHeartbeats 4000000 in
set_option maxRecDepth 100000 in
theorem w_X6_giveRules {G : xG} {p : Program} {l : Launch} {e : Env} {s : State} {m : MethodId} {args : Array Value} {below : List Frame} {meth : Method} {c : Code} (C : xK G p s m args meth c cX6_giveRules 2 vsX6_giveRules RX6 none) (r : Int) (S' : xS) : ∀ k : Nat,
  (∀ (S : xS) (p0 : Nat) (i0 : Int) (H : Heap) (locs : List Loc) (ls : Array Slot), g_X6_giveRules k 0 S p0 i0 = some (r, S') → xI G S s H locs → lv_has ls 2 [(0, .ref (xB G + p0))] → W p l e rm_X6_giveRules s m args below meth c H locs 0 0 (MQ below (xQv G S') args s 0 0 (xA G)) (F0 m 0 ls [])) ∧
  (∀ (S : xS) (p0 : Nat) (i0 : Int) (H : Heap) (locs : List Loc) (ls : Array Slot), g_X6_giveRules k 1 S p0 i0 = some (r, S') → xI G S s H locs → lv_has ls 2 [(0, .ref (xB G + p0)), (1, .int (iI i0))] → W p l e rm_X6_giveRules s m args below meth c H locs 0 0 (MQ below (xQv G S') args s 0 0 (xA G)) (F0 m 2 ls [])) := by
  intro k
  induction k with
  | zero => exact ⟨fun _ _ _ _ _ _ hf => (by cases hf), fun _ _ _ _ _ _ hf => (by cases hf)⟩
  | succ fu ih =>
    obtain ⟨ih0, ih1⟩ := ih
    refine ⟨?_, ?_⟩
    · intro S p0 i0 H locs ls hf I hl
      replace hf : b_X6_giveRules_0 (g_X6_giveRules fu) fu S p0 i0 = some (r, S') := hf
      unfold b_X6_giveRules_0 at hf
      refine kx_iconst 0 C dX6_giveRules_0 ?_
      refine kx_istore_n 1 C (lv' := [(1, .int (iI 0)), (0, .ref (xB G + p0))]) dX6_giveRules_1 hl (by decide) rfl rfl (fun ls hl => ?_)
      exact ih1 _ _ _ _ _ _ hf I (lv_sub hl [1, 0] rfl)
    · intro S p0 i0 H locs ls hf I hl
      replace hf : b_X6_giveRules_1 (g_X6_giveRules fu) fu S p0 i0 = some (r, S') := hf
      unfold b_X6_giveRules_1 at hf
      refine kx_iload_n 2 C dX6_giveRules_2 (lv_at hl 1 rfl) ?_
      refine kx_bipush 3 C dX6_giveRules_3 (by decide) ?_
      refine kx_icmp_ge 5 29 C dX6_giveRules_5 (by decide) (fun c1 => ?_) (fun c1 => ?_)
      · have hf := ifp c1 hf
        exact kx_vret 29 C I hf dX6_giveRules_29
      · have hf := ifn c1 hf
        refine kx_aload_n 8 C dX6_giveRules_8 (lv_at hl 0 rfl) ?_
        obtain ⟨q3, h2, hf⟩ := ob hf
        refine kx_getp 9 C I fl_X6_giveRules_7 h2 dX6_giveRules_9 ?_
        refine kx_bipush 12 C dX6_giveRules_12 (by decide) ?_
        refine kx_iload_n 14 C dX6_giveRules_14 (lv_at hl 1 rfl) ?_
        refine kx_iadd 15 C dX6_giveRules_15 ?_
        refine kx_aload_n 16 C dX6_giveRules_16 (lv_at hl 0 rfl) ?_
        obtain ⟨q5, h4, hf⟩ := ob hf
        refine kx_getp 17 C I fl_X6_giveRules_54 h4 dX6_giveRules_17 ?_
        refine kx_iload_n 20 C dX6_giveRules_20 (lv_at hl 1 rfl) ?_
        obtain ⟨x6, h7, hf⟩ := ob hf
        refine kx_iald 21 C I h7 dX6_giveRules_21 ?_
        obtain ⟨S9, h8, hf⟩ := ob hf
        refine kx_iast 22 C I h8 dX6_giveRules_22 (fun H locs I => ?_)
        obtain ⟨x10, e11, hf⟩ := nmx_e hf
        refine kx_iinc 23 C (lv' := [(1, .int (iI x10)), (0, .ref (xB G + p0))]) dX6_giveRules_23 hl 1 rfl e11 (by decide) rfl (fun ls hl => ?_)
        refine kx_goto 26 2 C dX6_giveRules_26 (by decide) ?_
        exact ih1 _ _ _ _ _ _ hf I (lv_sub hl [1, 0] rfl)
set_option maxHeartbeats 4000000 in
set_option maxRecDepth 100000 in
theorem c_X6_giveRules (G : xG) (l : Launch) (fu : Nat) (S S' : xS) (p0 : Nat) (r : Int) (hf : f_X6_giveRules fu S p0 = some (r, S')) : Met l yX6_giveRules vsX6_giveRules rm_X6_giveRules (va_Pc [.ref (xB G + p0)] (xPre G S)) (xQv G S') 0 0 (xA G) := by
  refine kx_met (ret := none) RX6 [(0, .ref (xB G + p0))] (by decide) rfl rfl (Nat.le_of_ble_eq_true rfl) rfl (fun p e s m below meth c ls C hin I hl => ?_)
  exact (w_X6_giveRules C r S' fu).1 S _ _ _ _ _ hf I hl
def rm_X6_tryRules : Room := { frames := 5, cells := 0, slots := 0, locals := 113 }
theorem hin_X6_tryRules_RX6 : ∀ w ∈ wsX60, w ∈ vsX6_tryRules := fun w h => inM (inlX6 w h)
theorem fl_X6_tryRules_7 : xFl vsX6_tryRules RX6 7 5 0 := ⟨RX6, TX6, 30, rfl, by decide, hin_X6_tryRules_RX6, inM mq_4_16, rfl⟩
theorem fl_X6_tryRules_51 : xFl vsX6_tryRules RX6 51 5 19 := ⟨RX6, TX6, 30, rfl, by decide, hin_X6_tryRules_RX6, inM mq_5_6, rfl⟩
theorem nyS_X6_tryRules : yX6_tryRules.cls ≠ "java/lang/invoke/MethodHandle" ∧ yX6_tryRules.cls ≠ "java/lang/invoke/VarHandle" ∧ (parseMethodDescriptor yX6_tryRules.desc).map (fun d => d.parameters.length) = some 0 := by decide +kernel
theorem nyV_X6_tryRules : yX6_tryRules.cls = RX6 ∧ yX6_tryRules.cls ≠ "java/lang/invoke/MethodHandle" ∧ yX6_tryRules.cls ≠ "java/lang/invoke/VarHandle" ∧ (parseMethodDescriptor yX6_tryRules.desc).map (fun d => d.parameters.length) = some 0 := by decide +kernel
set_option maxHeartbeats 4000000 in
set_option maxRecDepth 100000 in
theorem w_X6_tryRules {G : xG} {p : Program} {l : Launch} {e : Env} {s : State} {m : MethodId} {args : Array Value} {below : List Frame} {meth : Method} {c : Code} (C : xK G p s m args meth c cX6_tryRules 3 vsX6_tryRules RX6 none) (r : Int) (S' : xS) : ∀ k : Nat,
  (∀ (S : xS) (p0 p1 : Nat) (i0 i1 i2 i3 : Int) (H : Heap) (locs : List Loc) (ls : Array Slot), g_X6_tryRules k 0 S p0 p1 i0 i1 i2 i3 = some (r, S') → xI G S s H locs → lv_has ls 3 [(0, .ref (xB G + p0))] → W p l e rm_X6_tryRules s m args below meth c H locs 0 0 (MQ below (xQv G S') args s 0 0 (xA G)) (F0 m 0 ls [])) ∧
  (∀ (S : xS) (p0 p1 : Nat) (i0 i1 i2 i3 : Int) (H : Heap) (locs : List Loc) (ls : Array Slot), g_X6_tryRules k 1 S p0 p1 i0 i1 i2 i3 = some (r, S') → xI G S s H locs → lv_has ls 3 [(0, .ref (xB G + p0)), (1, .int (iI i0))] → W p l e rm_X6_tryRules s m args below meth c H locs 0 0 (MQ below (xQv G S') args s 0 0 (xA G)) (F0 m 2 ls [])) ∧
  (∀ (S : xS) (p0 p1 : Nat) (i0 i1 i2 i3 : Int) (H : Heap) (locs : List Loc) (ls : Array Slot), g_X6_tryRules k 2 S p0 p1 i0 i1 i2 i3 = some (r, S') → xI G S s H locs → lv_has ls 3 [(0, .ref (xB G + p0)), (1, .int (iI i0)), (2, .int (iI i1))] → W p l e rm_X6_tryRules s m args below meth c H locs 0 0 (MQ below (xQv G S') args s 0 0 (xA G)) (F0 m 9 ls [])) ∧
  (∀ (S : xS) (p0 p1 : Nat) (i0 i1 i2 i3 : Int) (H : Heap) (locs : List Loc) (ls : Array Slot), g_X6_tryRules k 3 S p0 p1 i0 i1 i2 i3 = some (r, S') → xI G S s H locs → lv_has ls 3 [(0, .ref (xB G + p0)), (1, .int (iI i0))] → W p l e rm_X6_tryRules s m args below meth c H locs 0 0 (MQ below (xQv G S') args s 0 0 (xA G)) (F0 m 56 ls [.int (iI i3), .int (iI i2), .int (iI i1), .ref (xB G + p1)])) := by
  intro k
  induction k with
  | zero => exact ⟨fun _ _ _ _ _ _ _ _ _ _ hf => (by cases hf), fun _ _ _ _ _ _ _ _ _ _ hf => (by cases hf), fun _ _ _ _ _ _ _ _ _ _ hf => (by cases hf), fun _ _ _ _ _ _ _ _ _ _ hf => (by cases hf)⟩
  | succ fu ih =>
    obtain ⟨ih0, ih1, ih2, ih3⟩ := ih
    refine ⟨?_, ?_, ?_, ?_⟩
    · intro S p0 p1 i0 i1 i2 i3 H locs ls hf I hl
      replace hf : b_X6_tryRules_0 (g_X6_tryRules fu) fu S p0 p1 i0 i1 i2 i3 = some (r, S') := hf
      unfold b_X6_tryRules_0 at hf
      refine kx_iconst 0 C dX6_tryRules_0 ?_
      refine kx_istore_n 1 C (lv' := [(1, .int (iI 0)), (0, .ref (xB G + p0))]) dX6_tryRules_1 hl (by decide) rfl rfl (fun ls hl => ?_)
      exact ih1 _ _ _ _ _ _ _ _ _ _ hf I (lv_sub hl [1, 0] rfl)
    · intro S p0 p1 i0 i1 i2 i3 H locs ls hf I hl
      replace hf : b_X6_tryRules_1 (g_X6_tryRules fu) fu S p0 p1 i0 i1 i2 i3 = some (r, S') := hf
      unfold b_X6_tryRules_1 at hf
      refine kx_iload_n 2 C dX6_tryRules_2 (lv_at hl 1 rfl) ?_
      refine kx_iconst 3 C dX6_tryRules_3 ?_
      refine kx_icmp_gt 4 64 C dX6_tryRules_4 (by decide) (fun c1 => ?_) (fun c1 => ?_)
      · have hf := ifp c1 hf
        refine kx_aload_n 64 C dX6_tryRules_64 (lv_at hl 0 rfl) ?_
        obtain ⟨h5, hf⟩ := ift hf
        obtain ⟨z4, S2, h3, hf⟩ := ob2 hf
        refine kx_callVv 65 C hl I (ci := 5) (As := []) (rest := []) (c_X6_giveRules G l fu _ _ _ _ h3) (cwV 0 C.ts gX6_tryRules_X6_giveRules rfl rfl rfl nyV_X6_giveRules ⟨Nat.le_of_ble_eq_true rfl, Nat.le_of_ble_eq_true rfl⟩) rfl h5 rfl rfl (Nat.le_of_ble_eq_true rfl) dX6_tryRules_65 ⟨Nat.le_of_ble_eq_true rfl, Nat.le_of_ble_eq_true rfl⟩ (fun H locs I => ?_)
        exact kx_vret 68 C I hf dX6_tryRules_68
      · have hf := ifn c1 hf
        refine kx_iconst 7 C dX6_tryRules_7 ?_
        refine kx_istore_n 8 C (lv' := [(2, .int (iI 0)), (0, .ref (xB G + p0)), (1, .int (iI i0))]) dX6_tryRules_8 hl (by decide) rfl rfl (fun ls hl => ?_)
        exact ih2 _ _ _ _ _ _ _ _ _ _ hf I (lv_sub hl [1, 2, 0] rfl)
    · intro S p0 p1 i0 i1 i2 i3 H locs ls hf I hl
      replace hf : b_X6_tryRules_2 (g_X6_tryRules fu) fu S p0 p1 i0 i1 i2 i3 = some (r, S') := hf
      unfold b_X6_tryRules_2 at hf
      refine kx_iload_n 9 C dX6_tryRules_9 (lv_at hl 2 rfl) ?_
      refine kx_aload_n 10 C dX6_tryRules_10 (lv_at hl 0 rfl) ?_
      obtain ⟨h9, hf⟩ := ift hf
      obtain ⟨x8, S6, h7, hf⟩ := ob2 hf
      refine kx_callVi 11 C hl I (ci := 5) (As := []) (rest := [.int (iI i1)]) (c_X6_n G l fu _ _ _ _ h7) (cwV 0 C.ts gX6_tryRules_X6_n rfl rfl rfl nyV_X6_n ⟨Nat.le_of_ble_eq_true rfl, Nat.le_of_ble_eq_true rfl⟩) rfl h9 rfl rfl (Nat.le_of_ble_eq_true rfl) dX6_tryRules_11 ⟨Nat.le_of_ble_eq_true rfl, Nat.le_of_ble_eq_true rfl⟩ (fun H locs I => ?_)
      refine kx_icmp_ge 14 33 C dX6_tryRules_14 (by decide) (fun c10 => ?_) (fun c10 => ?_)
      · have hf := ifp c10 hf
        refine kx_aload_n 33 C dX6_tryRules_33 (lv_at hl 0 rfl) ?_
        obtain ⟨q12, h11, hf⟩ := ob hf
        refine kx_getp 34 C I fl_X6_tryRules_51 h11 dX6_tryRules_34 ?_
        refine kx_iload_n 37 C dX6_tryRules_37 (lv_at hl 1 rfl) ?_
        refine kx_dup2 38 C dX6_tryRules_38 rfl rfl ?_
        obtain ⟨x13, h14, hf⟩ := ob hf
        refine kx_iald 39 C I h14 dX6_tryRules_39 ?_
        refine kx_aload_n 40 C dX6_tryRules_40 (lv_at hl 0 rfl) ?_
        obtain ⟨h18, hf⟩ := ift hf
        obtain ⟨x17, S15, h16, hf⟩ := ob2 hf
        refine kx_callVi 41 C hl I (ci := 5) (As := []) (rest := [.int (iI x13), .int (iI i0), .ref (xB G + q12)]) (c_X6_findsHand G l fu _ _ _ _ h16) (cwV 0 C.ts gX6_tryRules_X6_findsHand rfl rfl rfl nyV_X6_findsHand ⟨Nat.le_of_ble_eq_true rfl, Nat.le_of_ble_eq_true rfl⟩) rfl h18 rfl rfl (Nat.le_of_ble_eq_true rfl) dX6_tryRules_41 ⟨Nat.le_of_ble_eq_true rfl, Nat.le_of_ble_eq_true rfl⟩ (fun H locs I => ?_)
        refine kx_aload_n 44 C dX6_tryRules_44 (lv_at hl 0 rfl) ?_
        obtain ⟨h22, hf⟩ := ift hf
        obtain ⟨x21, S19, h20, hf⟩ := ob2 hf
        refine kx_callVi 45 C hl I (ci := 5) (As := []) (rest := [.int (iI x17), .int (iI x13), .int (iI i0), .ref (xB G + q12)]) (c_X6_all G l fu _ _ _ _ h20) (cwV 0 C.ts gX6_tryRules_X6_all rfl rfl rfl nyV_X6_all ⟨Nat.le_of_ble_eq_true rfl, Nat.le_of_ble_eq_true rfl⟩) rfl h22 rfl rfl (Nat.le_of_ble_eq_true rfl) dX6_tryRules_45 ⟨Nat.le_of_ble_eq_true rfl, Nat.le_of_ble_eq_true rfl⟩ (fun H locs I => ?_)
        refine kx_icmp_ne 48 55 C dX6_tryRules_48 (by decide) (fun c23 => ?_) (fun c23 => ?_)
        · have hf := ifn c23 hf
          refine kx_iconst 55 C dX6_tryRules_55 ?_
          exact ih3 _ _ _ _ _ _ _ _ _ _ hf I (lv_sub hl [0, 1] rfl)
        · have hf := ifp c23 hf
          refine kx_iconst 51 C dX6_tryRules_51 ?_
          refine kx_goto 52 56 C dX6_tryRules_52 (by decide) ?_
          exact ih3 _ _ _ _ _ _ _ _ _ _ hf I (lv_sub hl [0, 1] rfl)
      · have hf := ifn c10 hf
        refine kx_aload_n 17 C dX6_tryRules_17 (lv_at hl 0 rfl) ?_
        obtain ⟨q25, h24, hf⟩ := ob hf
        refine kx_getp 18 C I fl_X6_tryRules_7 h24 dX6_tryRules_18 ?_
        refine kx_bipush 21 C dX6_tryRules_21 (by decide) ?_
        refine kx_iload_n 23 C dX6_tryRules_23 (lv_at hl 2 rfl) ?_
        refine kx_iadd 24 C dX6_tryRules_24 ?_
        refine kx_iload_n 25 C dX6_tryRules_25 (lv_at hl 1 rfl) ?_
        obtain ⟨S27, h26, hf⟩ := ob hf
        refine kx_iast 26 C I h26 dX6_tryRules_26 (fun H locs I => ?_)
        obtain ⟨x28, e29, hf⟩ := nmx_e hf
        refine kx_iinc 27 C (lv' := [(2, .int (iI x28)), (0, .ref (xB G + p0)), (1, .int (iI i0))]) dX6_tryRules_27 hl 2 rfl e29 (by decide) rfl (fun ls hl => ?_)
        refine kx_goto 30 9 C dX6_tryRules_30 (by decide) ?_
        exact ih2 _ _ _ _ _ _ _ _ _ _ hf I (lv_sub hl [1, 2, 0] rfl)
    · intro S p0 p1 i0 i1 i2 i3 H locs ls hf I hl
      replace hf : b_X6_tryRules_3 (g_X6_tryRules fu) fu S p0 p1 i0 i1 i2 i3 = some (r, S') := hf
      unfold b_X6_tryRules_3 at hf
      refine kx_iadd 56 C dX6_tryRules_56 ?_
      obtain ⟨S31, h30, hf⟩ := ob hf
      refine kx_iast 57 C I h30 dX6_tryRules_57 (fun H locs I => ?_)
      obtain ⟨x32, e33, hf⟩ := nmx_e hf
      refine kx_iinc 58 C (lv' := [(1, .int (iI x32)), (0, .ref (xB G + p0))]) dX6_tryRules_58 hl 1 rfl e33 (by decide) rfl (fun ls hl => ?_)
      refine kx_goto 61 2 C dX6_tryRules_61 (by decide) ?_
      exact ih1 _ _ _ _ _ _ _ _ _ _ hf I (lv_sub hl [1, 0] rfl)
set_option maxHeartbeats 4000000 in
set_option maxRecDepth 100000 in
theorem c_X6_tryRules (G : xG) (l : Launch) (fu : Nat) (S S' : xS) (p0 : Nat) (r : Int) (hf : f_X6_tryRules fu S p0 = some (r, S')) : Met l yX6_tryRules vsX6_tryRules rm_X6_tryRules (va_Pc [.ref (xB G + p0)] (xPre G S)) (xQv G S') 0 0 (xA G) := by
  refine kx_met (ret := none) RX6 [(0, .ref (xB G + p0))] (by decide) rfl rfl (Nat.le_of_ble_eq_true rfl) rfl (fun p e s m below meth c ls C hin I hl => ?_)
  exact (w_X6_tryRules C r S' fu).1 S _ _ _ _ _ _ _ _ _ hf I hl
def rm_X6_advice : Room := { frames := 6, cells := 0, slots := 0, locals := 135 }
theorem hin_X6_advice_RX6 : ∀ w ∈ wsX60, w ∈ vsX6_advice := fun w h => inM (inlX6 w h)
theorem fl_X6_advice_51 : xFl vsX6_advice RX6 51 5 19 := ⟨RX6, TX6, 30, rfl, by decide, hin_X6_advice_RX6, inM mq_5_6, rfl⟩
theorem nyS_X6_advice : yX6_advice.cls ≠ "java/lang/invoke/MethodHandle" ∧ yX6_advice.cls ≠ "java/lang/invoke/VarHandle" ∧ (parseMethodDescriptor yX6_advice.desc).map (fun d => d.parameters.length) = some 0 := by decide +kernel
theorem nyV_X6_advice : yX6_advice.cls = RX6 ∧ yX6_advice.cls ≠ "java/lang/invoke/MethodHandle" ∧ yX6_advice.cls ≠ "java/lang/invoke/VarHandle" ∧ (parseMethodDescriptor yX6_advice.desc).map (fun d => d.parameters.length) = some 0 := by decide +kernel
set_option maxHeartbeats 4000000 in
set_option maxRecDepth 100000 in
theorem w_X6_advice {G : xG} {p : Program} {l : Launch} {e : Env} {s : State} {m : MethodId} {args : Array Value} {below : List Frame} {meth : Method} {c : Code} (C : xK G p s m args meth c cX6_advice 4 vsX6_advice RX6 (some .int)) (r : Int) (S' : xS) : ∀ k : Nat,
  (∀ (S : xS) (p0 : Nat) (i0 i1 i2 : Int) (H : Heap) (locs : List Loc) (ls : Array Slot), g_X6_advice k 0 S p0 i0 i1 i2 = some (r, S') → xI G S s H locs → lv_has ls 4 [(0, .ref (xB G + p0))] → W p l e rm_X6_advice s m args below meth c H locs 0 0 (MQ below (xQi G r S') args s 0 0 (xA G)) (F0 m 0 ls [])) ∧
  (∀ (S : xS) (p0 : Nat) (i0 i1 i2 : Int) (H : Heap) (locs : List Loc) (ls : Array Slot), g_X6_advice k 1 S p0 i0 i1 i2 = some (r, S') → xI G S s H locs → lv_has ls 4 [(0, .ref (xB G + p0)), (1, .int (iI i0)), (2, .int (iI i1))] → W p l e rm_X6_advice s m args below meth c H locs 0 0 (MQ below (xQi G r S') args s 0 0 (xA G)) (F0 m 8 ls [])) ∧
  (∀ (S : xS) (p0 : Nat) (i0 i1 i2 : Int) (H : Heap) (locs : List Loc) (ls : Array Slot), g_X6_advice k 2 S p0 i0 i1 i2 = some (r, S') → xI G S s H locs → lv_has ls 4 [(0, .ref (xB G + p0)), (1, .int (iI i0)), (2, .int (iI i1))] → W p l e rm_X6_advice s m args below meth c H locs 0 0 (MQ below (xQi G r S') args s 0 0 (xA G)) (F0 m 28 ls [])) ∧
  (∀ (S : xS) (p0 : Nat) (i0 i1 i2 : Int) (H : Heap) (locs : List Loc) (ls : Array Slot), g_X6_advice k 3 S p0 i0 i1 i2 = some (r, S') → xI G S s H locs → lv_has ls 4 [(0, .ref (xB G + p0)), (1, .int (iI i0)), (2, .int (iI i1))] → W p l e rm_X6_advice s m args below meth c H locs 0 0 (MQ below (xQi G r S') args s 0 0 (xA G)) (F0 m 55 ls [])) ∧
  (∀ (S : xS) (p0 : Nat) (i0 i1 i2 : Int) (H : Heap) (locs : List Loc) (ls : Array Slot), g_X6_advice k 4 S p0 i0 i1 i2 = some (r, S') → xI G S s H locs → lv_has ls 4 [(0, .ref (xB G + p0)), (1, .int (iI i0)), (2, .int (iI i1)), (3, .int (iI i2))] → W p l e rm_X6_advice s m args below meth c H locs 0 0 (MQ below (xQi G r S') args s 0 0 (xA G)) (F0 m 74 ls [])) ∧
  (∀ (S : xS) (p0 : Nat) (i0 i1 i2 : Int) (H : Heap) (locs : List Loc) (ls : Array Slot), g_X6_advice k 5 S p0 i0 i1 i2 = some (r, S') → xI G S s H locs → lv_has ls 4 [(0, .ref (xB G + p0)), (1, .int (iI i0)), (3, .int (iI i1))] → W p l e rm_X6_advice s m args below meth c H locs 0 0 (MQ below (xQi G r S') args s 0 0 (xA G)) (F0 m 99 ls [.int (iI i2)])) := by
  intro k
  induction k with
  | zero => exact ⟨fun _ _ _ _ _ _ _ _ hf => (by cases hf), fun _ _ _ _ _ _ _ _ hf => (by cases hf), fun _ _ _ _ _ _ _ _ hf => (by cases hf), fun _ _ _ _ _ _ _ _ hf => (by cases hf), fun _ _ _ _ _ _ _ _ hf => (by cases hf), fun _ _ _ _ _ _ _ _ hf => (by cases hf)⟩
  | succ fu ih =>
    obtain ⟨ih0, ih1, ih2, ih3, ih4, ih5⟩ := ih
    refine ⟨?_, ?_, ?_, ?_, ?_, ?_⟩
    · intro S p0 i0 i1 i2 H locs ls hf I hl
      replace hf : b_X6_advice_0 (g_X6_advice fu) fu S p0 i0 i1 i2 = some (r, S') := hf
      unfold b_X6_advice_0 at hf
      refine kx_iconst 0 C dX6_advice_0 ?_
      refine kx_istore_n 1 C (lv' := [(1, .int (iI 0)), (0, .ref (xB G + p0))]) dX6_advice_1 hl (by decide) rfl rfl (fun ls hl => ?_)
      refine kx_aload_n 2 C dX6_advice_2 (lv_at hl 1 rfl) ?_
      obtain ⟨h4, hf⟩ := ift hf
      obtain ⟨z3, S1, h2, hf⟩ := ob2 hf
      refine kx_callVv 3 C hl I (ci := 5) (As := []) (rest := []) (c_X6_takeRules G l fu _ _ _ _ h2) (cwV 0 C.ts gX6_advice_X6_takeRules rfl rfl rfl nyV_X6_takeRules ⟨Nat.le_of_ble_eq_true rfl, Nat.le_of_ble_eq_true rfl⟩) rfl h4 rfl rfl (Nat.le_of_ble_eq_true rfl) dX6_advice_3 ⟨Nat.le_of_ble_eq_true rfl, Nat.le_of_ble_eq_true rfl⟩ (fun H locs I => ?_)
      refine kx_iconst 6 C dX6_advice_6 ?_
      refine kx_istore_n 7 C (lv' := [(2, .int (iI 0)), (1, .int (iI 0)), (0, .ref (xB G + p0))]) dX6_advice_7 hl (by decide) rfl rfl (fun ls hl => ?_)
      exact ih1 _ _ _ _ _ _ _ _ hf I (lv_sub hl [2, 1, 0] rfl)
    · intro S p0 i0 i1 i2 H locs ls hf I hl
      replace hf : b_X6_advice_1 (g_X6_advice fu) fu S p0 i0 i1 i2 = some (r, S') := hf
      unfold b_X6_advice_1 at hf
      refine kx_iload_n 8 C dX6_advice_8 (lv_at hl 2 rfl) ?_
      refine kx_iconst 9 C dX6_advice_9 ?_
      refine kx_icmp_gt 10 26 C dX6_advice_10 (by decide) (fun c5 => ?_) (fun c5 => ?_)
      · have hf := ifp c5 hf
        refine kx_iconst 26 C dX6_advice_26 ?_
        refine kx_istore_n 27 C (lv' := [(2, .int (iI 0)), (0, .ref (xB G + p0)), (1, .int (iI i0))]) dX6_advice_27 hl (by decide) rfl rfl (fun ls hl => ?_)
        exact ih2 _ _ _ _ _ _ _ _ hf I (lv_sub hl [1, 2, 0] rfl)
      · have hf := ifn c5 hf
        refine kx_aload_n 13 C dX6_advice_13 (lv_at hl 0 rfl) ?_
        obtain ⟨q7, h6, hf⟩ := ob hf
        refine kx_getp 14 C I fl_X6_advice_51 h6 dX6_advice_14 ?_
        refine kx_iload_n 17 C dX6_advice_17 (lv_at hl 2 rfl) ?_
        refine kx_iconst 18 C dX6_advice_18 ?_
        obtain ⟨S9, h8, hf⟩ := ob hf
        refine kx_iast 19 C I h8 dX6_advice_19 (fun H locs I => ?_)
        obtain ⟨x10, e11, hf⟩ := nmx_e hf
        refine kx_iinc 20 C (lv' := [(2, .int (iI x10)), (0, .ref (xB G + p0)), (1, .int (iI i0))]) dX6_advice_20 hl 2 rfl e11 (by decide) rfl (fun ls hl => ?_)
        refine kx_goto 23 8 C dX6_advice_23 (by decide) ?_
        exact ih1 _ _ _ _ _ _ _ _ hf I (lv_sub hl [1, 2, 0] rfl)
    · intro S p0 i0 i1 i2 H locs ls hf I hl
      replace hf : b_X6_advice_2 (g_X6_advice fu) fu S p0 i0 i1 i2 = some (r, S') := hf
      unfold b_X6_advice_2 at hf
      refine kx_iload_n 28 C dX6_advice_28 (lv_at hl 2 rfl) ?_
      refine kx_aload_n 29 C dX6_advice_29 (lv_at hl 0 rfl) ?_
      obtain ⟨h15, hf⟩ := ift hf
      obtain ⟨x14, S12, h13, hf⟩ := ob2 hf
      refine kx_callVi 30 C hl I (ci := 5) (As := []) (rest := [.int (iI i1)]) (c_X6_ways G l fu _ _ _ _ h13) (cwV 0 C.ts gX6_advice_X6_ways rfl rfl rfl nyV_X6_ways ⟨Nat.le_of_ble_eq_true rfl, Nat.le_of_ble_eq_true rfl⟩) rfl h15 rfl rfl (Nat.le_of_ble_eq_true rfl) dX6_advice_30 ⟨Nat.le_of_ble_eq_true rfl, Nat.le_of_ble_eq_true rfl⟩ (fun H locs I => ?_)
      refine kx_icmp_ge 33 61 C dX6_advice_33 (by decide) (fun c16 => ?_) (fun c16 => ?_)
      · have hf := ifp c16 hf
        refine kx_iload_n 61 C dX6_advice_61 (lv_at hl 1 rfl) ?_
        refine kx_if_ne 62 70 C dX6_advice_62 (by decide) (fun c17 => ?_) (fun c17 => ?_)
        · have hf := ifn c17 hf
          refine kx_iconst 70 C dX6_advice_70 ?_
          refine kx_istore_n 71 C (lv' := [(2, .int (iI 0)), (0, .ref (xB G + p0)), (1, .int (iI i0))]) dX6_advice_71 hl (by decide) rfl rfl (fun ls hl => ?_)
          refine kx_iconst 72 C dX6_advice_72 ?_
          refine kx_istore_n 73 C (lv' := [(3, .int (iI 1)), (2, .int (iI 0)), (0, .ref (xB G + p0)), (1, .int (iI i0))]) dX6_advice_73 hl (by decide) rfl rfl (fun ls hl => ?_)
          exact ih4 _ _ _ _ _ _ _ _ hf I (lv_sub hl [2, 3, 1, 0] rfl)
        · have hf := ifp c17 hf
          refine kx_aload_n 65 C dX6_advice_65 (lv_at hl 0 rfl) ?_
          obtain ⟨h21, hf⟩ := ift hf
          obtain ⟨x20, S18, h19, hf⟩ := ob2 hf
          refine kx_callVi 66 C hl I (ci := 5) (As := []) (rest := []) (c_X6_no G l fu _ _ _ _ h19) (cwV 0 C.ts gX6_advice_X6_no rfl rfl rfl nyV_X6_no ⟨Nat.le_of_ble_eq_true rfl, Nat.le_of_ble_eq_true rfl⟩) rfl h21 rfl rfl (Nat.le_of_ble_eq_true rfl) dX6_advice_66 ⟨Nat.le_of_ble_eq_true rfl, Nat.le_of_ble_eq_true rfl⟩ (fun H locs I => ?_)
          exact kx_iret 69 C I hf dX6_advice_69
      · have hf := ifn c16 hf
        refine kx_aload_n 36 C dX6_advice_36 (lv_at hl 0 rfl) ?_
        refine kx_iload_n 37 C dX6_advice_37 (lv_at hl 2 rfl) ?_
        obtain ⟨h25, hf⟩ := ift hf
        obtain ⟨z24, S22, h23, hf⟩ := ob2 hf
        refine kx_callVv 38 C hl I (ci := 5) (As := [.int (iI i1)]) (rest := []) (c_X6_takeRank G l fu _ _ _ _ _ h23) (cwV 1 C.ts gX6_advice_X6_takeRank rfl rfl rfl nyV_X6_takeRank ⟨Nat.le_of_ble_eq_true rfl, Nat.le_of_ble_eq_true rfl⟩) rfl h25 rfl rfl (Nat.le_of_ble_eq_true rfl) dX6_advice_38 ⟨Nat.le_of_ble_eq_true rfl, Nat.le_of_ble_eq_true rfl⟩ (fun H locs I => ?_)
        refine kx_aload_n 41 C dX6_advice_41 (lv_at hl 0 rfl) ?_
        obtain ⟨h29, hf⟩ := ift hf
        obtain ⟨x28, S26, h27, hf⟩ := ob2 hf
        refine kx_callVi 42 C hl I (ci := 5) (As := []) (rest := []) (c_X6_isSo G l fu _ _ _ _ h27) (cwV 0 C.ts gX6_advice_X6_isSo rfl rfl rfl nyV_X6_isSo ⟨Nat.le_of_ble_eq_true rfl, Nat.le_of_ble_eq_true rfl⟩) rfl h29 rfl rfl (Nat.le_of_ble_eq_true rfl) dX6_advice_42 ⟨Nat.le_of_ble_eq_true rfl, Nat.le_of_ble_eq_true rfl⟩ (fun H locs I => ?_)
        refine kx_if_eq 45 55 C dX6_advice_45 (by decide) (fun c30 => ?_) (fun c30 => ?_)
        · have hf := ifp c30 hf
          exact ih3 _ _ _ _ _ _ _ _ hf I (lv_sub hl [0, 1, 2] rfl)
        · have hf := ifn c30 hf
          obtain ⟨x31, e32, hf⟩ := nmx_e hf
          refine kx_iinc 48 C (lv' := [(1, .int (iI x31)), (0, .ref (xB G + p0)), (2, .int (iI i1))]) dX6_advice_48 hl 1 rfl e32 (by decide) rfl (fun ls hl => ?_)
          refine kx_aload_n 51 C dX6_advice_51 (lv_at hl 1 rfl) ?_
          obtain ⟨h36, hf⟩ := ift hf
          obtain ⟨z35, S33, h34, hf⟩ := ob2 hf
          refine kx_callVv 52 C hl I (ci := 5) (As := []) (rest := []) (c_X6_tryRules G l fu _ _ _ _ h34) (cwV 0 C.ts gX6_advice_X6_tryRules rfl rfl rfl nyV_X6_tryRules ⟨Nat.le_of_ble_eq_true rfl, Nat.le_of_ble_eq_true rfl⟩) rfl h36 rfl rfl (Nat.le_of_ble_eq_true rfl) dX6_advice_52 ⟨Nat.le_of_ble_eq_true rfl, Nat.le_of_ble_eq_true rfl⟩ (fun H locs I => ?_)
          exact ih3 _ _ _ _ _ _ _ _ hf I (lv_sub hl [1, 0, 2] rfl)
    · intro S p0 i0 i1 i2 H locs ls hf I hl
      replace hf : b_X6_advice_3 (g_X6_advice fu) fu S p0 i0 i1 i2 = some (r, S') := hf
      unfold b_X6_advice_3 at hf
      obtain ⟨x37, e38, hf⟩ := nmx_e hf
      refine kx_iinc 55 C (lv' := [(2, .int (iI x37)), (0, .ref (xB G + p0)), (1, .int (iI i0))]) dX6_advice_55 hl 2 rfl e38 (by decide) rfl (fun ls hl => ?_)
      refine kx_goto 58 28 C dX6_advice_58 (by decide) ?_
      exact ih2 _ _ _ _ _ _ _ _ hf I (lv_sub hl [1, 2, 0] rfl)
    · intro S p0 i0 i1 i2 H locs ls hf I hl
      replace hf : b_X6_advice_4 (g_X6_advice fu) fu S p0 i0 i1 i2 = some (r, S') := hf
      unfold b_X6_advice_4 at hf
      refine kx_iload_n 74 C dX6_advice_74 (lv_at hl 3 rfl) ?_
      refine kx_iconst 75 C dX6_advice_75 ?_
      refine kx_icmp_gt 76 106 C dX6_advice_76 (by decide) (fun c39 => ?_) (fun c39 => ?_)
      · have hf := ifp c39 hf
        refine kx_aload_n 106 C dX6_advice_106 (lv_at hl 0 rfl) ?_
        refine kx_aload_n 107 C dX6_advice_107 (lv_at hl 0 rfl) ?_
        obtain ⟨q41, h40, hf⟩ := ob hf
        refine kx_getp 108 C I fl_X6_advice_51 h40 dX6_advice_108 ?_
        refine kx_iload_n 111 C dX6_advice_111 (lv_at hl 2 rfl) ?_
        obtain ⟨x42, h43, hf⟩ := ob hf
        refine kx_iald 112 C I h43 dX6_advice_112 ?_
        refine kx_i2l 113 C dX6_advice_113 ?_
        refine kx_iload_n 114 C dX6_advice_114 (lv_at hl 1 rfl) ?_
        refine kx_i2l 115 C dX6_advice_115 ?_
        obtain ⟨h47, hf⟩ := ift hf
        obtain ⟨x46, S44, h45, hf⟩ := ob2 hf
        refine kx_callVi 116 C hl I (ci := 5) (As := [.long (lI (wI x42)), .long (lI (wI i0))]) (rest := []) (c_X6_tell G l fu _ _ _ _ _ _ h45) (cwV 2 C.ts gX6_advice_X6_tell rfl rfl rfl nyV_X6_tell ⟨Nat.le_of_ble_eq_true rfl, Nat.le_of_ble_eq_true rfl⟩) rfl h47 rfl rfl (Nat.le_of_ble_eq_true rfl) dX6_advice_116 ⟨Nat.le_of_ble_eq_true rfl, Nat.le_of_ble_eq_true rfl⟩ (fun H locs I => ?_)
        refine kx_istore_n 119 C (lv' := [(3, .int (iI x46)), (0, .ref (xB G + p0)), (1, .int (iI i0)), (2, .int (iI i1))]) dX6_advice_119 hl (by decide) rfl rfl (fun ls hl => ?_)
        refine kx_iload_n 120 C dX6_advice_120 (lv_at hl 3 rfl) ?_
        exact kx_iret 121 C I hf dX6_advice_121
      · have hf := ifn c39 hf
        refine kx_aload_n 79 C dX6_advice_79 (lv_at hl 0 rfl) ?_
        obtain ⟨q49, h48, hf⟩ := ob hf
        refine kx_getp 80 C I fl_X6_advice_51 h48 dX6_advice_80 ?_
        refine kx_iload_n 83 C dX6_advice_83 (lv_at hl 3 rfl) ?_
        obtain ⟨x50, h51, hf⟩ := ob hf
        refine kx_iald 84 C I h51 dX6_advice_84 ?_
        refine kx_aload_n 85 C dX6_advice_85 (lv_at hl 0 rfl) ?_
        obtain ⟨q53, h52, hf⟩ := ob hf
        refine kx_getp 86 C I fl_X6_advice_51 h52 dX6_advice_86 ?_
        refine kx_iload_n 89 C dX6_advice_89 (lv_at hl 2 rfl) ?_
        obtain ⟨x54, h55, hf⟩ := ob hf
        refine kx_iald 90 C I h55 dX6_advice_90 ?_
        refine kx_icmp_le 91 98 C dX6_advice_91 (by decide) (fun c56 => ?_) (fun c56 => ?_)
        · have hf := ifp c56 hf
          refine kx_iload_n 98 C dX6_advice_98 (lv_at hl 2 rfl) ?_
          exact ih5 _ _ _ _ _ _ _ _ hf I (lv_sub hl [0, 1, 3] rfl)
        · have hf := ifn c56 hf
          refine kx_iload_n 94 C dX6_advice_94 (lv_at hl 3 rfl) ?_
          refine kx_goto 95 99 C dX6_advice_95 (by decide) ?_
          exact ih5 _ _ _ _ _ _ _ _ hf I (lv_sub hl [0, 1, 3] rfl)
    · intro S p0 i0 i1 i2 H locs ls hf I hl
      replace hf : b_X6_advice_5 (g_X6_advice fu) fu S p0 i0 i1 i2 = some (r, S') := hf
      unfold b_X6_advice_5 at hf
      refine kx_istore_n 99 C (lv' := [(2, .int (iI i2)), (0, .ref (xB G + p0)), (1, .int (iI i0)), (3, .int (iI i1))]) dX6_advice_99 hl (by decide) rfl rfl (fun ls hl => ?_)
      obtain ⟨x57, e58, hf⟩ := nmx_e hf
      refine kx_iinc 100 C (lv' := [(3, .int (iI x57)), (2, .int (iI i2)), (0, .ref (xB G + p0)), (1, .int (iI i0))]) dX6_advice_100 hl 3 rfl e58 (by decide) rfl (fun ls hl => ?_)
      refine kx_goto 103 74 C dX6_advice_103 (by decide) ?_
      exact ih4 _ _ _ _ _ _ _ _ hf I (lv_sub hl [2, 3, 1, 0] rfl)
set_option maxHeartbeats 4000000 in
set_option maxRecDepth 100000 in
theorem c_X6_advice (G : xG) (l : Launch) (fu : Nat) (S S' : xS) (p0 : Nat) (r : Int) (hf : f_X6_advice fu S p0 = some (r, S')) : Met l yX6_advice vsX6_advice rm_X6_advice (va_Pc [.ref (xB G + p0)] (xPre G S)) (xQi G r S') 0 0 (xA G) := by
  refine kx_met (ret := (some .int)) RX6 [(0, .ref (xB G + p0))] (by decide) rfl rfl (Nat.le_of_ble_eq_true rfl) rfl (fun p e s m below meth c ls C hin I hl => ?_)
  exact (w_X6_advice C r S' fu).1 S _ _ _ _ _ _ _ hf I hl
def rm_X6_worst : Room := { frames := 5, cells := 0, slots := 0, locals := 113 }
theorem mw_X6_worst_0 : Cond.constant RX6 197 (1000000) ∈ vsX6_worst := inM mq_36_11
theorem nyS_X6_worst : yX6_worst.cls ≠ "java/lang/invoke/MethodHandle" ∧ yX6_worst.cls ≠ "java/lang/invoke/VarHandle" ∧ (parseMethodDescriptor yX6_worst.desc).map (fun d => d.parameters.length) = some 1 := by decide +kernel
theorem nyV_X6_worst : yX6_worst.cls = RX6 ∧ yX6_worst.cls ≠ "java/lang/invoke/MethodHandle" ∧ yX6_worst.cls ≠ "java/lang/invoke/VarHandle" ∧ (parseMethodDescriptor yX6_worst.desc).map (fun d => d.parameters.length) = some 1 := by decide +kernel
set_option maxHeartbeats 4000000 in
set_option maxRecDepth 100000 in
theorem w_X6_worst {G : xG} {p : Program} {l : Launch} {e : Env} {s : State} {m : MethodId} {args : Array Value} {below : List Frame} {meth : Method} {c : Code} (C : xK G p s m args meth c cX6_worst 6 vsX6_worst RX6 (some .int)) (r : Int) (S' : xS) : ∀ k : Nat,
  (∀ (S : xS) (p0 : Nat) (i0 i1 i2 i3 i4 : Int) (H : Heap) (locs : List Loc) (ls : Array Slot), g_X6_worst k 0 S p0 i0 i1 i2 i3 i4 = some (r, S') → xI G S s H locs → lv_has ls 6 [(0, .ref (xB G + p0)), (1, .int (iI i0))] → W p l e rm_X6_worst s m args below meth c H locs 0 0 (MQ below (xQi G r S') args s 0 0 (xA G)) (F0 m 0 ls [])) ∧
  (∀ (S : xS) (p0 : Nat) (i0 i1 i2 i3 i4 : Int) (H : Heap) (locs : List Loc) (ls : Array Slot), g_X6_worst k 1 S p0 i0 i1 i2 i3 i4 = some (r, S') → xI G S s H locs → lv_has ls 6 [(0, .ref (xB G + p0)), (1, .int (iI i0)), (2, .int (iI i1)), (3, .int (iI i2)), (4, .int (iI i3))] → W p l e rm_X6_worst s m args below meth c H locs 0 0 (MQ below (xQi G r S') args s 0 0 (xA G)) (F0 m 25 ls [])) ∧
  (∀ (S : xS) (p0 : Nat) (i0 i1 i2 i3 i4 : Int) (H : Heap) (locs : List Loc) (ls : Array Slot), g_X6_worst k 2 S p0 i0 i1 i2 i3 i4 = some (r, S') → xI G S s H locs → lv_has ls 6 [(0, .ref (xB G + p0)), (1, .int (iI i0)), (2, .int (iI i1)), (3, .int (iI i2)), (4, .int (iI i3))] → W p l e rm_X6_worst s m args below meth c H locs 0 0 (MQ below (xQi G r S') args s 0 0 (xA G)) (F0 m 59 ls [.int (iI i4)])) ∧
  (∀ (S : xS) (p0 : Nat) (i0 i1 i2 i3 i4 : Int) (H : Heap) (locs : List Loc) (ls : Array Slot), g_X6_worst k 3 S p0 i0 i1 i2 i3 i4 = some (r, S') → xI G S s H locs → lv_has ls 6 [(0, .ref (xB G + p0)), (1, .int (iI i0)), (3, .int (iI i1)), (4, .int (iI i2)), (5, .int (iI i3))] → W p l e rm_X6_worst s m args below meth c H locs 0 0 (MQ below (xQi G r S') args s 0 0 (xA G)) (F0 m 73 ls [.int (iI i4)])) ∧
  (∀ (S : xS) (p0 : Nat) (i0 i1 i2 i3 i4 : Int) (H : Heap) (locs : List Loc) (ls : Array Slot), g_X6_worst k 4 S p0 i0 i1 i2 i3 i4 = some (r, S') → xI G S s H locs → lv_has ls 6 [(0, .ref (xB G + p0)), (1, .int (iI i0)), (2, .int (iI i1)), (4, .int (iI i2))] → W p l e rm_X6_worst s m args below meth c H locs 0 0 (MQ below (xQi G r S') args s 0 0 (xA G)) (F0 m 86 ls [.int (iI i3)])) := by
  intro k
  induction k with
  | zero => exact ⟨fun _ _ _ _ _ _ _ _ _ _ hf => (by cases hf), fun _ _ _ _ _ _ _ _ _ _ hf => (by cases hf), fun _ _ _ _ _ _ _ _ _ _ hf => (by cases hf), fun _ _ _ _ _ _ _ _ _ _ hf => (by cases hf), fun _ _ _ _ _ _ _ _ _ _ hf => (by cases hf)⟩
  | succ fu ih =>
    obtain ⟨ih0, ih1, ih2, ih3, ih4⟩ := ih
    refine ⟨?_, ?_, ?_, ?_, ?_⟩
    · intro S p0 i0 i1 i2 i3 i4 H locs ls hf I hl
      replace hf : b_X6_worst_0 (g_X6_worst fu) fu S p0 i0 i1 i2 i3 i4 = some (r, S') := hf
      unfold b_X6_worst_0 at hf
      refine kx_iload_n 0 C dX6_worst_0 (lv_at hl 1 rfl) ?_
      refine kx_i2l 1 C dX6_worst_1 ?_
      refine kx_lconst 2 C (z := 0) dX6_worst_2 rfl ?_
      refine kx_lconst 3 C (z := 1) dX6_worst_3 rfl ?_
      obtain ⟨x3, S1, h2, hf⟩ := ob2 hf
      refine kx_callSi 4 C hl I (As := [.long (lI (wI i0)), .long (lI 0), .long (lI 1)]) (rest := []) (c_X6_in G l fu _ _ _ _ _ _ h2) (va_cwS 3 C.ts gX6_worst_X6_in rfl rfl rfl nyS_X6_in ⟨Nat.le_of_ble_eq_true rfl, Nat.le_of_ble_eq_true rfl⟩) rfl rfl (Nat.le_of_ble_eq_true rfl) dX6_worst_4 ⟨Nat.le_of_ble_eq_true rfl, Nat.le_of_ble_eq_true rfl⟩ (fun H locs I => ?_)
      refine kx_if_ne 7 17 C dX6_worst_7 (by decide) (fun c4 => ?_) (fun c4 => ?_)
      · have hf := ifn c4 hf
        refine kx_iconst 17 C dX6_worst_17 ?_
        refine kx_istore_n 18 C (lv' := [(2, .int (iI ((-1)))), (0, .ref (xB G + p0)), (1, .int (iI i0))]) dX6_worst_18 hl (by decide) rfl rfl (fun ls hl => ?_)
        refine kx_ldc 19 C (z := 1000000) mw_X6_worst_0 dX6_worst_19 (by decide) ?_
        refine kx_istore_n 21 C (lv' := [(3, .int (iI 1000000)), (2, .int (iI ((-1)))), (0, .ref (xB G + p0)), (1, .int (iI i0))]) dX6_worst_21 hl (by decide) rfl rfl (fun ls hl => ?_)
        refine kx_iconst 22 C dX6_worst_22 ?_
        refine kx_istore 23 C (lv' := [(4, .int (iI 0)), (3, .int (iI 1000000)), (2, .int (iI ((-1)))), (0, .ref (xB G + p0)), (1, .int (iI i0))]) dX6_worst_23 hl (by decide) rfl rfl (fun ls hl => ?_)
        exact ih1 _ _ _ _ _ _ _ _ _ _ hf I (lv_sub hl [3, 4, 2, 1, 0] rfl)
      · have hf := ifp c4 hf
        refine kx_aload_n 10 C dX6_worst_10 (lv_at hl 0 rfl) ?_
        refine kx_bipush 11 C dX6_worst_11 (by decide) ?_
        obtain ⟨h8, hf⟩ := ift hf
        obtain ⟨x7, S5, h6, hf⟩ := ob2 hf
        refine kx_callVi 13 C hl I (ci := 5) (As := [.int (iI ((-2)))]) (rest := []) (c_X6_bad G l fu _ _ _ _ _ h6) (cwV 1 C.ts gX6_worst_X6_bad rfl rfl rfl nyV_X6_bad ⟨Nat.le_of_ble_eq_true rfl, Nat.le_of_ble_eq_true rfl⟩) rfl h8 rfl rfl (Nat.le_of_ble_eq_true rfl) dX6_worst_13 ⟨Nat.le_of_ble_eq_true rfl, Nat.le_of_ble_eq_true rfl⟩ (fun H locs I => ?_)
        exact kx_iret 16 C I hf dX6_worst_16
    · intro S p0 i0 i1 i2 i3 i4 H locs ls hf I hl
      replace hf : b_X6_worst_1 (g_X6_worst fu) fu S p0 i0 i1 i2 i3 i4 = some (r, S') := hf
      unfold b_X6_worst_1 at hf
      refine kx_iload 25 C dX6_worst_25 (lv_at hl 4 rfl) ?_
      refine kx_aload_n 27 C dX6_worst_27 (lv_at hl 0 rfl) ?_
      obtain ⟨h12, hf⟩ := ift hf
      obtain ⟨x11, S9, h10, hf⟩ := ob2 hf
      refine kx_callVi 28 C hl I (ci := 5) (As := []) (rest := [.int (iI i3)]) (c_X6_ways G l fu _ _ _ _ h10) (cwV 0 C.ts gX6_worst_X6_ways rfl rfl rfl nyV_X6_ways ⟨Nat.le_of_ble_eq_true rfl, Nat.le_of_ble_eq_true rfl⟩) rfl h12 rfl rfl (Nat.le_of_ble_eq_true rfl) dX6_worst_28 ⟨Nat.le_of_ble_eq_true rfl, Nat.le_of_ble_eq_true rfl⟩ (fun H locs I => ?_)
      refine kx_icmp_ge 31 93 C dX6_worst_31 (by decide) (fun c13 => ?_) (fun c13 => ?_)
      · have hf := ifp c13 hf
        refine kx_iload_n 93 C dX6_worst_93 (lv_at hl 2 rfl) ?_
        refine kx_iconst 94 C dX6_worst_94 ?_
        refine kx_icmp_ne 95 105 C dX6_worst_95 (by decide) (fun c14 => ?_) (fun c14 => ?_)
        · have hf := ifn c14 hf
          refine kx_iload_n 105 C dX6_worst_105 (lv_at hl 1 rfl) ?_
          refine kx_if_ne 106 113 C dX6_worst_106 (by decide) (fun c15 => ?_) (fun c15 => ?_)
          · have hf := ifn c15 hf
            refine kx_iload_n 113 C dX6_worst_113 (lv_at hl 3 rfl) ?_
            exact kx_iret 114 C I hf dX6_worst_114
          · have hf := ifp c15 hf
            refine kx_iload_n 109 C dX6_worst_109 (lv_at hl 2 rfl) ?_
            refine kx_goto 110 114 C dX6_worst_110 (by decide) ?_
            exact kx_iret 114 C I hf dX6_worst_114
        · have hf := ifp c14 hf
          refine kx_aload_n 98 C dX6_worst_98 (lv_at hl 0 rfl) ?_
          obtain ⟨h19, hf⟩ := ift hf
          obtain ⟨x18, S16, h17, hf⟩ := ob2 hf
          refine kx_callVi 99 C hl I (ci := 5) (As := []) (rest := []) (c_X6_no G l fu _ _ _ _ h17) (cwV 0 C.ts gX6_worst_X6_no rfl rfl rfl nyV_X6_no ⟨Nat.le_of_ble_eq_true rfl, Nat.le_of_ble_eq_true rfl⟩) rfl h19 rfl rfl (Nat.le_of_ble_eq_true rfl) dX6_worst_99 ⟨Nat.le_of_ble_eq_true rfl, Nat.le_of_ble_eq_true rfl⟩ (fun H locs I => ?_)
          refine kx_goto 102 114 C dX6_worst_102 (by decide) ?_
          exact kx_iret 114 C I hf dX6_worst_114
      · have hf := ifn c13 hf
        refine kx_aload_n 34 C dX6_worst_34 (lv_at hl 0 rfl) ?_
        refine kx_iload 35 C dX6_worst_35 (lv_at hl 4 rfl) ?_
        obtain ⟨h23, hf⟩ := ift hf
        obtain ⟨z22, S20, h21, hf⟩ := ob2 hf
        refine kx_callVv 37 C hl I (ci := 5) (As := [.int (iI i3)]) (rest := []) (c_X6_takeRank G l fu _ _ _ _ _ h21) (cwV 1 C.ts gX6_worst_X6_takeRank rfl rfl rfl nyV_X6_takeRank ⟨Nat.le_of_ble_eq_true rfl, Nat.le_of_ble_eq_true rfl⟩) rfl h23 rfl rfl (Nat.le_of_ble_eq_true rfl) dX6_worst_37 ⟨Nat.le_of_ble_eq_true rfl, Nat.le_of_ble_eq_true rfl⟩ (fun H locs I => ?_)
        refine kx_aload_n 40 C dX6_worst_40 (lv_at hl 0 rfl) ?_
        obtain ⟨h27, hf⟩ := ift hf
        obtain ⟨x26, S24, h25, hf⟩ := ob2 hf
        refine kx_callVi 41 C hl I (ci := 5) (As := []) (rest := []) (c_X6_isSo G l fu _ _ _ _ h25) (cwV 0 C.ts gX6_worst_X6_isSo rfl rfl rfl nyV_X6_isSo ⟨Nat.le_of_ble_eq_true rfl, Nat.le_of_ble_eq_true rfl⟩) rfl h27 rfl rfl (Nat.le_of_ble_eq_true rfl) dX6_worst_41 ⟨Nat.le_of_ble_eq_true rfl, Nat.le_of_ble_eq_true rfl⟩ (fun H locs I => ?_)
        refine kx_if_eq 44 57 C dX6_worst_44 (by decide) (fun c28 => ?_) (fun c28 => ?_)
        · have hf := ifp c28 hf
          refine kx_ldc 57 C (z := 1000000) mw_X6_worst_0 dX6_worst_57 (by decide) ?_
          exact ih2 _ _ _ _ _ _ _ _ _ _ hf I (lv_sub hl [0, 1, 2, 3, 4] rfl)
        · have hf := ifn c28 hf
          refine kx_aload_n 47 C dX6_worst_47 (lv_at hl 0 rfl) ?_
          obtain ⟨h32, hf⟩ := ift hf
          obtain ⟨x31, S29, h30, hf⟩ := ob2 hf
          refine kx_callVi 48 C hl I (ci := 5) (As := []) (rest := []) (c_X6_findsHand G l fu _ _ _ _ h30) (cwV 0 C.ts gX6_worst_X6_findsHand rfl rfl rfl nyV_X6_findsHand ⟨Nat.le_of_ble_eq_true rfl, Nat.le_of_ble_eq_true rfl⟩) rfl h32 rfl rfl (Nat.le_of_ble_eq_true rfl) dX6_worst_48 ⟨Nat.le_of_ble_eq_true rfl, Nat.le_of_ble_eq_true rfl⟩ (fun H locs I => ?_)
          obtain ⟨x35, S33, h34, hf⟩ := ob2 hf
          refine kx_callSi 51 C hl I (As := [.int (iI x31)]) (rest := []) (c_X6_bits G l fu _ _ _ _ h34) (va_cwS 1 C.ts gX6_worst_X6_bits rfl rfl rfl nyS_X6_bits ⟨Nat.le_of_ble_eq_true rfl, Nat.le_of_ble_eq_true rfl⟩) rfl rfl (Nat.le_of_ble_eq_true rfl) dX6_worst_51 ⟨Nat.le_of_ble_eq_true rfl, Nat.le_of_ble_eq_true rfl⟩ (fun H locs I => ?_)
          refine kx_goto 54 59 C dX6_worst_54 (by decide) ?_
          exact ih2 _ _ _ _ _ _ _ _ _ _ hf I (lv_sub hl [0, 1, 2, 3, 4] rfl)
    · intro S p0 i0 i1 i2 i3 i4 H locs ls hf I hl
      replace hf : b_X6_worst_2 (g_X6_worst fu) fu S p0 i0 i1 i2 i3 i4 = some (r, S') := hf
      unfold b_X6_worst_2 at hf
      refine kx_istore 59 C (lv' := [(5, .int (iI i4)), (0, .ref (xB G + p0)), (1, .int (iI i0)), (2, .int (iI i1)), (3, .int (iI i2)), (4, .int (iI i3))]) dX6_worst_59 hl (by decide) rfl rfl (fun ls hl => ?_)
      refine kx_iload 61 C dX6_worst_61 (lv_at hl 0 rfl) ?_
      refine kx_iload_n 63 C dX6_worst_63 (lv_at hl 4 rfl) ?_
      refine kx_icmp_ge 64 72 C dX6_worst_64 (by decide) (fun c36 => ?_) (fun c36 => ?_)
      · have hf := ifp c36 hf
        refine kx_iload_n 72 C dX6_worst_72 (lv_at hl 3 rfl) ?_
        exact ih3 _ _ _ _ _ _ _ _ _ _ hf I (lv_sub hl [1, 2, 4, 5, 0] rfl)
      · have hf := ifn c36 hf
        refine kx_iload 67 C dX6_worst_67 (lv_at hl 5 rfl) ?_
        refine kx_goto 69 73 C dX6_worst_69 (by decide) ?_
        exact ih3 _ _ _ _ _ _ _ _ _ _ hf I (lv_sub hl [1, 2, 4, 5, 0] rfl)
    · intro S p0 i0 i1 i2 i3 i4 H locs ls hf I hl
      replace hf : b_X6_worst_3 (g_X6_worst fu) fu S p0 i0 i1 i2 i3 i4 = some (r, S') := hf
      unfold b_X6_worst_3 at hf
      refine kx_istore_n 73 C (lv' := [(2, .int (iI i4)), (0, .ref (xB G + p0)), (1, .int (iI i0)), (3, .int (iI i1)), (4, .int (iI i2)), (5, .int (iI i3))]) dX6_worst_73 hl (by decide) rfl rfl (fun ls hl => ?_)
      refine kx_iload 74 C dX6_worst_74 (lv_at hl 5 rfl) ?_
      refine kx_iload_n 76 C dX6_worst_76 (lv_at hl 3 rfl) ?_
      refine kx_icmp_ge 77 85 C dX6_worst_77 (by decide) (fun c37 => ?_) (fun c37 => ?_)
      · have hf := ifp c37 hf
        refine kx_iload_n 85 C dX6_worst_85 (lv_at hl 3 rfl) ?_
        exact ih4 _ _ _ _ _ _ _ _ _ _ hf I (lv_sub hl [1, 2, 0, 4] rfl)
      · have hf := ifn c37 hf
        refine kx_iload 80 C dX6_worst_80 (lv_at hl 5 rfl) ?_
        refine kx_goto 82 86 C dX6_worst_82 (by decide) ?_
        exact ih4 _ _ _ _ _ _ _ _ _ _ hf I (lv_sub hl [1, 2, 0, 4] rfl)
    · intro S p0 i0 i1 i2 i3 i4 H locs ls hf I hl
      replace hf : b_X6_worst_4 (g_X6_worst fu) fu S p0 i0 i1 i2 i3 i4 = some (r, S') := hf
      unfold b_X6_worst_4 at hf
      refine kx_istore_n 86 C (lv' := [(3, .int (iI i3)), (0, .ref (xB G + p0)), (1, .int (iI i0)), (2, .int (iI i1)), (4, .int (iI i2))]) dX6_worst_86 hl (by decide) rfl rfl (fun ls hl => ?_)
      obtain ⟨x38, e39, hf⟩ := nmx_e hf
      refine kx_iinc 87 C (lv' := [(4, .int (iI x38)), (3, .int (iI i3)), (0, .ref (xB G + p0)), (1, .int (iI i0)), (2, .int (iI i1))]) dX6_worst_87 hl 4 rfl e39 (by decide) rfl (fun ls hl => ?_)
      refine kx_goto 90 25 C dX6_worst_90 (by decide) ?_
      exact ih1 _ _ _ _ _ _ _ _ _ _ hf I (lv_sub hl [2, 3, 4, 1, 0] rfl)
set_option maxHeartbeats 4000000 in
set_option maxRecDepth 100000 in
theorem c_X6_worst (G : xG) (l : Launch) (fu : Nat) (S S' : xS) (p0 : Nat) (i0 : Int) (r : Int) (hf : f_X6_worst fu S p0 i0 = some (r, S')) : Met l yX6_worst vsX6_worst rm_X6_worst (va_Pc [.ref (xB G + p0), .int (iI i0)] (xPre G S)) (xQi G r S') 0 0 (xA G) := by
  refine kx_met (ret := (some .int)) RX6 [(0, .ref (xB G + p0)), (1, .int (iI i0))] (by decide) rfl rfl (Nat.le_of_ble_eq_true rfl) rfl (fun p e s m below meth c ls C hin I hl => ?_)
  exact (w_X6_worst C r S' fu).1 S _ _ _ _ _ _ _ _ _ hf I hl
def rm_X6_swaps : Room := { frames := 1, cells := 0, slots := 0, locals := 20 }
theorem hin_X6_swaps_RX6 : ∀ w ∈ wsX60, w ∈ vsX6_swaps := fun w h => inM (inlX6 w h)
theorem fl_X6_swaps_7 : xFl vsX6_swaps RX6 7 5 0 := ⟨RX6, TX6, 30, rfl, by decide, hin_X6_swaps_RX6, inM mq_4_16, rfl⟩
theorem fl_X6_swaps_27 : xFl vsX6_swaps RX6 27 5 6 := ⟨RX6, TX6, 30, rfl, by decide, hin_X6_swaps_RX6, inM mq_4_22, rfl⟩
theorem fl_X6_swaps_57 : xFl vsX6_swaps RX6 57 5 21 := ⟨RX6, TX6, 30, rfl, by decide, hin_X6_swaps_RX6, inM mq_5_8, rfl⟩
theorem nyS_X6_swaps : yX6_swaps.cls ≠ "java/lang/invoke/MethodHandle" ∧ yX6_swaps.cls ≠ "java/lang/invoke/VarHandle" ∧ (parseMethodDescriptor yX6_swaps.desc).map (fun d => d.parameters.length) = some 0 := by decide +kernel
theorem nyV_X6_swaps : yX6_swaps.cls = RX6 ∧ yX6_swaps.cls ≠ "java/lang/invoke/MethodHandle" ∧ yX6_swaps.cls ≠ "java/lang/invoke/VarHandle" ∧ (parseMethodDescriptor yX6_swaps.desc).map (fun d => d.parameters.length) = some 0 := by decide +kernel
set_option maxHeartbeats 4000000 in
set_option maxRecDepth 100000 in
theorem w_X6_swaps {G : xG} {p : Program} {l : Launch} {e : Env} {s : State} {m : MethodId} {args : Array Value} {below : List Frame} {meth : Method} {c : Code} (C : xK G p s m args meth c cX6_swaps 5 vsX6_swaps RX6 (some .int)) (r : Int) (S' : xS) : ∀ k : Nat,
  (∀ (S : xS) (p0 : Nat) (i0 i1 i2 i3 : Int) (H : Heap) (locs : List Loc) (ls : Array Slot), g_X6_swaps k 0 S p0 i0 i1 i2 i3 = some (r, S') → xI G S s H locs → lv_has ls 5 [(0, .ref (xB G + p0))] → W p l e rm_X6_swaps s m args below meth c H locs 0 0 (MQ below (xQi G r S') args s 0 0 (xA G)) (F0 m 0 ls [])) ∧
  (∀ (S : xS) (p0 : Nat) (i0 i1 i2 i3 : Int) (H : Heap) (locs : List Loc) (ls : Array Slot), g_X6_swaps k 1 S p0 i0 i1 i2 i3 = some (r, S') → xI G S s H locs → lv_has ls 5 [(0, .ref (xB G + p0)), (1, .int (iI i0))] → W p l e rm_X6_swaps s m args below meth c H locs 0 0 (MQ below (xQi G r S') args s 0 0 (xA G)) (F0 m 2 ls [])) ∧
  (∀ (S : xS) (p0 : Nat) (i0 i1 i2 i3 : Int) (H : Heap) (locs : List Loc) (ls : Array Slot), g_X6_swaps k 2 S p0 i0 i1 i2 i3 = some (r, S') → xI G S s H locs → lv_has ls 5 [(0, .ref (xB G + p0)), (1, .int (iI i0)), (2, .int (iI i1))] → W p l e rm_X6_swaps s m args below meth c H locs 0 0 (MQ below (xQi G r S') args s 0 0 (xA G)) (F0 m 39 ls [])) ∧
  (∀ (S : xS) (p0 : Nat) (i0 i1 i2 i3 : Int) (H : Heap) (locs : List Loc) (ls : Array Slot), g_X6_swaps k 3 S p0 i0 i1 i2 i3 = some (r, S') → xI G S s H locs → lv_has ls 5 [(0, .ref (xB G + p0)), (1, .int (iI i0)), (2, .int (iI i1)), (3, .int (iI i2)), (4, .int (iI i3))] → W p l e rm_X6_swaps s m args below meth c H locs 0 0 (MQ below (xQi G r S') args s 0 0 (xA G)) (F0 m 57 ls [])) ∧
  (∀ (S : xS) (p0 : Nat) (i0 i1 i2 i3 : Int) (H : Heap) (locs : List Loc) (ls : Array Slot), g_X6_swaps k 4 S p0 i0 i1 i2 i3 = some (r, S') → xI G S s H locs → lv_has ls 5 [(0, .ref (xB G + p0)), (1, .int (iI i0)), (2, .int (iI i1)), (4, .int (iI i2))] → W p l e rm_X6_swaps s m args below meth c H locs 0 0 (MQ below (xQi G r S') args s 0 0 (xA G)) (F0 m 77 ls [])) ∧
  (∀ (S : xS) (p0 : Nat) (i0 i1 i2 i3 : Int) (H : Heap) (locs : List Loc) (ls : Array Slot), g_X6_swaps k 5 S p0 i0 i1 i2 i3 = some (r, S') → xI G S s H locs → lv_has ls 5 [(0, .ref (xB G + p0)), (1, .int (iI i0)), (2, .int (iI i1)), (4, .int (iI i2))] → W p l e rm_X6_swaps s m args below meth c H locs 0 0 (MQ below (xQi G r S') args s 0 0 (xA G)) (F0 m 78 ls [.int (iI i3)])) ∧
  (∀ (S : xS) (p0 : Nat) (i0 i1 i2 i3 : Int) (H : Heap) (locs : List Loc) (ls : Array Slot), g_X6_swaps k 6 S p0 i0 i1 i2 i3 = some (r, S') → xI G S s H locs → lv_has ls 5 [(0, .ref (xB G + p0)), (2, .int (iI i0))] → W p l e rm_X6_swaps s m args below meth c H locs 0 0 (MQ below (xQi G r S') args s 0 0 (xA G)) (F0 m 101 ls [.int (iI i2), .int (iI i1)])) := by
  intro k
  induction k with
  | zero => exact ⟨fun _ _ _ _ _ _ _ _ _ hf => (by cases hf), fun _ _ _ _ _ _ _ _ _ hf => (by cases hf), fun _ _ _ _ _ _ _ _ _ hf => (by cases hf), fun _ _ _ _ _ _ _ _ _ hf => (by cases hf), fun _ _ _ _ _ _ _ _ _ hf => (by cases hf), fun _ _ _ _ _ _ _ _ _ hf => (by cases hf), fun _ _ _ _ _ _ _ _ _ hf => (by cases hf)⟩
  | succ fu ih =>
    obtain ⟨ih0, ih1, ih2, ih3, ih4, ih5, ih6⟩ := ih
    refine ⟨?_, ?_, ?_, ?_, ?_, ?_, ?_⟩
    · intro S p0 i0 i1 i2 i3 H locs ls hf I hl
      replace hf : b_X6_swaps_0 (g_X6_swaps fu) fu S p0 i0 i1 i2 i3 = some (r, S') := hf
      unfold b_X6_swaps_0 at hf
      refine kx_iconst 0 C dX6_swaps_0 ?_
      refine kx_istore_n 1 C (lv' := [(1, .int (iI 0)), (0, .ref (xB G + p0))]) dX6_swaps_1 hl (by decide) rfl rfl (fun ls hl => ?_)
      exact ih1 _ _ _ _ _ _ _ _ _ hf I (lv_sub hl [1, 0] rfl)
    · intro S p0 i0 i1 i2 i3 H locs ls hf I hl
      replace hf : b_X6_swaps_1 (g_X6_swaps fu) fu S p0 i0 i1 i2 i3 = some (r, S') := hf
      unfold b_X6_swaps_1 at hf
      refine kx_iload_n 2 C dX6_swaps_2 (lv_at hl 1 rfl) ?_
      refine kx_aload_n 3 C dX6_swaps_3 (lv_at hl 0 rfl) ?_
      obtain ⟨h4, hf⟩ := ift hf
      obtain ⟨x3, S1, h2, hf⟩ := ob2 hf
      refine kx_callVi 4 C hl I (ci := 5) (As := []) (rest := [.int (iI i0)]) (c_X6_n G l fu _ _ _ _ h2) (cwV 0 C.ts gX6_swaps_X6_n rfl rfl rfl nyV_X6_n ⟨Nat.le_of_ble_eq_true rfl, Nat.le_of_ble_eq_true rfl⟩) rfl h4 rfl rfl (Nat.le_of_ble_eq_true rfl) dX6_swaps_4 ⟨Nat.le_of_ble_eq_true rfl, Nat.le_of_ble_eq_true rfl⟩ (fun H locs I => ?_)
      refine kx_icmp_ge 7 35 C dX6_swaps_7 (by decide) (fun c5 => ?_) (fun c5 => ?_)
      · have hf := ifp c5 hf
        refine kx_iconst 35 C dX6_swaps_35 ?_
        refine kx_istore_n 36 C (lv' := [(1, .int (iI 0)), (0, .ref (xB G + p0))]) dX6_swaps_36 hl (by decide) rfl rfl (fun ls hl => ?_)
        refine kx_iconst 37 C dX6_swaps_37 ?_
        refine kx_istore_n 38 C (lv' := [(2, .int (iI 0)), (1, .int (iI 0)), (0, .ref (xB G + p0))]) dX6_swaps_38 hl (by decide) rfl rfl (fun ls hl => ?_)
        exact ih2 _ _ _ _ _ _ _ _ _ hf I (lv_sub hl [2, 1, 0] rfl)
      · have hf := ifn c5 hf
        refine kx_aload_n 10 C dX6_swaps_10 (lv_at hl 0 rfl) ?_
        obtain ⟨q7, h6, hf⟩ := ob hf
        refine kx_getp 11 C I fl_X6_swaps_57 h6 dX6_swaps_11 ?_
        refine kx_aload_n 14 C dX6_swaps_14 (lv_at hl 0 rfl) ?_
        obtain ⟨q9, h8, hf⟩ := ob hf
        refine kx_getp 15 C I fl_X6_swaps_7 h8 dX6_swaps_15 ?_
        refine kx_iconst 18 C dX6_swaps_18 ?_
        refine kx_iload_n 19 C dX6_swaps_19 (lv_at hl 1 rfl) ?_
        refine kx_iadd 20 C dX6_swaps_20 ?_
        obtain ⟨x10, h11, hf⟩ := ob hf
        refine kx_iald 21 C I h11 dX6_swaps_21 ?_
        refine kx_aload_n 22 C dX6_swaps_22 (lv_at hl 0 rfl) ?_
        obtain ⟨q13, h12, hf⟩ := ob hf
        refine kx_getp 23 C I fl_X6_swaps_27 h12 dX6_swaps_23 ?_
        refine kx_iload_n 26 C dX6_swaps_26 (lv_at hl 1 rfl) ?_
        obtain ⟨x14, h15, hf⟩ := ob hf
        refine kx_iald 27 C I h15 dX6_swaps_27 ?_
        obtain ⟨S17, h16, hf⟩ := ob hf
        refine kx_iast 28 C I h16 dX6_swaps_28 (fun H locs I => ?_)
        obtain ⟨x18, e19, hf⟩ := nmx_e hf
        refine kx_iinc 29 C (lv' := [(1, .int (iI x18)), (0, .ref (xB G + p0))]) dX6_swaps_29 hl 1 rfl e19 (by decide) rfl (fun ls hl => ?_)
        refine kx_goto 32 2 C dX6_swaps_32 (by decide) ?_
        exact ih1 _ _ _ _ _ _ _ _ _ hf I (lv_sub hl [1, 0] rfl)
    · intro S p0 i0 i1 i2 i3 H locs ls hf I hl
      replace hf : b_X6_swaps_2 (g_X6_swaps fu) fu S p0 i0 i1 i2 i3 = some (r, S') := hf
      unfold b_X6_swaps_2 at hf
      refine kx_iload_n 39 C dX6_swaps_39 (lv_at hl 2 rfl) ?_
      refine kx_aload_n 40 C dX6_swaps_40 (lv_at hl 0 rfl) ?_
      obtain ⟨h23, hf⟩ := ift hf
      obtain ⟨x22, S20, h21, hf⟩ := ob2 hf
      refine kx_callVi 41 C hl I (ci := 5) (As := []) (rest := [.int (iI i1)]) (c_X6_n G l fu _ _ _ _ h21) (cwV 0 C.ts gX6_swaps_X6_n rfl rfl rfl nyV_X6_n ⟨Nat.le_of_ble_eq_true rfl, Nat.le_of_ble_eq_true rfl⟩) rfl h23 rfl rfl (Nat.le_of_ble_eq_true rfl) dX6_swaps_41 ⟨Nat.le_of_ble_eq_true rfl, Nat.le_of_ble_eq_true rfl⟩ (fun H locs I => ?_)
      refine kx_icmp_ge 44 109 C dX6_swaps_44 (by decide) (fun c24 => ?_) (fun c24 => ?_)
      · have hf := ifp c24 hf
        refine kx_aload_n 109 C dX6_swaps_109 (lv_at hl 0 rfl) ?_
        obtain ⟨h28, hf⟩ := ift hf
        obtain ⟨x27, S25, h26, hf⟩ := ob2 hf
        refine kx_callVi 110 C hl I (ci := 5) (As := []) (rest := []) (c_X6_n G l fu _ _ _ _ h26) (cwV 0 C.ts gX6_swaps_X6_n rfl rfl rfl nyV_X6_n ⟨Nat.le_of_ble_eq_true rfl, Nat.le_of_ble_eq_true rfl⟩) rfl h28 rfl rfl (Nat.le_of_ble_eq_true rfl) dX6_swaps_110 ⟨Nat.le_of_ble_eq_true rfl, Nat.le_of_ble_eq_true rfl⟩ (fun H locs I => ?_)
        refine kx_iload_n 113 C dX6_swaps_113 (lv_at hl 1 rfl) ?_
        refine kx_isub 114 C dX6_swaps_114 ?_
        exact kx_iret 115 C I hf dX6_swaps_115
      · have hf := ifn c24 hf
        refine kx_iconst 47 C dX6_swaps_47 ?_
        refine kx_istore_n 48 C (lv' := [(3, .int (iI 1)), (0, .ref (xB G + p0)), (1, .int (iI i0)), (2, .int (iI i1))]) dX6_swaps_48 hl (by decide) rfl rfl (fun ls hl => ?_)
        refine kx_aload_n 49 C dX6_swaps_49 (lv_at hl 1 rfl) ?_
        obtain ⟨q30, h29, hf⟩ := ob hf
        refine kx_getp 50 C I fl_X6_swaps_57 h29 dX6_swaps_50 ?_
        refine kx_iload_n 53 C dX6_swaps_53 (lv_at hl 3 rfl) ?_
        obtain ⟨x31, h32, hf⟩ := ob hf
        refine kx_iald 54 C I h32 dX6_swaps_54 ?_
        refine kx_istore 55 C (lv' := [(4, .int (iI x31)), (3, .int (iI 1)), (0, .ref (xB G + p0)), (1, .int (iI i0)), (2, .int (iI i1))]) dX6_swaps_55 hl (by decide) rfl rfl (fun ls hl => ?_)
        exact ih3 _ _ _ _ _ _ _ _ _ hf I (lv_sub hl [2, 3, 4, 1, 0] rfl)
    · intro S p0 i0 i1 i2 i3 H locs ls hf I hl
      replace hf : b_X6_swaps_3 (g_X6_swaps fu) fu S p0 i0 i1 i2 i3 = some (r, S') := hf
      unfold b_X6_swaps_3 at hf
      refine kx_iload 57 C dX6_swaps_57 (lv_at hl 4 rfl) ?_
      refine kx_iload_n 59 C dX6_swaps_59 (lv_at hl 2 rfl) ?_
      refine kx_icmp_eq 60 91 C dX6_swaps_60 (by decide) (fun c33 => ?_) (fun c33 => ?_)
      · have hf := ifp c33 hf
        refine kx_iload_n 91 C dX6_swaps_91 (lv_at hl 1 rfl) ?_
        refine kx_iload_n 92 C dX6_swaps_92 (lv_at hl 3 rfl) ?_
        refine kx_if_eq 93 100 C dX6_swaps_93 (by decide) (fun c34 => ?_) (fun c34 => ?_)
        · have hf := ifp c34 hf
          refine kx_iconst 100 C dX6_swaps_100 ?_
          exact ih6 _ _ _ _ _ _ _ _ _ hf I (lv_sub hl [0, 2] rfl)
        · have hf := ifn c34 hf
          refine kx_iconst 96 C dX6_swaps_96 ?_
          refine kx_goto 97 101 C dX6_swaps_97 (by decide) ?_
          exact ih6 _ _ _ _ _ _ _ _ _ hf I (lv_sub hl [0, 2] rfl)
      · have hf := ifn c33 hf
        refine kx_iload_n 63 C dX6_swaps_63 (lv_at hl 3 rfl) ?_
        refine kx_if_eq 64 77 C dX6_swaps_64 (by decide) (fun c35 => ?_) (fun c35 => ?_)
        · have hf := ifp c35 hf
          exact ih4 _ _ _ _ _ _ _ _ _ hf I (lv_sub hl [0, 1, 2, 4] rfl)
        · have hf := ifn c35 hf
          refine kx_iload 67 C dX6_swaps_67 (lv_at hl 4 rfl) ?_
          refine kx_iload_n 69 C dX6_swaps_69 (lv_at hl 2 rfl) ?_
          refine kx_icmp_le 70 77 C dX6_swaps_70 (by decide) (fun c36 => ?_) (fun c36 => ?_)
          · have hf := ifp c36 hf
            exact ih4 _ _ _ _ _ _ _ _ _ hf I (lv_sub hl [0, 1, 2, 4] rfl)
          · have hf := ifn c36 hf
            refine kx_iconst 73 C dX6_swaps_73 ?_
            refine kx_goto 74 78 C dX6_swaps_74 (by decide) ?_
            exact ih5 _ _ _ _ _ _ _ _ _ hf I (lv_sub hl [0, 1, 2, 4] rfl)
    · intro S p0 i0 i1 i2 i3 H locs ls hf I hl
      replace hf : b_X6_swaps_4 (g_X6_swaps fu) fu S p0 i0 i1 i2 i3 = some (r, S') := hf
      unfold b_X6_swaps_4 at hf
      refine kx_iconst 77 C dX6_swaps_77 ?_
      exact ih5 _ _ _ _ _ _ _ _ _ hf I (lv_sub hl [0, 1, 2, 3] rfl)
    · intro S p0 i0 i1 i2 i3 H locs ls hf I hl
      replace hf : b_X6_swaps_5 (g_X6_swaps fu) fu S p0 i0 i1 i2 i3 = some (r, S') := hf
      unfold b_X6_swaps_5 at hf
      refine kx_istore_n 78 C (lv' := [(3, .int (iI i3)), (0, .ref (xB G + p0)), (1, .int (iI i0)), (2, .int (iI i1)), (4, .int (iI i2))]) dX6_swaps_78 hl (by decide) rfl rfl (fun ls hl => ?_)
      refine kx_aload_n 79 C dX6_swaps_79 (lv_at hl 1 rfl) ?_
      obtain ⟨q38, h37, hf⟩ := ob hf
      refine kx_getp 80 C I fl_X6_swaps_57 h37 dX6_swaps_80 ?_
      refine kx_iload 83 C dX6_swaps_83 (lv_at hl 4 rfl) ?_
      obtain ⟨x39, h40, hf⟩ := ob hf
      refine kx_iald 85 C I h40 dX6_swaps_85 ?_
      refine kx_istore 86 C (lv' := [(4, .int (iI x39)), (3, .int (iI i3)), (0, .ref (xB G + p0)), (1, .int (iI i0)), (2, .int (iI i1))]) dX6_swaps_86 hl (by decide) rfl rfl (fun ls hl => ?_)
      refine kx_goto 88 57 C dX6_swaps_88 (by decide) ?_
      exact ih3 _ _ _ _ _ _ _ _ _ hf I (lv_sub hl [2, 3, 4, 1, 0] rfl)
    · intro S p0 i0 i1 i2 i3 H locs ls hf I hl
      replace hf : b_X6_swaps_6 (g_X6_swaps fu) fu S p0 i0 i1 i2 i3 = some (r, S') := hf
      unfold b_X6_swaps_6 at hf
      refine kx_iadd 101 C dX6_swaps_101 ?_
      obtain ⟨x41, e42, hf⟩ := nmx_e hf
      refine kx_istore_n 102 C (lv' := [(1, .int (iI x41)), (0, .ref (xB G + p0)), (2, .int (iI i0))]) dX6_swaps_102 hl (by decide) e42 rfl (fun ls hl => ?_)
      obtain ⟨x43, e44, hf⟩ := nmx_e hf
      refine kx_iinc 103 C (lv' := [(2, .int (iI x43)), (1, .int (iI x41)), (0, .ref (xB G + p0))]) dX6_swaps_103 hl 2 rfl e44 (by decide) rfl (fun ls hl => ?_)
      refine kx_goto 106 39 C dX6_swaps_106 (by decide) ?_
      exact ih2 _ _ _ _ _ _ _ _ _ hf I (lv_sub hl [2, 1, 0] rfl)
set_option maxHeartbeats 4000000 in
set_option maxRecDepth 100000 in
theorem c_X6_swaps (G : xG) (l : Launch) (fu : Nat) (S S' : xS) (p0 : Nat) (r : Int) (hf : f_X6_swaps fu S p0 = some (r, S')) : Met l yX6_swaps vsX6_swaps rm_X6_swaps (va_Pc [.ref (xB G + p0)] (xPre G S)) (xQi G r S') 0 0 (xA G) := by
  refine kx_met (ret := (some .int)) RX6 [(0, .ref (xB G + p0))] (by decide) rfl rfl (Nat.le_of_ble_eq_true rfl) rfl (fun p e s m below meth c ls C hin I hl => ?_)
  exact (w_X6_swaps C r S' fu).1 S _ _ _ _ _ _ _ _ hf I hl
def rm_X6_mended : Room := { frames := 5, cells := 0, slots := 0, locals := 113 }
theorem mw_X6_mended_0 : Cond.constant RX6 197 (1000000) ∈ vsX6_mended := inM mq_36_11
theorem nyS_X6_mended : yX6_mended.cls ≠ "java/lang/invoke/MethodHandle" ∧ yX6_mended.cls ≠ "java/lang/invoke/VarHandle" ∧ (parseMethodDescriptor yX6_mended.desc).map (fun d => d.parameters.length) = some 0 := by decide +kernel
theorem nyV_X6_mended : yX6_mended.cls = RX6 ∧ yX6_mended.cls ≠ "java/lang/invoke/MethodHandle" ∧ yX6_mended.cls ≠ "java/lang/invoke/VarHandle" ∧ (parseMethodDescriptor yX6_mended.desc).map (fun d => d.parameters.length) = some 0 := by decide +kernel
set_option maxHeartbeats 4000000 in
set_option maxRecDepth 100000 in
theorem w_X6_mended {G : xG} {p : Program} {l : Launch} {e : Env} {s : State} {m : MethodId} {args : Array Value} {below : List Frame} {meth : Method} {c : Code} (C : xK G p s m args meth c cX6_mended 5 vsX6_mended RX6 (some .int)) (r : Int) (S' : xS) : ∀ k : Nat,
  (∀ (S : xS) (p0 : Nat) (i0 i1 i2 i3 : Int) (H : Heap) (locs : List Loc) (ls : Array Slot), g_X6_mended k 0 S p0 i0 i1 i2 i3 = some (r, S') → xI G S s H locs → lv_has ls 5 [(0, .ref (xB G + p0))] → W p l e rm_X6_mended s m args below meth c H locs 0 0 (MQ below (xQi G r S') args s 0 0 (xA G)) (F0 m 0 ls [])) ∧
  (∀ (S : xS) (p0 : Nat) (i0 i1 i2 i3 : Int) (H : Heap) (locs : List Loc) (ls : Array Slot), g_X6_mended k 1 S p0 i0 i1 i2 i3 = some (r, S') → xI G S s H locs → lv_has ls 5 [(0, .ref (xB G + p0)), (1, .int (iI i0)), (2, .int (iI i1))] → W p l e rm_X6_mended s m args below meth c H locs 0 0 (MQ below (xQi G r S') args s 0 0 (xA G)) (F0 m 5 ls [])) ∧
  (∀ (S : xS) (p0 : Nat) (i0 i1 i2 i3 : Int) (H : Heap) (locs : List Loc) (ls : Array Slot), g_X6_mended k 2 S p0 i0 i1 i2 i3 = some (r, S') → xI G S s H locs → lv_has ls 5 [(0, .ref (xB G + p0)), (1, .int (iI i0)), (2, .int (iI i1)), (3, .int (iI i2))] → W p l e rm_X6_mended s m args below meth c H locs 0 0 (MQ below (xQi G r S') args s 0 0 (xA G)) (F0 m 43 ls [])) ∧
  (∀ (S : xS) (p0 : Nat) (i0 i1 i2 i3 : Int) (H : Heap) (locs : List Loc) (ls : Array Slot), g_X6_mended k 3 S p0 i0 i1 i2 i3 = some (r, S') → xI G S s H locs → lv_has ls 5 [(0, .ref (xB G + p0)), (1, .int (iI i0)), (2, .int (iI i1)), (3, .int (iI i2))] → W p l e rm_X6_mended s m args below meth c H locs 0 0 (MQ below (xQi G r S') args s 0 0 (xA G)) (F0 m 44 ls [.int (iI i3)])) ∧
  (∀ (S : xS) (p0 : Nat) (i0 i1 i2 i3 : Int) (H : Heap) (locs : List Loc) (ls : Array Slot), g_X6_mended k 4 S p0 i0 i1 i2 i3 = some (r, S') → xI G S s H locs → lv_has ls 5 [(0, .ref (xB G + p0)), (2, .int (iI i0))] → W p l e rm_X6_mended s m args below meth c H locs 0 0 (MQ below (xQi G r S') args s 0 0 (xA G)) (F0 m 56 ls [.int (iI i1)])) := by
  intro k
  induction k with
  | zero => exact ⟨fun _ _ _ _ _ _ _ _ _ hf => (by cases hf), fun _ _ _ _ _ _ _ _ _ hf => (by cases hf), fun _ _ _ _ _ _ _ _ _ hf => (by cases hf), fun _ _ _ _ _ _ _ _ _ hf => (by cases hf), fun _ _ _ _ _ _ _ _ _ hf => (by cases hf)⟩
  | succ fu ih =>
    obtain ⟨ih0, ih1, ih2, ih3, ih4⟩ := ih
    refine ⟨?_, ?_, ?_, ?_, ?_⟩
    · intro S p0 i0 i1 i2 i3 H locs ls hf I hl
      replace hf : b_X6_mended_0 (g_X6_mended fu) fu S p0 i0 i1 i2 i3 = some (r, S') := hf
      unfold b_X6_mended_0 at hf
      refine kx_ldc 0 C (z := 1000000) mw_X6_mended_0 dX6_mended_0 (by decide) ?_
      refine kx_istore_n 2 C (lv' := [(1, .int (iI 1000000)), (0, .ref (xB G + p0))]) dX6_mended_2 hl (by decide) rfl rfl (fun ls hl => ?_)
      refine kx_iconst 3 C dX6_mended_3 ?_
      refine kx_istore_n 4 C (lv' := [(2, .int (iI 0)), (1, .int (iI 1000000)), (0, .ref (xB G + p0))]) dX6_mended_4 hl (by decide) rfl rfl (fun ls hl => ?_)
      exact ih1 _ _ _ _ _ _ _ _ _ hf I (lv_sub hl [2, 1, 0] rfl)
    · intro S p0 i0 i1 i2 i3 H locs ls hf I hl
      replace hf : b_X6_mended_1 (g_X6_mended fu) fu S p0 i0 i1 i2 i3 = some (r, S') := hf
      unfold b_X6_mended_1 at hf
      refine kx_iload_n 5 C dX6_mended_5 (lv_at hl 2 rfl) ?_
      refine kx_aload_n 6 C dX6_mended_6 (lv_at hl 0 rfl) ?_
      obtain ⟨h4, hf⟩ := ift hf
      obtain ⟨x3, S1, h2, hf⟩ := ob2 hf
      refine kx_callVi 7 C hl I (ci := 5) (As := []) (rest := [.int (iI i1)]) (c_X6_ways G l fu _ _ _ _ h2) (cwV 0 C.ts gX6_mended_X6_ways rfl rfl rfl nyV_X6_ways ⟨Nat.le_of_ble_eq_true rfl, Nat.le_of_ble_eq_true rfl⟩) rfl h4 rfl rfl (Nat.le_of_ble_eq_true rfl) dX6_mended_7 ⟨Nat.le_of_ble_eq_true rfl, Nat.le_of_ble_eq_true rfl⟩ (fun H locs I => ?_)
      refine kx_icmp_ge 10 63 C dX6_mended_10 (by decide) (fun c5 => ?_) (fun c5 => ?_)
      · have hf := ifp c5 hf
        refine kx_iload_n 63 C dX6_mended_63 (lv_at hl 1 rfl) ?_
        refine kx_ldc 64 C (z := 1000000) mw_X6_mended_0 dX6_mended_64 (by decide) ?_
        refine kx_icmp_ne 66 73 C dX6_mended_66 (by decide) (fun c6 => ?_) (fun c6 => ?_)
        · have hf := ifn c6 hf
          refine kx_iload_n 73 C dX6_mended_73 (lv_at hl 1 rfl) ?_
          exact kx_iret 74 C I hf dX6_mended_74
        · have hf := ifp c6 hf
          refine kx_iconst 69 C dX6_mended_69 ?_
          refine kx_goto 70 74 C dX6_mended_70 (by decide) ?_
          exact kx_iret 74 C I hf dX6_mended_74
      · have hf := ifn c5 hf
        refine kx_aload_n 13 C dX6_mended_13 (lv_at hl 0 rfl) ?_
        refine kx_iload_n 14 C dX6_mended_14 (lv_at hl 2 rfl) ?_
        obtain ⟨h10, hf⟩ := ift hf
        obtain ⟨z9, S7, h8, hf⟩ := ob2 hf
        refine kx_callVv 15 C hl I (ci := 5) (As := [.int (iI i1)]) (rest := []) (c_X6_takeRank G l fu _ _ _ _ _ h8) (cwV 1 C.ts gX6_mended_X6_takeRank rfl rfl rfl nyV_X6_takeRank ⟨Nat.le_of_ble_eq_true rfl, Nat.le_of_ble_eq_true rfl⟩) rfl h10 rfl rfl (Nat.le_of_ble_eq_true rfl) dX6_mended_15 ⟨Nat.le_of_ble_eq_true rfl, Nat.le_of_ble_eq_true rfl⟩ (fun H locs I => ?_)
        refine kx_aload_n 18 C dX6_mended_18 (lv_at hl 0 rfl) ?_
        obtain ⟨h14, hf⟩ := ift hf
        obtain ⟨x13, S11, h12, hf⟩ := ob2 hf
        refine kx_callVi 19 C hl I (ci := 5) (As := []) (rest := []) (c_X6_swaps G l fu _ _ _ _ h12) (cwV 0 C.ts gX6_mended_X6_swaps rfl rfl rfl nyV_X6_swaps ⟨Nat.le_of_ble_eq_true rfl, Nat.le_of_ble_eq_true rfl⟩) rfl h14 rfl rfl (Nat.le_of_ble_eq_true rfl) dX6_mended_19 ⟨Nat.le_of_ble_eq_true rfl, Nat.le_of_ble_eq_true rfl⟩ (fun H locs I => ?_)
        refine kx_istore_n 22 C (lv' := [(3, .int (iI x13)), (0, .ref (xB G + p0)), (1, .int (iI i0)), (2, .int (iI i1))]) dX6_mended_22 hl (by decide) rfl rfl (fun ls hl => ?_)
        refine kx_iload_n 23 C dX6_mended_23 (lv_at hl 0 rfl) ?_
        refine kx_iload_n 24 C dX6_mended_24 (lv_at hl 2 rfl) ?_
        refine kx_icmp_ge 25 43 C dX6_mended_25 (by decide) (fun c15 => ?_) (fun c15 => ?_)
        · have hf := ifp c15 hf
          exact ih2 _ _ _ _ _ _ _ _ _ hf I (lv_sub hl [1, 2, 3, 0] rfl)
        · have hf := ifn c15 hf
          refine kx_aload_n 28 C dX6_mended_28 (lv_at hl 1 rfl) ?_
          obtain ⟨h19, hf⟩ := ift hf
          obtain ⟨x18, S16, h17, hf⟩ := ob2 hf
          refine kx_callVi 29 C hl I (ci := 5) (As := []) (rest := []) (c_X6_findsHand G l fu _ _ _ _ h17) (cwV 0 C.ts gX6_mended_X6_findsHand rfl rfl rfl nyV_X6_findsHand ⟨Nat.le_of_ble_eq_true rfl, Nat.le_of_ble_eq_true rfl⟩) rfl h19 rfl rfl (Nat.le_of_ble_eq_true rfl) dX6_mended_29 ⟨Nat.le_of_ble_eq_true rfl, Nat.le_of_ble_eq_true rfl⟩ (fun H locs I => ?_)
          refine kx_aload_n 32 C dX6_mended_32 (lv_at hl 1 rfl) ?_
          obtain ⟨h23, hf⟩ := ift hf
          obtain ⟨x22, S20, h21, hf⟩ := ob2 hf
          refine kx_callVi 33 C hl I (ci := 5) (As := []) (rest := [.int (iI x18)]) (c_X6_all G l fu _ _ _ _ h21) (cwV 0 C.ts gX6_mended_X6_all rfl rfl rfl nyV_X6_all ⟨Nat.le_of_ble_eq_true rfl, Nat.le_of_ble_eq_true rfl⟩) rfl h23 rfl rfl (Nat.le_of_ble_eq_true rfl) dX6_mended_33 ⟨Nat.le_of_ble_eq_true rfl, Nat.le_of_ble_eq_true rfl⟩ (fun H locs I => ?_)
          refine kx_icmp_ne 36 43 C dX6_mended_36 (by decide) (fun c24 => ?_) (fun c24 => ?_)
          · have hf := ifn c24 hf
            exact ih2 _ _ _ _ _ _ _ _ _ hf I (lv_sub hl [1, 2, 3, 0] rfl)
          · have hf := ifp c24 hf
            refine kx_iconst 39 C dX6_mended_39 ?_
            refine kx_goto 40 44 C dX6_mended_40 (by decide) ?_
            exact ih3 _ _ _ _ _ _ _ _ _ hf I (lv_sub hl [1, 2, 3, 0] rfl)
    · intro S p0 i0 i1 i2 i3 H locs ls hf I hl
      replace hf : b_X6_mended_2 (g_X6_mended fu) fu S p0 i0 i1 i2 i3 = some (r, S') := hf
      unfold b_X6_mended_2 at hf
      refine kx_iconst 43 C dX6_mended_43 ?_
      exact ih3 _ _ _ _ _ _ _ _ _ hf I (lv_sub hl [0, 1, 2, 3] rfl)
    · intro S p0 i0 i1 i2 i3 H locs ls hf I hl
      replace hf : b_X6_mended_3 (g_X6_mended fu) fu S p0 i0 i1 i2 i3 = some (r, S') := hf
      unfold b_X6_mended_3 at hf
      refine kx_istore 44 C (lv' := [(4, .int (iI i3)), (0, .ref (xB G + p0)), (1, .int (iI i0)), (2, .int (iI i1)), (3, .int (iI i2))]) dX6_mended_44 hl (by decide) rfl rfl (fun ls hl => ?_)
      refine kx_iload 46 C dX6_mended_46 (lv_at hl 0 rfl) ?_
      refine kx_if_eq 48 55 C dX6_mended_48 (by decide) (fun c25 => ?_) (fun c25 => ?_)
      · have hf := ifp c25 hf
        refine kx_iload_n 55 C dX6_mended_55 (lv_at hl 2 rfl) ?_
        exact ih4 _ _ _ _ _ _ _ _ _ hf I (lv_sub hl [1, 3] rfl)
      · have hf := ifn c25 hf
        refine kx_iload_n 51 C dX6_mended_51 (lv_at hl 4 rfl) ?_
        refine kx_goto 52 56 C dX6_mended_52 (by decide) ?_
        exact ih4 _ _ _ _ _ _ _ _ _ hf I (lv_sub hl [1, 3] rfl)
    · intro S p0 i0 i1 i2 i3 H locs ls hf I hl
      replace hf : b_X6_mended_4 (g_X6_mended fu) fu S p0 i0 i1 i2 i3 = some (r, S') := hf
      unfold b_X6_mended_4 at hf
      refine kx_istore_n 56 C (lv' := [(1, .int (iI i1)), (0, .ref (xB G + p0)), (2, .int (iI i0))]) dX6_mended_56 hl (by decide) rfl rfl (fun ls hl => ?_)
      obtain ⟨x26, e27, hf⟩ := nmx_e hf
      refine kx_iinc 57 C (lv' := [(2, .int (iI x26)), (1, .int (iI i1)), (0, .ref (xB G + p0))]) dX6_mended_57 hl 2 rfl e27 (by decide) rfl (fun ls hl => ?_)
      refine kx_goto 60 5 C dX6_mended_60 (by decide) ?_
      exact ih1 _ _ _ _ _ _ _ _ _ hf I (lv_sub hl [2, 1, 0] rfl)
set_option maxHeartbeats 4000000 in
set_option maxRecDepth 100000 in
theorem c_X6_mended (G : xG) (l : Launch) (fu : Nat) (S S' : xS) (p0 : Nat) (r : Int) (hf : f_X6_mended fu S p0 = some (r, S')) : Met l yX6_mended vsX6_mended rm_X6_mended (va_Pc [.ref (xB G + p0)] (xPre G S)) (xQi G r S') 0 0 (xA G) := by
  refine kx_met (ret := (some .int)) RX6 [(0, .ref (xB G + p0))] (by decide) rfl rfl (Nat.le_of_ble_eq_true rfl) rfl (fun p e s m below meth c ls C hin I hl => ?_)
  exact (w_X6_mended C r S' fu).1 S _ _ _ _ _ _ _ _ hf I hl
def rm_X6_third : Room := { frames := 5, cells := 0, slots := 0, locals := 113 }
theorem nyS_X6_third : yX6_third.cls ≠ "java/lang/invoke/MethodHandle" ∧ yX6_third.cls ≠ "java/lang/invoke/VarHandle" ∧ (parseMethodDescriptor yX6_third.desc).map (fun d => d.parameters.length) = some 1 := by decide +kernel
theorem nyV_X6_third : yX6_third.cls = RX6 ∧ yX6_third.cls ≠ "java/lang/invoke/MethodHandle" ∧ yX6_third.cls ≠ "java/lang/invoke/VarHandle" ∧ (parseMethodDescriptor yX6_third.desc).map (fun d => d.parameters.length) = some 1 := by decide +kernel
set_option maxHeartbeats 4000000 in
set_option maxRecDepth 100000 in
theorem w_X6_third {G : xG} {p : Program} {l : Launch} {e : Env} {s : State} {m : MethodId} {args : Array Value} {below : List Frame} {meth : Method} {c : Code} (C : xK G p s m args meth c cX6_third 8 vsX6_third RX6 (some .int)) (r : Int) (S' : xS) : ∀ k : Nat,
  (∀ (S : xS) (p0 : Nat) (i0 i1 i2 i3 i4 i5 i6 : Int) (H : Heap) (locs : List Loc) (ls : Array Slot), g_X6_third k 0 S p0 i0 i1 i2 i3 i4 i5 i6 = some (r, S') → xI G S s H locs → lv_has ls 8 [(0, .ref (xB G + p0)), (1, .int (iI i0))] → W p l e rm_X6_third s m args below meth c H locs 0 0 (MQ below (xQi G r S') args s 0 0 (xA G)) (F0 m 0 ls [])) ∧
  (∀ (S : xS) (p0 : Nat) (i0 i1 i2 i3 i4 i5 i6 : Int) (H : Heap) (locs : List Loc) (ls : Array Slot), g_X6_third k 1 S p0 i0 i1 i2 i3 i4 i5 i6 = some (r, S') → xI G S s H locs → lv_has ls 8 [(0, .ref (xB G + p0)), (1, .int (iI i0)), (2, .int (iI i1)), (3, .int (iI i2)), (4, .int (iI i3))] → W p l e rm_X6_third s m args below meth c H locs 0 0 (MQ below (xQi G r S') args s 0 0 (xA G)) (F0 m 34 ls [])) ∧
  (∀ (S : xS) (p0 : Nat) (i0 i1 i2 i3 i4 i5 i6 : Int) (H : Heap) (locs : List Loc) (ls : Array Slot), g_X6_third k 2 S p0 i0 i1 i2 i3 i4 i5 i6 = some (r, S') → xI G S s H locs → lv_has ls 8 [(0, .ref (xB G + p0)), (1, .int (iI i0)), (2, .int (iI i1)), (3, .int (iI i2)), (4, .int (iI i3)), (5, .int (iI i4))] → W p l e rm_X6_third s m args below meth c H locs 0 0 (MQ below (xQi G r S') args s 0 0 (xA G)) (F0 m 49 ls [])) ∧
  (∀ (S : xS) (p0 : Nat) (i0 i1 i2 i3 i4 i5 i6 : Int) (H : Heap) (locs : List Loc) (ls : Array Slot), g_X6_third k 3 S p0 i0 i1 i2 i3 i4 i5 i6 = some (r, S') → xI G S s H locs → lv_has ls 8 [(0, .ref (xB G + p0)), (1, .int (iI i0)), (2, .int (iI i1)), (3, .int (iI i2)), (4, .int (iI i3)), (5, .int (iI i4)), (6, .int (iI i5))] → W p l e rm_X6_third s m args below meth c H locs 0 0 (MQ below (xQi G r S') args s 0 0 (xA G)) (F0 m 108 ls [.int (iI i6)])) ∧
  (∀ (S : xS) (p0 : Nat) (i0 i1 i2 i3 i4 i5 i6 : Int) (H : Heap) (locs : List Loc) (ls : Array Slot), g_X6_third k 4 S p0 i0 i1 i2 i3 i4 i5 i6 = some (r, S') → xI G S s H locs → lv_has ls 8 [(0, .ref (xB G + p0)), (1, .int (iI i0)), (2, .int (iI i1)), (4, .int (iI i2)), (5, .int (iI i3)), (6, .int (iI i4)), (7, .int (iI i5))] → W p l e rm_X6_third s m args below meth c H locs 0 0 (MQ below (xQi G r S') args s 0 0 (xA G)) (F0 m 127 ls [.int (iI i6)])) ∧
  (∀ (S : xS) (p0 : Nat) (i0 i1 i2 i3 i4 i5 i6 : Int) (H : Heap) (locs : List Loc) (ls : Array Slot), g_X6_third k 5 S p0 i0 i1 i2 i3 i4 i5 i6 = some (r, S') → xI G S s H locs → lv_has ls 8 [(0, .ref (xB G + p0)), (1, .int (iI i0)), (3, .int (iI i1)), (4, .int (iI i2)), (5, .int (iI i3))] → W p l e rm_X6_third s m args below meth c H locs 0 0 (MQ below (xQi G r S') args s 0 0 (xA G)) (F0 m 139 ls [.int (iI i4)])) := by
  intro k
  induction k with
  | zero => exact ⟨fun _ _ _ _ _ _ _ _ _ _ _ _ hf => (by cases hf), fun _ _ _ _ _ _ _ _ _ _ _ _ hf => (by cases hf), fun _ _ _ _ _ _ _ _ _ _ _ _ hf => (by cases hf), fun _ _ _ _ _ _ _ _ _ _ _ _ hf => (by cases hf), fun _ _ _ _ _ _ _ _ _ _ _ _ hf => (by cases hf), fun _ _ _ _ _ _ _ _ _ _ _ _ hf => (by cases hf)⟩
  | succ fu ih =>
    obtain ⟨ih0, ih1, ih2, ih3, ih4, ih5⟩ := ih
    refine ⟨?_, ?_, ?_, ?_, ?_, ?_⟩
    · intro S p0 i0 i1 i2 i3 i4 i5 i6 H locs ls hf I hl
      replace hf : b_X6_third_0 (g_X6_third fu) fu S p0 i0 i1 i2 i3 i4 i5 i6 = some (r, S') := hf
      unfold b_X6_third_0 at hf
      refine kx_iload_n 0 C dX6_third_0 (lv_at hl 1 rfl) ?_
      refine kx_i2l 1 C dX6_third_1 ?_
      refine kx_lconst 2 C (z := 0) dX6_third_2 rfl ?_
      refine kx_lconst 3 C (z := 1) dX6_third_3 rfl ?_
      obtain ⟨x3, S1, h2, hf⟩ := ob2 hf
      refine kx_callSi 4 C hl I (As := [.long (lI (wI i0)), .long (lI 0), .long (lI 1)]) (rest := []) (c_X6_in G l fu _ _ _ _ _ _ h2) (va_cwS 3 C.ts gX6_third_X6_in rfl rfl rfl nyS_X6_in ⟨Nat.le_of_ble_eq_true rfl, Nat.le_of_ble_eq_true rfl⟩) rfl rfl (Nat.le_of_ble_eq_true rfl) dX6_third_4 ⟨Nat.le_of_ble_eq_true rfl, Nat.le_of_ble_eq_true rfl⟩ (fun H locs I => ?_)
      refine kx_if_ne 7 17 C dX6_third_7 (by decide) (fun c4 => ?_) (fun c4 => ?_)
      · have hf := ifn c4 hf
        refine kx_aload_n 17 C dX6_third_17 (lv_at hl 0 rfl) ?_
        obtain ⟨h8, hf⟩ := ift hf
        obtain ⟨z7, S5, h6, hf⟩ := ob2 hf
        refine kx_callVv 18 C hl I (ci := 5) (As := []) (rest := []) (c_X6_takeNow G l fu _ _ _ _ h6) (cwV 0 C.ts gX6_third_X6_takeNow rfl rfl rfl nyV_X6_takeNow ⟨Nat.le_of_ble_eq_true rfl, Nat.le_of_ble_eq_true rfl⟩) rfl h8 rfl rfl (Nat.le_of_ble_eq_true rfl) dX6_third_18 ⟨Nat.le_of_ble_eq_true rfl, Nat.le_of_ble_eq_true rfl⟩ (fun H locs I => ?_)
        refine kx_aload_n 21 C dX6_third_21 (lv_at hl 0 rfl) ?_
        obtain ⟨h12, hf⟩ := ift hf
        obtain ⟨x11, S9, h10, hf⟩ := ob2 hf
        refine kx_callVi 22 C hl I (ci := 5) (As := []) (rest := []) (c_X6_findsHand G l fu _ _ _ _ h10) (cwV 0 C.ts gX6_third_X6_findsHand rfl rfl rfl nyV_X6_findsHand ⟨Nat.le_of_ble_eq_true rfl, Nat.le_of_ble_eq_true rfl⟩) rfl h12 rfl rfl (Nat.le_of_ble_eq_true rfl) dX6_third_22 ⟨Nat.le_of_ble_eq_true rfl, Nat.le_of_ble_eq_true rfl⟩ (fun H locs I => ?_)
        obtain ⟨x15, S13, h14, hf⟩ := ob2 hf
        refine kx_callSi 25 C hl I (As := [.int (iI x11)]) (rest := []) (c_X6_bits G l fu _ _ _ _ h14) (va_cwS 1 C.ts gX6_third_X6_bits rfl rfl rfl nyS_X6_bits ⟨Nat.le_of_ble_eq_true rfl, Nat.le_of_ble_eq_true rfl⟩) rfl rfl (Nat.le_of_ble_eq_true rfl) dX6_third_25 ⟨Nat.le_of_ble_eq_true rfl, Nat.le_of_ble_eq_true rfl⟩ (fun H locs I => ?_)
        refine kx_istore_n 28 C (lv' := [(2, .int (iI x15)), (0, .ref (xB G + p0)), (1, .int (iI i0))]) dX6_third_28 hl (by decide) rfl rfl (fun ls hl => ?_)
        refine kx_iconst 29 C dX6_third_29 ?_
        refine kx_istore_n 30 C (lv' := [(3, .int (iI ((-1)))), (2, .int (iI x15)), (0, .ref (xB G + p0)), (1, .int (iI i0))]) dX6_third_30 hl (by decide) rfl rfl (fun ls hl => ?_)
        refine kx_iconst 31 C dX6_third_31 ?_
        refine kx_istore 32 C (lv' := [(4, .int (iI 0)), (3, .int (iI ((-1)))), (2, .int (iI x15)), (0, .ref (xB G + p0)), (1, .int (iI i0))]) dX6_third_32 hl (by decide) rfl rfl (fun ls hl => ?_)
        exact ih1 _ _ _ _ _ _ _ _ _ _ _ _ hf I (lv_sub hl [3, 4, 2, 1, 0] rfl)
      · have hf := ifp c4 hf
        refine kx_aload_n 10 C dX6_third_10 (lv_at hl 0 rfl) ?_
        refine kx_bipush 11 C dX6_third_11 (by decide) ?_
        obtain ⟨h19, hf⟩ := ift hf
        obtain ⟨x18, S16, h17, hf⟩ := ob2 hf
        refine kx_callVi 13 C hl I (ci := 5) (As := [.int (iI ((-2)))]) (rest := []) (c_X6_bad G l fu _ _ _ _ _ h17) (cwV 1 C.ts gX6_third_X6_bad rfl rfl rfl nyV_X6_bad ⟨Nat.le_of_ble_eq_true rfl, Nat.le_of_ble_eq_true rfl⟩) rfl h19 rfl rfl (Nat.le_of_ble_eq_true rfl) dX6_third_13 ⟨Nat.le_of_ble_eq_true rfl, Nat.le_of_ble_eq_true rfl⟩ (fun H locs I => ?_)
        exact kx_iret 16 C I hf dX6_third_16
    · intro S p0 i0 i1 i2 i3 i4 i5 i6 H locs ls hf I hl
      replace hf : b_X6_third_1 (g_X6_third fu) fu S p0 i0 i1 i2 i3 i4 i5 i6 = some (r, S') := hf
      unfold b_X6_third_1 at hf
      refine kx_iload 34 C dX6_third_34 (lv_at hl 4 rfl) ?_
      refine kx_aload_n 36 C dX6_third_36 (lv_at hl 0 rfl) ?_
      obtain ⟨h23, hf⟩ := ift hf
      obtain ⟨x22, S20, h21, hf⟩ := ob2 hf
      refine kx_callVi 37 C hl I (ci := 5) (As := []) (rest := [.int (iI i3)]) (c_X6_n G l fu _ _ _ _ h21) (cwV 0 C.ts gX6_third_X6_n rfl rfl rfl nyV_X6_n ⟨Nat.le_of_ble_eq_true rfl, Nat.le_of_ble_eq_true rfl⟩) rfl h23 rfl rfl (Nat.le_of_ble_eq_true rfl) dX6_third_37 ⟨Nat.le_of_ble_eq_true rfl, Nat.le_of_ble_eq_true rfl⟩ (fun H locs I => ?_)
      refine kx_icmp_ge 40 152 C dX6_third_40 (by decide) (fun c24 => ?_) (fun c24 => ?_)
      · have hf := ifp c24 hf
        refine kx_iload_n 152 C dX6_third_152 (lv_at hl 3 rfl) ?_
        exact kx_iret 153 C I hf dX6_third_153
      · have hf := ifn c24 hf
        refine kx_iload 43 C dX6_third_43 (lv_at hl 4 rfl) ?_
        refine kx_iconst 45 C dX6_third_45 ?_
        refine kx_iadd 46 C dX6_third_46 ?_
        obtain ⟨x25, e26, hf⟩ := nmx_e hf
        refine kx_istore 47 C (lv' := [(5, .int (iI x25)), (0, .ref (xB G + p0)), (1, .int (iI i0)), (2, .int (iI i1)), (3, .int (iI i2)), (4, .int (iI i3))]) dX6_third_47 hl (by decide) e26 rfl (fun ls hl => ?_)
        exact ih2 _ _ _ _ _ _ _ _ _ _ _ _ hf I (lv_sub hl [1, 2, 3, 4, 5, 0] rfl)
    · intro S p0 i0 i1 i2 i3 i4 i5 i6 H locs ls hf I hl
      replace hf : b_X6_third_2 (g_X6_third fu) fu S p0 i0 i1 i2 i3 i4 i5 i6 = some (r, S') := hf
      unfold b_X6_third_2 at hf
      refine kx_iload 49 C dX6_third_49 (lv_at hl 5 rfl) ?_
      refine kx_aload_n 51 C dX6_third_51 (lv_at hl 0 rfl) ?_
      obtain ⟨h30, hf⟩ := ift hf
      obtain ⟨x29, S27, h28, hf⟩ := ob2 hf
      refine kx_callVi 52 C hl I (ci := 5) (As := []) (rest := [.int (iI i4)]) (c_X6_n G l fu _ _ _ _ h28) (cwV 0 C.ts gX6_third_X6_n rfl rfl rfl nyV_X6_n ⟨Nat.le_of_ble_eq_true rfl, Nat.le_of_ble_eq_true rfl⟩) rfl h30 rfl rfl (Nat.le_of_ble_eq_true rfl) dX6_third_52 ⟨Nat.le_of_ble_eq_true rfl, Nat.le_of_ble_eq_true rfl⟩ (fun H locs I => ?_)
      refine kx_icmp_ge 55 146 C dX6_third_55 (by decide) (fun c31 => ?_) (fun c31 => ?_)
      · have hf := ifp c31 hf
        obtain ⟨x32, e33, hf⟩ := nmx_e hf
        refine kx_iinc 146 C (lv' := [(4, .int (iI x32)), (0, .ref (xB G + p0)), (1, .int (iI i0)), (2, .int (iI i1)), (3, .int (iI i2)), (5, .int (iI i4))]) dX6_third_146 hl 4 rfl e33 (by decide) rfl (fun ls hl => ?_)
        refine kx_goto 149 34 C dX6_third_149 (by decide) ?_
        exact ih1 _ _ _ _ _ _ _ _ _ _ _ _ hf I (lv_sub hl [1, 2, 3, 4, 0] rfl)
      · have hf := ifn c31 hf
        refine kx_aload_n 58 C dX6_third_58 (lv_at hl 0 rfl) ?_
        obtain ⟨h37, hf⟩ := ift hf
        obtain ⟨z36, S34, h35, hf⟩ := ob2 hf
        refine kx_callVv 59 C hl I (ci := 5) (As := []) (rest := []) (c_X6_takeNow G l fu _ _ _ _ h35) (cwV 0 C.ts gX6_third_X6_takeNow rfl rfl rfl nyV_X6_takeNow ⟨Nat.le_of_ble_eq_true rfl, Nat.le_of_ble_eq_true rfl⟩) rfl h37 rfl rfl (Nat.le_of_ble_eq_true rfl) dX6_third_59 ⟨Nat.le_of_ble_eq_true rfl, Nat.le_of_ble_eq_true rfl⟩ (fun H locs I => ?_)
        refine kx_aload_n 62 C dX6_third_62 (lv_at hl 0 rfl) ?_
        refine kx_iload 63 C dX6_third_63 (lv_at hl 4 rfl) ?_
        refine kx_iload 65 C dX6_third_65 (lv_at hl 5 rfl) ?_
        obtain ⟨h41, hf⟩ := ift hf
        obtain ⟨z40, S38, h39, hf⟩ := ob2 hf
        refine kx_callVv 67 C hl I (ci := 5) (As := [.int (iI i3), .int (iI i4)]) (rest := []) (c_X6_swapHand G l fu _ _ _ _ _ _ h39) (cwV 2 C.ts gX6_third_X6_swapHand rfl rfl rfl nyV_X6_swapHand ⟨Nat.le_of_ble_eq_true rfl, Nat.le_of_ble_eq_true rfl⟩) rfl h41 rfl rfl (Nat.le_of_ble_eq_true rfl) dX6_third_67 ⟨Nat.le_of_ble_eq_true rfl, Nat.le_of_ble_eq_true rfl⟩ (fun H locs I => ?_)
        refine kx_aload_n 70 C dX6_third_70 (lv_at hl 0 rfl) ?_
        obtain ⟨h45, hf⟩ := ift hf
        obtain ⟨x44, S42, h43, hf⟩ := ob2 hf
        refine kx_callVi 71 C hl I (ci := 5) (As := []) (rest := []) (c_X6_findsHand G l fu _ _ _ _ h43) (cwV 0 C.ts gX6_third_X6_findsHand rfl rfl rfl nyV_X6_findsHand ⟨Nat.le_of_ble_eq_true rfl, Nat.le_of_ble_eq_true rfl⟩) rfl h45 rfl rfl (Nat.le_of_ble_eq_true rfl) dX6_third_71 ⟨Nat.le_of_ble_eq_true rfl, Nat.le_of_ble_eq_true rfl⟩ (fun H locs I => ?_)
        obtain ⟨x48, S46, h47, hf⟩ := ob2 hf
        refine kx_callSi 74 C hl I (As := [.int (iI x44)]) (rest := []) (c_X6_bits G l fu _ _ _ _ h47) (va_cwS 1 C.ts gX6_third_X6_bits rfl rfl rfl nyS_X6_bits ⟨Nat.le_of_ble_eq_true rfl, Nat.le_of_ble_eq_true rfl⟩) rfl rfl (Nat.le_of_ble_eq_true rfl) dX6_third_74 ⟨Nat.le_of_ble_eq_true rfl, Nat.le_of_ble_eq_true rfl⟩ (fun H locs I => ?_)
        refine kx_istore 77 C (lv' := [(6, .int (iI x48)), (0, .ref (xB G + p0)), (1, .int (iI i0)), (2, .int (iI i1)), (3, .int (iI i2)), (4, .int (iI i3)), (5, .int (iI i4))]) dX6_third_77 hl (by decide) rfl rfl (fun ls hl => ?_)
        refine kx_iload_n 79 C dX6_third_79 (lv_at hl 2 rfl) ?_
        refine kx_if_ne 80 97 C dX6_third_80 (by decide) (fun c49 => ?_) (fun c49 => ?_)
        · have hf := ifn c49 hf
          refine kx_iload 97 C dX6_third_97 (lv_at hl 0 rfl) ?_
          refine kx_iload_n 99 C dX6_third_99 (lv_at hl 3 rfl) ?_
          refine kx_icmp_ge 100 107 C dX6_third_100 (by decide) (fun c50 => ?_) (fun c50 => ?_)
          · have hf := ifp c50 hf
            refine kx_iconst 107 C dX6_third_107 ?_
            exact ih3 _ _ _ _ _ _ _ _ _ _ _ _ hf I (lv_sub hl [1, 2, 3, 4, 5, 6, 0] rfl)
          · have hf := ifn c50 hf
            refine kx_iconst 103 C dX6_third_103 ?_
            refine kx_goto 104 108 C dX6_third_104 (by decide) ?_
            exact ih3 _ _ _ _ _ _ _ _ _ _ _ _ hf I (lv_sub hl [1, 2, 3, 4, 5, 6, 0] rfl)
        · have hf := ifp c49 hf
          refine kx_iload 83 C dX6_third_83 (lv_at hl 0 rfl) ?_
          refine kx_iload_n 85 C dX6_third_85 (lv_at hl 3 rfl) ?_
          refine kx_icmp_le 86 93 C dX6_third_86 (by decide) (fun c51 => ?_) (fun c51 => ?_)
          · have hf := ifp c51 hf
            refine kx_iconst 93 C dX6_third_93 ?_
            refine kx_goto 94 108 C dX6_third_94 (by decide) ?_
            exact ih3 _ _ _ _ _ _ _ _ _ _ _ _ hf I (lv_sub hl [1, 2, 3, 4, 5, 6, 0] rfl)
          · have hf := ifn c51 hf
            refine kx_iconst 89 C dX6_third_89 ?_
            refine kx_goto 90 108 C dX6_third_90 (by decide) ?_
            exact ih3 _ _ _ _ _ _ _ _ _ _ _ _ hf I (lv_sub hl [1, 2, 3, 4, 5, 6, 0] rfl)
    · intro S p0 i0 i1 i2 i3 i4 i5 i6 H locs ls hf I hl
      replace hf : b_X6_third_3 (g_X6_third fu) fu S p0 i0 i1 i2 i3 i4 i5 i6 = some (r, S') := hf
      unfold b_X6_third_3 at hf
      refine kx_istore 108 C (lv' := [(7, .int (iI i6)), (0, .ref (xB G + p0)), (1, .int (iI i0)), (2, .int (iI i1)), (3, .int (iI i2)), (4, .int (iI i3)), (5, .int (iI i4)), (6, .int (iI i5))]) dX6_third_108 hl (by decide) rfl rfl (fun ls hl => ?_)
      refine kx_iload 110 C dX6_third_110 (lv_at hl 0 rfl) ?_
      refine kx_if_eq 112 126 C dX6_third_112 (by decide) (fun c52 => ?_) (fun c52 => ?_)
      · have hf := ifp c52 hf
        refine kx_iload_n 126 C dX6_third_126 (lv_at hl 4 rfl) ?_
        exact ih4 _ _ _ _ _ _ _ _ _ _ _ _ hf I (lv_sub hl [1, 2, 3, 5, 6, 7, 0] rfl)
      · have hf := ifn c52 hf
        refine kx_bipush 115 C dX6_third_115 (by decide) ?_
        refine kx_iload 117 C dX6_third_117 (lv_at hl 5 rfl) ?_
        refine kx_imul 119 C dX6_third_119 ?_
        refine kx_iload 120 C dX6_third_120 (lv_at hl 6 rfl) ?_
        refine kx_iadd 122 C dX6_third_122 ?_
        refine kx_goto 123 127 C dX6_third_123 (by decide) ?_
        exact ih4 _ _ _ _ _ _ _ _ _ _ _ _ hf I (lv_sub hl [1, 2, 3, 5, 6, 7, 0] rfl)
    · intro S p0 i0 i1 i2 i3 i4 i5 i6 H locs ls hf I hl
      replace hf : b_X6_third_4 (g_X6_third fu) fu S p0 i0 i1 i2 i3 i4 i5 i6 = some (r, S') := hf
      unfold b_X6_third_4 at hf
      refine kx_istore_n 127 C (lv' := [(3, .int (iI i6)), (0, .ref (xB G + p0)), (1, .int (iI i0)), (2, .int (iI i1)), (4, .int (iI i2)), (5, .int (iI i3)), (6, .int (iI i4)), (7, .int (iI i5))]) dX6_third_127 hl (by decide) rfl rfl (fun ls hl => ?_)
      refine kx_iload 128 C dX6_third_128 (lv_at hl 7 rfl) ?_
      refine kx_if_eq 130 138 C dX6_third_130 (by decide) (fun c53 => ?_) (fun c53 => ?_)
      · have hf := ifp c53 hf
        refine kx_iload_n 138 C dX6_third_138 (lv_at hl 3 rfl) ?_
        exact ih5 _ _ _ _ _ _ _ _ _ _ _ _ hf I (lv_sub hl [1, 2, 0, 4, 5] rfl)
      · have hf := ifn c53 hf
        refine kx_iload 133 C dX6_third_133 (lv_at hl 6 rfl) ?_
        refine kx_goto 135 139 C dX6_third_135 (by decide) ?_
        exact ih5 _ _ _ _ _ _ _ _ _ _ _ _ hf I (lv_sub hl [1, 2, 0, 4, 5] rfl)
    · intro S p0 i0 i1 i2 i3 i4 i5 i6 H locs ls hf I hl
      replace hf : b_X6_third_5 (g_X6_third fu) fu S p0 i0 i1 i2 i3 i4 i5 i6 = some (r, S') := hf
      unfold b_X6_third_5 at hf
      refine kx_istore_n 139 C (lv' := [(2, .int (iI i4)), (0, .ref (xB G + p0)), (1, .int (iI i0)), (3, .int (iI i1)), (4, .int (iI i2)), (5, .int (iI i3))]) dX6_third_139 hl (by decide) rfl rfl (fun ls hl => ?_)
      obtain ⟨x54, e55, hf⟩ := nmx_e hf
      refine kx_iinc 140 C (lv' := [(5, .int (iI x54)), (2, .int (iI i4)), (0, .ref (xB G + p0)), (1, .int (iI i0)), (3, .int (iI i1)), (4, .int (iI i2))]) dX6_third_140 hl 5 rfl e55 (by decide) rfl (fun ls hl => ?_)
      refine kx_goto 143 49 C dX6_third_143 (by decide) ?_
      exact ih2 _ _ _ _ _ _ _ _ _ _ _ _ hf I (lv_sub hl [2, 3, 1, 4, 5, 0] rfl)
set_option maxHeartbeats 4000000 in
set_option maxRecDepth 100000 in
theorem c_X6_third (G : xG) (l : Launch) (fu : Nat) (S S' : xS) (p0 : Nat) (i0 : Int) (r : Int) (hf : f_X6_third fu S p0 i0 = some (r, S')) : Met l yX6_third vsX6_third rm_X6_third (va_Pc [.ref (xB G + p0), .int (iI i0)] (xPre G S)) (xQi G r S') 0 0 (xA G) := by
  refine kx_met (ret := (some .int)) RX6 [(0, .ref (xB G + p0)), (1, .int (iI i0))] (by decide) rfl rfl (Nat.le_of_ble_eq_true rfl) rfl (fun p e s m below meth c ls C hin I hl => ?_)
  exact (w_X6_third C r S' fu).1 S _ _ _ _ _ _ _ _ _ _ _ hf I hl
def rm_X6_layHand : Room := { frames := 1, cells := 0, slots := 0, locals := 23 }
theorem hin_X6_layHand_RX6 : ∀ w ∈ wsX60, w ∈ vsX6_layHand := fun w h => inM (inlX6 w h)
theorem fl_X6_layHand_27 : xFl vsX6_layHand RX6 27 5 6 := ⟨RX6, TX6, 30, rfl, by decide, hin_X6_layHand_RX6, inM mq_4_22, rfl⟩
theorem mw_X6_layHand_0 : Cond.constantLong RX6 250 (1103515245) ∈ vsX6_layHand := inM mq_44_14
theorem mw_X6_layHand_1 : Cond.constantLong RX6 252 (12345) ∈ vsX6_layHand := inM mq_44_15
theorem mw_X6_layHand_2 : Cond.constantLong RX6 254 (2147483648) ∈ vsX6_layHand := inM mq_44_16
theorem mw_X6_layHand_3 : Cond.constantLong RX6 256 (65536) ∈ vsX6_layHand := inM mq_44_17
theorem nyS_X6_layHand : yX6_layHand.cls ≠ "java/lang/invoke/MethodHandle" ∧ yX6_layHand.cls ≠ "java/lang/invoke/VarHandle" ∧ (parseMethodDescriptor yX6_layHand.desc).map (fun d => d.parameters.length) = some 1 := by decide +kernel
theorem nyV_X6_layHand : yX6_layHand.cls = RX6 ∧ yX6_layHand.cls ≠ "java/lang/invoke/MethodHandle" ∧ yX6_layHand.cls ≠ "java/lang/invoke/VarHandle" ∧ (parseMethodDescriptor yX6_layHand.desc).map (fun d => d.parameters.length) = some 1 := by decide +kernel
set_option maxHeartbeats 4000000 in
set_option maxRecDepth 100000 in
theorem w_X6_layHand {G : xG} {p : Program} {l : Launch} {e : Env} {s : State} {m : MethodId} {args : Array Value} {below : List Frame} {meth : Method} {c : Code} (C : xK G p s m args meth c cX6_layHand 6 vsX6_layHand RX6 none) (r : Int) (S' : xS) : ∀ k : Nat,
  (∀ (S : xS) (p0 : Nat) (i0 i1 : Int) (H : Heap) (locs : List Loc) (ls : Array Slot), g_X6_layHand k 0 S p0 i0 i1 = some (r, S') → xI G S s H locs → lv_has ls 6 [(0, .ref (xB G + p0)), (1, .long (lI i0))] → W p l e rm_X6_layHand s m args below meth c H locs 0 0 (MQ below (xQv G S') args s 0 0 (xA G)) (F0 m 0 ls [])) ∧
  (∀ (S : xS) (p0 : Nat) (i0 i1 : Int) (H : Heap) (locs : List Loc) (ls : Array Slot), g_X6_layHand k 1 S p0 i0 i1 = some (r, S') → xI G S s H locs → lv_has ls 6 [(0, .ref (xB G + p0)), (1, .long (lI i0)), (3, .int (iI i1))] → W p l e rm_X6_layHand s m args below meth c H locs 0 0 (MQ below (xQv G S') args s 0 0 (xA G)) (F0 m 2 ls [])) ∧
  (∀ (S : xS) (p0 : Nat) (i0 i1 : Int) (H : Heap) (locs : List Loc) (ls : Array Slot), g_X6_layHand k 2 S p0 i0 i1 = some (r, S') → xI G S s H locs → lv_has ls 6 [(0, .ref (xB G + p0)), (3, .long (lI i0)), (5, .int (iI i1))] → W p l e rm_X6_layHand s m args below meth c H locs 0 0 (MQ below (xQv G S') args s 0 0 (xA G)) (F0 m 33 ls [])) := by
  intro k
  induction k with
  | zero => exact ⟨fun _ _ _ _ _ _ _ hf => (by cases hf), fun _ _ _ _ _ _ _ hf => (by cases hf), fun _ _ _ _ _ _ _ hf => (by cases hf)⟩
  | succ fu ih =>
    obtain ⟨ih0, ih1, ih2⟩ := ih
    refine ⟨?_, ?_, ?_⟩
    · intro S p0 i0 i1 H locs ls hf I hl
      replace hf : b_X6_layHand_0 (g_X6_layHand fu) fu S p0 i0 i1 = some (r, S') := hf
      unfold b_X6_layHand_0 at hf
      refine kx_iconst 0 C dX6_layHand_0 ?_
      refine kx_istore_n 1 C (lv' := [(3, .int (iI 0)), (0, .ref (xB G + p0)), (1, .long (lI i0))]) dX6_layHand_1 hl (by decide) rfl rfl (fun ls hl => ?_)
      exact ih1 _ _ _ _ _ _ _ hf I (lv_sub hl [1, 2, 0] rfl)
    · intro S p0 i0 i1 H locs ls hf I hl
      replace hf : b_X6_layHand_1 (g_X6_layHand fu) fu S p0 i0 i1 = some (r, S') := hf
      unfold b_X6_layHand_1 at hf
      refine kx_iload_n 2 C dX6_layHand_2 (lv_at hl 2 rfl) ?_
      refine kx_aload_n 3 C dX6_layHand_3 (lv_at hl 0 rfl) ?_
      obtain ⟨h4, hf⟩ := ift hf
      obtain ⟨x3, S1, h2, hf⟩ := ob2 hf
      refine kx_callVi 4 C hl I (ci := 5) (As := []) (rest := [.int (iI i1)]) (c_X6_n G l fu _ _ _ _ h2) (cwV 0 C.ts gX6_layHand_X6_n rfl rfl rfl nyV_X6_n ⟨Nat.le_of_ble_eq_true rfl, Nat.le_of_ble_eq_true rfl⟩) rfl h4 rfl rfl (Nat.le_of_ble_eq_true rfl) dX6_layHand_4 ⟨Nat.le_of_ble_eq_true rfl, Nat.le_of_ble_eq_true rfl⟩ (fun H locs I => ?_)
      refine kx_icmp_ge 7 23 C dX6_layHand_7 (by decide) (fun c5 => ?_) (fun c5 => ?_)
      · have hf := ifp c5 hf
        refine kx_lload_n 23 C dX6_layHand_23 (lv_at hl 1 rfl) ?_
        refine kx_lstore_n 24 C (lv' := [(3, .long (lI i0)), (0, .ref (xB G + p0)), (1, .long (lI i0))]) dX6_layHand_24 hl (by decide) rfl rfl (fun ls hl => ?_)
        refine kx_aload_n 25 C dX6_layHand_25 (lv_at hl 1 rfl) ?_
        obtain ⟨h9, hf⟩ := ift hf
        obtain ⟨x8, S6, h7, hf⟩ := ob2 hf
        refine kx_callVi 26 C hl I (ci := 5) (As := []) (rest := []) (c_X6_n G l fu _ _ _ _ h7) (cwV 0 C.ts gX6_layHand_X6_n rfl rfl rfl nyV_X6_n ⟨Nat.le_of_ble_eq_true rfl, Nat.le_of_ble_eq_true rfl⟩) rfl h9 rfl rfl (Nat.le_of_ble_eq_true rfl) dX6_layHand_26 ⟨Nat.le_of_ble_eq_true rfl, Nat.le_of_ble_eq_true rfl⟩ (fun H locs I => ?_)
        refine kx_iconst 29 C dX6_layHand_29 ?_
        refine kx_isub 30 C dX6_layHand_30 ?_
        obtain ⟨x10, e11, hf⟩ := nmx_e hf
        refine kx_istore 31 C (lv' := [(5, .int (iI x10)), (3, .long (lI i0)), (0, .ref (xB G + p0)), (1, .long (lI i0))]) dX6_layHand_31 hl (by decide) e11 rfl (fun ls hl => ?_)
        exact ih2 _ _ _ _ _ _ _ hf I (lv_sub hl [2, 1, 0] rfl)
      · have hf := ifn c5 hf
        refine kx_aload_n 10 C dX6_layHand_10 (lv_at hl 0 rfl) ?_
        obtain ⟨q13, h12, hf⟩ := ob hf
        refine kx_getp 11 C I fl_X6_layHand_27 h12 dX6_layHand_11 ?_
        refine kx_iload_n 14 C dX6_layHand_14 (lv_at hl 2 rfl) ?_
        refine kx_iload_n 15 C dX6_layHand_15 (lv_at hl 2 rfl) ?_
        obtain ⟨S15, h14, hf⟩ := ob hf
        refine kx_iast 16 C I h14 dX6_layHand_16 (fun H locs I => ?_)
        obtain ⟨x16, e17, hf⟩ := nmx_e hf
        refine kx_iinc 17 C (lv' := [(3, .int (iI x16)), (0, .ref (xB G + p0)), (1, .long (lI i0))]) dX6_layHand_17 hl 2 rfl e17 (by decide) rfl (fun ls hl => ?_)
        refine kx_goto 20 2 C dX6_layHand_20 (by decide) ?_
        exact ih1 _ _ _ _ _ _ _ hf I (lv_sub hl [1, 2, 0] rfl)
    · intro S p0 i0 i1 H locs ls hf I hl
      replace hf : b_X6_layHand_2 (g_X6_layHand fu) fu S p0 i0 i1 = some (r, S') := hf
      unfold b_X6_layHand_2 at hf
      refine kx_iload 33 C dX6_layHand_33 (lv_at hl 2 rfl) ?_
      refine kx_if_le 35 76 C dX6_layHand_35 (by decide) (fun c18 => ?_) (fun c18 => ?_)
      · have hf := ifp c18 hf
        exact kx_vret 76 C I hf dX6_layHand_76
      · have hf := ifn c18 hf
        refine kx_lload_n 38 C dX6_layHand_38 (lv_at hl 1 rfl) ?_
        refine kx_ldc2 39 C (z := 1103515245) mw_X6_layHand_0 dX6_layHand_39 (by decide) ?_
        refine kx_lmul 42 C dX6_layHand_42 ?_
        refine kx_ldc2 43 C (z := 12345) mw_X6_layHand_1 dX6_layHand_43 (by decide) ?_
        refine kx_ladd 46 C dX6_layHand_46 ?_
        refine kx_ldc2 47 C (z := 2147483648) mw_X6_layHand_2 dX6_layHand_47 (by decide) ?_
        obtain ⟨h19, hf⟩ := ifz hf
        refine kx_lrem 50 C dX6_layHand_50 h19 ?_
        obtain ⟨x20, e21, hf⟩ := nmx_e hf
        refine kx_lstore_n 51 C (lv' := [(3, .long (lI x20)), (0, .ref (xB G + p0)), (5, .int (iI i1))]) dX6_layHand_51 hl (by decide) e21 rfl (fun ls hl => ?_)
        refine kx_aload_n 52 C dX6_layHand_52 (lv_at hl 1 rfl) ?_
        refine kx_iload 53 C dX6_layHand_53 (lv_at hl 2 rfl) ?_
        refine kx_lload_n 55 C dX6_layHand_55 (lv_at hl 0 rfl) ?_
        refine kx_ldc2 56 C (z := 65536) mw_X6_layHand_3 dX6_layHand_56 (by decide) ?_
        obtain ⟨h22, hf⟩ := ifz hf
        refine kx_ldiv 59 C dX6_layHand_59 h22 ?_
        refine kx_iload 60 C dX6_layHand_60 (lv_at hl 2 rfl) ?_
        refine kx_iconst 62 C dX6_layHand_62 ?_
        refine kx_iadd 63 C dX6_layHand_63 ?_
        refine kx_i2l 64 C dX6_layHand_64 ?_
        obtain ⟨h23, hf⟩ := ifz hf
        refine kx_lrem 65 C dX6_layHand_65 h23 ?_
        refine kx_l2i 66 C dX6_layHand_66 ?_
        obtain ⟨h27, hf⟩ := ift hf
        obtain ⟨z26, S24, h25, hf⟩ := ob2 hf
        refine kx_callVv 67 C hl I (ci := 5) (As := [.int (iI i1), .int (iI ((wL ((wL x20).tdiv (wL 65536))).tmod (wL (wI (i1 + 1)))))]) (rest := []) (c_X6_swapHand G l fu _ _ _ _ _ _ h25) (cwV 2 C.ts gX6_layHand_X6_swapHand rfl rfl rfl nyV_X6_swapHand ⟨Nat.le_of_ble_eq_true rfl, Nat.le_of_ble_eq_true rfl⟩) rfl h27 rfl rfl (Nat.le_of_ble_eq_true rfl) dX6_layHand_67 ⟨Nat.le_of_ble_eq_true rfl, Nat.le_of_ble_eq_true rfl⟩ (fun H locs I => ?_)
        obtain ⟨x28, e29, hf⟩ := nmx_e hf
        refine kx_iinc 70 C (lv' := [(5, .int (iI x28)), (3, .long (lI x20)), (0, .ref (xB G + p0))]) dX6_layHand_70 hl 2 rfl e29 (by decide) rfl (fun ls hl => ?_)
        refine kx_goto 73 33 C dX6_layHand_73 (by decide) ?_
        exact ih2 _ _ _ _ _ _ _ hf I (lv_sub hl [2, 1, 0] rfl)
set_option maxHeartbeats 4000000 in
set_option maxRecDepth 100000 in
theorem c_X6_layHand (G : xG) (l : Launch) (fu : Nat) (S S' : xS) (p0 : Nat) (i0 : Int) (r : Int) (hf : f_X6_layHand fu S p0 i0 = some (r, S')) : Met l yX6_layHand vsX6_layHand rm_X6_layHand (va_Pc [.ref (xB G + p0), .long (lI i0)] (xPre G S)) (xQv G S') 0 0 (xA G) := by
  refine kx_met (ret := none) RX6 [(0, .ref (xB G + p0)), (1, .long (lI i0))] (by decide) rfl rfl (Nat.le_of_ble_eq_true rfl) rfl (fun p e s m below meth c ls C hin I hl => ?_)
  exact (w_X6_layHand C r S' fu).1 S _ _ _ _ _ _ hf I hl
def rm_X6_isSeed : Room := { frames := 1, cells := 0, slots := 0, locals := 25 }
theorem mw_X6_isSeed_0 : Cond.constantLong RX6 258 (999999) ∈ vsX6_isSeed := inM mq_44_9
theorem nyS_X6_isSeed : yX6_isSeed.cls ≠ "java/lang/invoke/MethodHandle" ∧ yX6_isSeed.cls ≠ "java/lang/invoke/VarHandle" ∧ (parseMethodDescriptor yX6_isSeed.desc).map (fun d => d.parameters.length) = some 1 := by decide +kernel
set_option maxHeartbeats 4000000 in
set_option maxRecDepth 100000 in
theorem c_X6_isSeed (G : xG) (l : Launch) (fu : Nat) (S S' : xS) (i0 : Int) (r : Int) (hf : f_X6_isSeed fu S i0 = some (r, S')) : Met l yX6_isSeed vsX6_isSeed rm_X6_isSeed (va_Pc [.int (iI i0)] (xPre G S)) (xQi G r S') 0 0 (xA G) := by
  refine kx_met (ret := (some .boolean)) RX6 [(0, .int (iI i0))] (by decide) rfl rfl (Nat.le_of_ble_eq_true rfl) rfl (fun p e s m below meth c ls C hin I hl => ?_)
  unfold f_X6_isSeed at hf
  refine kx_iload_n 0 C dX6_isSeed_0 (lv_at hl 0 rfl) ?_
  refine kx_i2l 1 C dX6_isSeed_1 ?_
  refine kx_lconst 2 C (z := 0) dX6_isSeed_2 rfl ?_
  refine kx_ldc2 3 C (z := 999999) mw_X6_isSeed_0 dX6_isSeed_3 (by decide) ?_
  obtain ⟨x3, S1, h2, hf⟩ := ob2 hf
  refine kx_callSi 6 C hl I (As := [.long (lI (wI i0)), .long (lI 0), .long (lI 999999)]) (rest := []) (c_X6_in G l fu _ _ _ _ _ _ h2) (va_cwS 3 C.ts gX6_isSeed_X6_in rfl rfl rfl nyS_X6_in ⟨Nat.le_of_ble_eq_true rfl, Nat.le_of_ble_eq_true rfl⟩) rfl rfl (Nat.le_of_ble_eq_true rfl) dX6_isSeed_6 ⟨Nat.le_of_ble_eq_true rfl, Nat.le_of_ble_eq_true rfl⟩ (fun H locs I => ?_)
  obtain ⟨h4, hf⟩ := ift hf
  exact kx_zret 9 C I h4 hf dX6_isSeed_9
def rm_X6_laid : Room := { frames := 2, cells := 0, slots := 0, locals := 48 }
theorem nyS_X6_laid : yX6_laid.cls ≠ "java/lang/invoke/MethodHandle" ∧ yX6_laid.cls ≠ "java/lang/invoke/VarHandle" ∧ (parseMethodDescriptor yX6_laid.desc).map (fun d => d.parameters.length) = some 1 := by decide +kernel
theorem nyV_X6_laid : yX6_laid.cls = RX6 ∧ yX6_laid.cls ≠ "java/lang/invoke/MethodHandle" ∧ yX6_laid.cls ≠ "java/lang/invoke/VarHandle" ∧ (parseMethodDescriptor yX6_laid.desc).map (fun d => d.parameters.length) = some 1 := by decide +kernel
set_option maxHeartbeats 4000000 in
set_option maxRecDepth 100000 in
theorem c_X6_laid (G : xG) (l : Launch) (fu : Nat) (S S' : xS) (p0 : Nat) (i0 : Int) (r : Int) (hf : f_X6_laid fu S p0 i0 = some (r, S')) : Met l yX6_laid vsX6_laid rm_X6_laid (va_Pc [.ref (xB G + p0), .int (iI i0)] (xPre G S)) (xQi G r S') 0 0 (xA G) := by
  refine kx_met (ret := (some .int)) RX6 [(0, .ref (xB G + p0)), (1, .int (iI i0))] (by decide) rfl rfl (Nat.le_of_ble_eq_true rfl) rfl (fun p e s m below meth c ls C hin I hl => ?_)
  unfold f_X6_laid at hf
  refine kx_iload_n 0 C dX6_laid_0 (lv_at hl 1 rfl) ?_
  obtain ⟨x3, S1, h2, hf⟩ := ob2 hf
  refine kx_callSi 1 C hl I (As := [.int (iI i0)]) (rest := []) (c_X6_isSeed G l fu _ _ _ _ h2) (va_cwS 1 C.ts gX6_laid_X6_isSeed rfl rfl rfl nyS_X6_isSeed ⟨Nat.le_of_ble_eq_true rfl, Nat.le_of_ble_eq_true rfl⟩) rfl rfl (Nat.le_of_ble_eq_true rfl) dX6_laid_1 ⟨Nat.le_of_ble_eq_true rfl, Nat.le_of_ble_eq_true rfl⟩ (fun H locs I => ?_)
  refine kx_if_ne 4 14 C dX6_laid_4 (by decide) (fun c4 => ?_) (fun c4 => ?_)
  · have hf := ifn c4 hf
    refine kx_aload_n 14 C dX6_laid_14 (lv_at hl 0 rfl) ?_
    refine kx_iload_n 15 C dX6_laid_15 (lv_at hl 1 rfl) ?_
    refine kx_i2l 16 C dX6_laid_16 ?_
    obtain ⟨h8, hf⟩ := ift hf
    obtain ⟨z7, S5, h6, hf⟩ := ob2 hf
    refine kx_callVv 17 C hl I (ci := 5) (As := [.long (lI (wI i0))]) (rest := []) (c_X6_layHand G l fu _ _ _ _ _ h6) (cwV 1 C.ts gX6_laid_X6_layHand rfl rfl rfl nyV_X6_layHand ⟨Nat.le_of_ble_eq_true rfl, Nat.le_of_ble_eq_true rfl⟩) rfl h8 rfl rfl (Nat.le_of_ble_eq_true rfl) dX6_laid_17 ⟨Nat.le_of_ble_eq_true rfl, Nat.le_of_ble_eq_true rfl⟩ (fun H locs I => ?_)
    refine kx_aload_n 20 C dX6_laid_20 (lv_at hl 0 rfl) ?_
    obtain ⟨h12, hf⟩ := ift hf
    obtain ⟨x11, S9, h10, hf⟩ := ob2 hf
    refine kx_callVi 21 C hl I (ci := 5) (As := []) (rest := []) (c_X6_rankOf G l fu _ _ _ _ h10) (cwV 0 C.ts gX6_laid_X6_rankOf rfl rfl rfl nyV_X6_rankOf ⟨Nat.le_of_ble_eq_true rfl, Nat.le_of_ble_eq_true rfl⟩) rfl h12 rfl rfl (Nat.le_of_ble_eq_true rfl) dX6_laid_21 ⟨Nat.le_of_ble_eq_true rfl, Nat.le_of_ble_eq_true rfl⟩ (fun H locs I => ?_)
    exact kx_iret 24 C I hf dX6_laid_24
  · have hf := ifp c4 hf
    refine kx_aload_n 7 C dX6_laid_7 (lv_at hl 0 rfl) ?_
    refine kx_bipush 8 C dX6_laid_8 (by decide) ?_
    obtain ⟨h16, hf⟩ := ift hf
    obtain ⟨x15, S13, h14, hf⟩ := ob2 hf
    refine kx_callVi 10 C hl I (ci := 5) (As := [.int (iI ((-2)))]) (rest := []) (c_X6_bad G l fu _ _ _ _ _ h14) (cwV 1 C.ts gX6_laid_X6_bad rfl rfl rfl nyV_X6_bad ⟨Nat.le_of_ble_eq_true rfl, Nat.le_of_ble_eq_true rfl⟩) rfl h16 rfl rfl (Nat.le_of_ble_eq_true rfl) dX6_laid_10 ⟨Nat.le_of_ble_eq_true rfl, Nat.le_of_ble_eq_true rfl⟩ (fun H locs I => ?_)
    exact kx_iret 13 C I hf dX6_laid_13
def rm_X6_lucky : Room := { frames := 5, cells := 0, slots := 0, locals := 113 }
theorem mw_X6_lucky_0 : Cond.constantLong RX6 267 (60) ∈ vsX6_lucky := inM mq_45_2
theorem nyS_X6_lucky : yX6_lucky.cls ≠ "java/lang/invoke/MethodHandle" ∧ yX6_lucky.cls ≠ "java/lang/invoke/VarHandle" ∧ (parseMethodDescriptor yX6_lucky.desc).map (fun d => d.parameters.length) = some 2 := by decide +kernel
theorem nyV_X6_lucky : yX6_lucky.cls = RX6 ∧ yX6_lucky.cls ≠ "java/lang/invoke/MethodHandle" ∧ yX6_lucky.cls ≠ "java/lang/invoke/VarHandle" ∧ (parseMethodDescriptor yX6_lucky.desc).map (fun d => d.parameters.length) = some 2 := by decide +kernel
set_option maxHeartbeats 4000000 in
set_option maxRecDepth 100000 in
theorem w_X6_lucky {G : xG} {p : Program} {l : Launch} {e : Env} {s : State} {m : MethodId} {args : Array Value} {below : List Frame} {meth : Method} {c : Code} (C : xK G p s m args meth c cX6_lucky 5 vsX6_lucky RX6 (some .int)) (r : Int) (S' : xS) : ∀ k : Nat,
  (∀ (S : xS) (p0 : Nat) (i0 i1 i2 i3 i4 : Int) (H : Heap) (locs : List Loc) (ls : Array Slot), g_X6_lucky k 0 S p0 i0 i1 i2 i3 i4 = some (r, S') → xI G S s H locs → lv_has ls 5 [(0, .ref (xB G + p0)), (1, .int (iI i0)), (2, .int (iI i1))] → W p l e rm_X6_lucky s m args below meth c H locs 0 0 (MQ below (xQi G r S') args s 0 0 (xA G)) (F0 m 0 ls [])) ∧
  (∀ (S : xS) (p0 : Nat) (i0 i1 i2 i3 i4 : Int) (H : Heap) (locs : List Loc) (ls : Array Slot), g_X6_lucky k 1 S p0 i0 i1 i2 i3 i4 = some (r, S') → xI G S s H locs → lv_has ls 5 [(0, .ref (xB G + p0))] → W p l e rm_X6_lucky s m args below meth c H locs 0 0 (MQ below (xQi G r S') args s 0 0 (xA G)) (F0 m 19 ls [])) ∧
  (∀ (S : xS) (p0 : Nat) (i0 i1 i2 i3 i4 : Int) (H : Heap) (locs : List Loc) (ls : Array Slot), g_X6_lucky k 2 S p0 i0 i1 i2 i3 i4 = some (r, S') → xI G S s H locs → lv_has ls 5 [(0, .ref (xB G + p0)), (1, .int (iI i0)), (2, .int (iI i1)), (3, .int (iI i2)), (4, .int (iI i3))] → W p l e rm_X6_lucky s m args below meth c H locs 0 0 (MQ below (xQi G r S') args s 0 0 (xA G)) (F0 m 31 ls [])) ∧
  (∀ (S : xS) (p0 : Nat) (i0 i1 i2 i3 i4 : Int) (H : Heap) (locs : List Loc) (ls : Array Slot), g_X6_lucky k 3 S p0 i0 i1 i2 i3 i4 = some (r, S') → xI G S s H locs → lv_has ls 5 [(0, .ref (xB G + p0)), (1, .int (iI i0)), (2, .int (iI i1)), (4, .int (iI i2))] → W p l e rm_X6_lucky s m args below meth c H locs 0 0 (MQ below (xQi G r S') args s 0 0 (xA G)) (F0 m 64 ls [.int (iI i4), .int (iI i3)])) := by
  intro k
  induction k with
  | zero => exact ⟨fun _ _ _ _ _ _ _ _ _ _ hf => (by cases hf), fun _ _ _ _ _ _ _ _ _ _ hf => (by cases hf), fun _ _ _ _ _ _ _ _ _ _ hf => (by cases hf), fun _ _ _ _ _ _ _ _ _ _ hf => (by cases hf)⟩
  | succ fu ih =>
    obtain ⟨ih0, ih1, ih2, ih3⟩ := ih
    refine ⟨?_, ?_, ?_, ?_⟩
    · intro S p0 i0 i1 i2 i3 i4 H locs ls hf I hl
      replace hf : b_X6_lucky_0 (g_X6_lucky fu) fu S p0 i0 i1 i2 i3 i4 = some (r, S') := hf
      unfold b_X6_lucky_0 at hf
      refine kx_iload_n 0 C dX6_lucky_0 (lv_at hl 1 rfl) ?_
      obtain ⟨x3, S1, h2, hf⟩ := ob2 hf
      refine kx_callSi 1 C hl I (As := [.int (iI i0)]) (rest := []) (c_X6_isSeed G l fu _ _ _ _ h2) (va_cwS 1 C.ts gX6_lucky_X6_isSeed rfl rfl rfl nyS_X6_isSeed ⟨Nat.le_of_ble_eq_true rfl, Nat.le_of_ble_eq_true rfl⟩) rfl rfl (Nat.le_of_ble_eq_true rfl) dX6_lucky_1 ⟨Nat.le_of_ble_eq_true rfl, Nat.le_of_ble_eq_true rfl⟩ (fun H locs I => ?_)
      refine kx_if_eq 4 19 C dX6_lucky_4 (by decide) (fun c4 => ?_) (fun c4 => ?_)
      · have hf := ifp c4 hf
        exact ih1 _ _ _ _ _ _ _ _ _ _ hf I (lv_sub hl [0] rfl)
      · have hf := ifn c4 hf
        refine kx_iload_n 7 C dX6_lucky_7 (lv_at hl 2 rfl) ?_
        refine kx_i2l 8 C dX6_lucky_8 ?_
        refine kx_lconst 9 C (z := 0) dX6_lucky_9 rfl ?_
        refine kx_ldc2 10 C (z := 60) mw_X6_lucky_0 dX6_lucky_10 (by decide) ?_
        obtain ⟨x7, S5, h6, hf⟩ := ob2 hf
        refine kx_callSi 13 C hl I (As := [.long (lI (wI i1)), .long (lI 0), .long (lI 60)]) (rest := []) (c_X6_in G l fu _ _ _ _ _ _ h6) (va_cwS 3 C.ts gX6_lucky_X6_in rfl rfl rfl nyS_X6_in ⟨Nat.le_of_ble_eq_true rfl, Nat.le_of_ble_eq_true rfl⟩) rfl rfl (Nat.le_of_ble_eq_true rfl) dX6_lucky_13 ⟨Nat.le_of_ble_eq_true rfl, Nat.le_of_ble_eq_true rfl⟩ (fun H locs I => ?_)
        refine kx_if_ne 16 26 C dX6_lucky_16 (by decide) (fun c8 => ?_) (fun c8 => ?_)
        · have hf := ifn c8 hf
          refine kx_iconst 26 C dX6_lucky_26 ?_
          refine kx_istore_n 27 C (lv' := [(3, .int (iI 0)), (0, .ref (xB G + p0)), (1, .int (iI i0)), (2, .int (iI i1))]) dX6_lucky_27 hl (by decide) rfl rfl (fun ls hl => ?_)
          refine kx_iconst 28 C dX6_lucky_28 ?_
          refine kx_istore 29 C (lv' := [(4, .int (iI 0)), (3, .int (iI 0)), (0, .ref (xB G + p0)), (1, .int (iI i0)), (2, .int (iI i1))]) dX6_lucky_29 hl (by decide) rfl rfl (fun ls hl => ?_)
          exact ih2 _ _ _ _ _ _ _ _ _ _ hf I (lv_sub hl [2, 3, 4, 1, 0] rfl)
        · have hf := ifp c8 hf
          exact ih1 _ _ _ _ _ _ _ _ _ _ hf I (lv_sub hl [0] rfl)
    · intro S p0 i0 i1 i2 i3 i4 H locs ls hf I hl
      replace hf : b_X6_lucky_1 (g_X6_lucky fu) fu S p0 i0 i1 i2 i3 i4 = some (r, S') := hf
      unfold b_X6_lucky_1 at hf
      refine kx_aload_n 19 C dX6_lucky_19 (lv_at hl 0 rfl) ?_
      refine kx_bipush 20 C dX6_lucky_20 (by decide) ?_
      obtain ⟨h12, hf⟩ := ift hf
      obtain ⟨x11, S9, h10, hf⟩ := ob2 hf
      refine kx_callVi 22 C hl I (ci := 5) (As := [.int (iI ((-2)))]) (rest := []) (c_X6_bad G l fu _ _ _ _ _ h10) (cwV 1 C.ts gX6_lucky_X6_bad rfl rfl rfl nyV_X6_bad ⟨Nat.le_of_ble_eq_true rfl, Nat.le_of_ble_eq_true rfl⟩) rfl h12 rfl rfl (Nat.le_of_ble_eq_true rfl) dX6_lucky_22 ⟨Nat.le_of_ble_eq_true rfl, Nat.le_of_ble_eq_true rfl⟩ (fun H locs I => ?_)
      exact kx_iret 25 C I hf dX6_lucky_25
    · intro S p0 i0 i1 i2 i3 i4 H locs ls hf I hl
      replace hf : b_X6_lucky_2 (g_X6_lucky fu) fu S p0 i0 i1 i2 i3 i4 = some (r, S') := hf
      unfold b_X6_lucky_2 at hf
      refine kx_iload 31 C dX6_lucky_31 (lv_at hl 4 rfl) ?_
      refine kx_iload_n 33 C dX6_lucky_33 (lv_at hl 2 rfl) ?_
      refine kx_icmp_ge 34 72 C dX6_lucky_34 (by decide) (fun c13 => ?_) (fun c13 => ?_)
      · have hf := ifp c13 hf
        refine kx_iload_n 72 C dX6_lucky_72 (lv_at hl 3 rfl) ?_
        exact kx_iret 73 C I hf dX6_lucky_73
      · have hf := ifn c13 hf
        refine kx_aload_n 37 C dX6_lucky_37 (lv_at hl 0 rfl) ?_
        refine kx_iload_n 38 C dX6_lucky_38 (lv_at hl 1 rfl) ?_
        refine kx_i2l 39 C dX6_lucky_39 ?_
        refine kx_iload 40 C dX6_lucky_40 (lv_at hl 4 rfl) ?_
        refine kx_i2l 42 C dX6_lucky_42 ?_
        refine kx_ladd 43 C dX6_lucky_43 ?_
        obtain ⟨h17, hf⟩ := ift hf
        obtain ⟨z16, S14, h15, hf⟩ := ob2 hf
        refine kx_callVv 44 C hl I (ci := 5) (As := [.long (lI ((wI i0) + (wI i3)))]) (rest := []) (c_X6_layHand G l fu _ _ _ _ _ h15) (cwV 1 C.ts gX6_lucky_X6_layHand rfl rfl rfl nyV_X6_layHand ⟨Nat.le_of_ble_eq_true rfl, Nat.le_of_ble_eq_true rfl⟩) rfl h17 rfl rfl (Nat.le_of_ble_eq_true rfl) dX6_lucky_44 ⟨Nat.le_of_ble_eq_true rfl, Nat.le_of_ble_eq_true rfl⟩ (fun H locs I => ?_)
        refine kx_iload_n 47 C dX6_lucky_47 (lv_at hl 3 rfl) ?_
        refine kx_aload_n 48 C dX6_lucky_48 (lv_at hl 0 rfl) ?_
        obtain ⟨h21, hf⟩ := ift hf
        obtain ⟨x20, S18, h19, hf⟩ := ob2 hf
        refine kx_callVi 49 C hl I (ci := 5) (As := []) (rest := [.int (iI i2)]) (c_X6_findsHand G l fu _ _ _ _ h19) (cwV 0 C.ts gX6_lucky_X6_findsHand rfl rfl rfl nyV_X6_findsHand ⟨Nat.le_of_ble_eq_true rfl, Nat.le_of_ble_eq_true rfl⟩) rfl h21 rfl rfl (Nat.le_of_ble_eq_true rfl) dX6_lucky_49 ⟨Nat.le_of_ble_eq_true rfl, Nat.le_of_ble_eq_true rfl⟩ (fun H locs I => ?_)
        refine kx_aload_n 52 C dX6_lucky_52 (lv_at hl 0 rfl) ?_
        obtain ⟨h25, hf⟩ := ift hf
        obtain ⟨x24, S22, h23, hf⟩ := ob2 hf
        refine kx_callVi 53 C hl I (ci := 5) (As := []) (rest := [.int (iI x20), .int (iI i2)]) (c_X6_all G l fu _ _ _ _ h23) (cwV 0 C.ts gX6_lucky_X6_all rfl rfl rfl nyV_X6_all ⟨Nat.le_of_ble_eq_true rfl, Nat.le_of_ble_eq_true rfl⟩) rfl h25 rfl rfl (Nat.le_of_ble_eq_true rfl) dX6_lucky_53 ⟨Nat.le_of_ble_eq_true rfl, Nat.le_of_ble_eq_true rfl⟩ (fun H locs I => ?_)
        refine kx_icmp_ne 56 63 C dX6_lucky_56 (by decide) (fun c26 => ?_) (fun c26 => ?_)
        · have hf := ifn c26 hf
          refine kx_iconst 63 C dX6_lucky_63 ?_
          exact ih3 _ _ _ _ _ _ _ _ _ _ hf I (lv_sub hl [0, 1, 2, 4] rfl)
        · have hf := ifp c26 hf
          refine kx_iconst 59 C dX6_lucky_59 ?_
          refine kx_goto 60 64 C dX6_lucky_60 (by decide) ?_
          exact ih3 _ _ _ _ _ _ _ _ _ _ hf I (lv_sub hl [0, 1, 2, 4] rfl)
    · intro S p0 i0 i1 i2 i3 i4 H locs ls hf I hl
      replace hf : b_X6_lucky_3 (g_X6_lucky fu) fu S p0 i0 i1 i2 i3 i4 = some (r, S') := hf
      unfold b_X6_lucky_3 at hf
      refine kx_iadd 64 C dX6_lucky_64 ?_
      obtain ⟨x27, e28, hf⟩ := nmx_e hf
      refine kx_istore_n 65 C (lv' := [(3, .int (iI x27)), (0, .ref (xB G + p0)), (1, .int (iI i0)), (2, .int (iI i1)), (4, .int (iI i2))]) dX6_lucky_65 hl (by decide) e28 rfl (fun ls hl => ?_)
      obtain ⟨x29, e30, hf⟩ := nmx_e hf
      refine kx_iinc 66 C (lv' := [(4, .int (iI x29)), (3, .int (iI x27)), (0, .ref (xB G + p0)), (1, .int (iI i0)), (2, .int (iI i1))]) dX6_lucky_66 hl 4 rfl e30 (by decide) rfl (fun ls hl => ?_)
      refine kx_goto 69 31 C dX6_lucky_69 (by decide) ?_
      exact ih2 _ _ _ _ _ _ _ _ _ _ hf I (lv_sub hl [2, 3, 4, 1, 0] rfl)
set_option maxHeartbeats 4000000 in
set_option maxRecDepth 100000 in
theorem c_X6_lucky (G : xG) (l : Launch) (fu : Nat) (S S' : xS) (p0 : Nat) (i0 : Int) (i1 : Int) (r : Int) (hf : f_X6_lucky fu S p0 i0 i1 = some (r, S')) : Met l yX6_lucky vsX6_lucky rm_X6_lucky (va_Pc [.ref (xB G + p0), .int (iI i0), .int (iI i1)] (xPre G S)) (xQi G r S') 0 0 (xA G) := by
  refine kx_met (ret := (some .int)) RX6 [(0, .ref (xB G + p0)), (1, .int (iI i0)), (2, .int (iI i1))] (by decide) rfl rfl (Nat.le_of_ble_eq_true rfl) rfl (fun p e s m below meth c ls C hin I hl => ?_)
  exact (w_X6_lucky C r S' fu).1 S _ _ _ _ _ _ _ _ _ hf I hl
def rm_X6_type : Room := { frames := 1, cells := 0, slots := 0, locals := 25 }
theorem hin_X6_type_RX6 : ∀ w ∈ wsX60, w ∈ vsX6_type := fun w h => inM (inlX6 w h)
theorem fl_X6_type_60 : xFl vsX6_type RX6 60 5 22 := ⟨RX6, TX6, 30, rfl, by decide, hin_X6_type_RX6, inM mq_5_9, rfl⟩
theorem fl_X6_type_271 : xFl vsX6_type RX6 271 5 23 := ⟨RX6, TX6, 30, rfl, by decide, hin_X6_type_RX6, inM mq_15_11, rfl⟩
theorem mw_X6_type_0 : Cond.constantLong RX6 269 (127) ∈ vsX6_type := inM mq_15_10
theorem nyS_X6_type : yX6_type.cls ≠ "java/lang/invoke/MethodHandle" ∧ yX6_type.cls ≠ "java/lang/invoke/VarHandle" ∧ (parseMethodDescriptor yX6_type.desc).map (fun d => d.parameters.length) = some 1 := by decide +kernel
theorem nyV_X6_type : yX6_type.cls = RX6 ∧ yX6_type.cls ≠ "java/lang/invoke/MethodHandle" ∧ yX6_type.cls ≠ "java/lang/invoke/VarHandle" ∧ (parseMethodDescriptor yX6_type.desc).map (fun d => d.parameters.length) = some 1 := by decide +kernel
set_option maxHeartbeats 4000000 in
set_option maxRecDepth 100000 in
theorem c_X6_type (G : xG) (l : Launch) (fu : Nat) (S S' : xS) (p0 : Nat) (i0 : Int) (r : Int) (hf : f_X6_type fu S p0 i0 = some (r, S')) : Met l yX6_type vsX6_type rm_X6_type (va_Pc [.ref (xB G + p0), .int (iI i0)] (xPre G S)) (xQi G r S') 0 0 (xA G) := by
  refine kx_met (ret := (some .int)) RX6 [(0, .ref (xB G + p0)), (1, .int (iI i0))] (by decide) rfl rfl (Nat.le_of_ble_eq_true rfl) rfl (fun p e s m below meth c ls C hin I hl => ?_)
  unfold f_X6_type at hf
  refine kx_iload_n 0 C dX6_type_0 (lv_at hl 1 rfl) ?_
  refine kx_i2l 1 C dX6_type_1 ?_
  refine kx_lconst 2 C (z := 0) dX6_type_2 rfl ?_
  refine kx_ldc2 3 C (z := 127) mw_X6_type_0 dX6_type_3 (by decide) ?_
  obtain ⟨x3, S1, h2, hf⟩ := ob2 hf
  refine kx_callSi 6 C hl I (As := [.long (lI (wI i0)), .long (lI 0), .long (lI 127)]) (rest := []) (c_X6_in G l fu _ _ _ _ _ _ h2) (va_cwS 3 C.ts gX6_type_X6_in rfl rfl rfl nyS_X6_in ⟨Nat.le_of_ble_eq_true rfl, Nat.le_of_ble_eq_true rfl⟩) rfl rfl (Nat.le_of_ble_eq_true rfl) dX6_type_6 ⟨Nat.le_of_ble_eq_true rfl, Nat.le_of_ble_eq_true rfl⟩ (fun H locs I => ?_)
  refine kx_if_ne 9 19 C dX6_type_9 (by decide) (fun c4 => ?_) (fun c4 => ?_)
  · have hf := ifn c4 hf
    refine kx_aload_n 19 C dX6_type_19 (lv_at hl 0 rfl) ?_
    obtain ⟨x6, h5, hf⟩ := ob hf
    refine kx_geti 20 C I fl_X6_type_271 h5 dX6_type_20 ?_
    refine kx_sipush 23 C dX6_type_23 (by decide) ?_
    refine kx_icmp_ne 26 34 C dX6_type_26 (by decide) (fun c7 => ?_) (fun c7 => ?_)
    · have hf := ifn c7 hf
      refine kx_aload_n 34 C dX6_type_34 (lv_at hl 0 rfl) ?_
      obtain ⟨q9, h8, hf⟩ := ob hf
      refine kx_getp 35 C I fl_X6_type_60 h8 dX6_type_35 ?_
      refine kx_aload_n 38 C dX6_type_38 (lv_at hl 0 rfl) ?_
      obtain ⟨x11, h10, hf⟩ := ob hf
      refine kx_geti 39 C I fl_X6_type_271 h10 dX6_type_39 ?_
      refine kx_iload_n 42 C dX6_type_42 (lv_at hl 1 rfl) ?_
      obtain ⟨S13, h12, hf⟩ := ob hf
      refine kx_iast 43 C I h12 dX6_type_43 (fun H locs I => ?_)
      refine kx_aload_n 44 C dX6_type_44 (lv_at hl 0 rfl) ?_
      refine kx_dup 45 C dX6_type_45 rfl ?_
      obtain ⟨x15, h14, hf⟩ := ob hf
      refine kx_geti 46 C I fl_X6_type_271 h14 dX6_type_46 ?_
      refine kx_iconst 49 C dX6_type_49 ?_
      refine kx_iadd 50 C dX6_type_50 ?_
      obtain ⟨S17, h16, hf⟩ := ob hf
      refine kx_puti 51 C I fl_X6_type_271 fw_RX6_23 h16 dX6_type_51 (fun H locs I => ?_)
      refine kx_aload_n 54 C dX6_type_54 (lv_at hl 0 rfl) ?_
      obtain ⟨x19, h18, hf⟩ := ob hf
      refine kx_geti 55 C I fl_X6_type_271 h18 dX6_type_55 ?_
      exact kx_iret 58 C I hf dX6_type_58
    · have hf := ifp c7 hf
      refine kx_aload_n 29 C dX6_type_29 (lv_at hl 0 rfl) ?_
      obtain ⟨h23, hf⟩ := ift hf
      obtain ⟨x22, S20, h21, hf⟩ := ob2 hf
      refine kx_callVi 30 C hl I (ci := 5) (As := []) (rest := []) (c_X6_full G l fu _ _ _ _ h21) (cwV 0 C.ts gX6_type_X6_full rfl rfl rfl nyV_X6_full ⟨Nat.le_of_ble_eq_true rfl, Nat.le_of_ble_eq_true rfl⟩) rfl h23 rfl rfl (Nat.le_of_ble_eq_true rfl) dX6_type_30 ⟨Nat.le_of_ble_eq_true rfl, Nat.le_of_ble_eq_true rfl⟩ (fun H locs I => ?_)
      exact kx_iret 33 C I hf dX6_type_33
  · have hf := ifp c4 hf
    refine kx_aload_n 12 C dX6_type_12 (lv_at hl 0 rfl) ?_
    refine kx_bipush 13 C dX6_type_13 (by decide) ?_
    obtain ⟨h27, hf⟩ := ift hf
    obtain ⟨x26, S24, h25, hf⟩ := ob2 hf
    refine kx_callVi 15 C hl I (ci := 5) (As := [.int (iI ((-2)))]) (rest := []) (c_X6_bad G l fu _ _ _ _ _ h25) (cwV 1 C.ts gX6_type_X6_bad rfl rfl rfl nyV_X6_bad ⟨Nat.le_of_ble_eq_true rfl, Nat.le_of_ble_eq_true rfl⟩) rfl h27 rfl rfl (Nat.le_of_ble_eq_true rfl) dX6_type_15 ⟨Nat.le_of_ble_eq_true rfl, Nat.le_of_ble_eq_true rfl⟩ (fun H locs I => ?_)
    exact kx_iret 18 C I hf dX6_type_18
def rm_X6_clear : Room := { frames := 0, cells := 0, slots := 0, locals := 0 }
theorem hin_X6_clear_RX6 : ∀ w ∈ wsX60, w ∈ vsX6_clear := fun w h => inM (inlX6 w h)
theorem fl_X6_clear_271 : xFl vsX6_clear RX6 271 5 23 := ⟨RX6, TX6, 30, rfl, by decide, hin_X6_clear_RX6, inM mq_15_11, rfl⟩
theorem nyS_X6_clear : yX6_clear.cls ≠ "java/lang/invoke/MethodHandle" ∧ yX6_clear.cls ≠ "java/lang/invoke/VarHandle" ∧ (parseMethodDescriptor yX6_clear.desc).map (fun d => d.parameters.length) = some 0 := by decide +kernel
theorem nyV_X6_clear : yX6_clear.cls = RX6 ∧ yX6_clear.cls ≠ "java/lang/invoke/MethodHandle" ∧ yX6_clear.cls ≠ "java/lang/invoke/VarHandle" ∧ (parseMethodDescriptor yX6_clear.desc).map (fun d => d.parameters.length) = some 0 := by decide +kernel
set_option maxHeartbeats 4000000 in
set_option maxRecDepth 100000 in
theorem c_X6_clear (G : xG) (l : Launch) (fu : Nat) (S S' : xS) (p0 : Nat) (r : Int) (hf : f_X6_clear fu S p0 = some (r, S')) : Met l yX6_clear vsX6_clear rm_X6_clear (va_Pc [.ref (xB G + p0)] (xPre G S)) (xQi G r S') 0 0 (xA G) := by
  refine kx_met (ret := (some .int)) RX6 [(0, .ref (xB G + p0))] (by decide) rfl rfl (Nat.le_of_ble_eq_true rfl) rfl (fun p e s m below meth c ls C hin I hl => ?_)
  unfold f_X6_clear at hf
  refine kx_aload_n 0 C dX6_clear_0 (lv_at hl 0 rfl) ?_
  obtain ⟨x2, h1, hf⟩ := ob hf
  refine kx_geti 1 C I fl_X6_clear_271 h1 dX6_clear_1 ?_
  refine kx_istore_n 4 C (lv' := [(1, .int (iI x2)), (0, .ref (xB G + p0))]) dX6_clear_4 hl (by decide) rfl rfl (fun ls hl => ?_)
  refine kx_aload_n 5 C dX6_clear_5 (lv_at hl 1 rfl) ?_
  refine kx_iconst 6 C dX6_clear_6 ?_
  obtain ⟨S4, h3, hf⟩ := ob hf
  refine kx_puti 7 C I fl_X6_clear_271 fw_RX6_23 h3 dX6_clear_7 (fun H locs I => ?_)
  refine kx_iload_n 10 C dX6_clear_10 (lv_at hl 0 rfl) ?_
  exact kx_iret 11 C I hf dX6_clear_11
def rm_X6_isSmall : Room := { frames := 1, cells := 0, slots := 0, locals := 25 }
theorem mw_X6_isSmall_0 : Cond.constantLong RX6 274 (97) ∈ vsX6_isSmall := inM mq_21_17
theorem mw_X6_isSmall_1 : Cond.constantLong RX6 276 (122) ∈ vsX6_isSmall := inM mq_21_18
theorem nyS_X6_isSmall : yX6_isSmall.cls ≠ "java/lang/invoke/MethodHandle" ∧ yX6_isSmall.cls ≠ "java/lang/invoke/VarHandle" ∧ (parseMethodDescriptor yX6_isSmall.desc).map (fun d => d.parameters.length) = some 1 := by decide +kernel
set_option maxHeartbeats 4000000 in
set_option maxRecDepth 100000 in
theorem c_X6_isSmall (G : xG) (l : Launch) (fu : Nat) (S S' : xS) (i0 : Int) (r : Int) (hf : f_X6_isSmall fu S i0 = some (r, S')) : Met l yX6_isSmall vsX6_isSmall rm_X6_isSmall (va_Pc [.int (iI i0)] (xPre G S)) (xQi G r S') 0 0 (xA G) := by
  refine kx_met (ret := (some .boolean)) RX6 [(0, .int (iI i0))] (by decide) rfl rfl (Nat.le_of_ble_eq_true rfl) rfl (fun p e s m below meth c ls C hin I hl => ?_)
  unfold f_X6_isSmall at hf
  refine kx_iload_n 0 C dX6_isSmall_0 (lv_at hl 0 rfl) ?_
  refine kx_i2l 1 C dX6_isSmall_1 ?_
  refine kx_ldc2 2 C (z := 97) mw_X6_isSmall_0 dX6_isSmall_2 (by decide) ?_
  refine kx_ldc2 5 C (z := 122) mw_X6_isSmall_1 dX6_isSmall_5 (by decide) ?_
  obtain ⟨x3, S1, h2, hf⟩ := ob2 hf
  refine kx_callSi 8 C hl I (As := [.long (lI (wI i0)), .long (lI 97), .long (lI 122)]) (rest := []) (c_X6_in G l fu _ _ _ _ _ _ h2) (va_cwS 3 C.ts gX6_isSmall_X6_in rfl rfl rfl nyS_X6_in ⟨Nat.le_of_ble_eq_true rfl, Nat.le_of_ble_eq_true rfl⟩) rfl rfl (Nat.le_of_ble_eq_true rfl) dX6_isSmall_8 ⟨Nat.le_of_ble_eq_true rfl, Nat.le_of_ble_eq_true rfl⟩ (fun H locs I => ?_)
  obtain ⟨h4, hf⟩ := ift hf
  exact kx_zret 11 C I h4 hf dX6_isSmall_11
def rm_X6_isFigure : Room := { frames := 1, cells := 0, slots := 0, locals := 25 }
theorem mw_X6_isFigure_0 : Cond.constantLong RX6 278 (48) ∈ vsX6_isFigure := inM mq_21_22
theorem mw_X6_isFigure_1 : Cond.constantLong RX6 280 (57) ∈ vsX6_isFigure := inM mq_21_23
theorem nyS_X6_isFigure : yX6_isFigure.cls ≠ "java/lang/invoke/MethodHandle" ∧ yX6_isFigure.cls ≠ "java/lang/invoke/VarHandle" ∧ (parseMethodDescriptor yX6_isFigure.desc).map (fun d => d.parameters.length) = some 1 := by decide +kernel
set_option maxHeartbeats 4000000 in
set_option maxRecDepth 100000 in
theorem c_X6_isFigure (G : xG) (l : Launch) (fu : Nat) (S S' : xS) (i0 : Int) (r : Int) (hf : f_X6_isFigure fu S i0 = some (r, S')) : Met l yX6_isFigure vsX6_isFigure rm_X6_isFigure (va_Pc [.int (iI i0)] (xPre G S)) (xQi G r S') 0 0 (xA G) := by
  refine kx_met (ret := (some .boolean)) RX6 [(0, .int (iI i0))] (by decide) rfl rfl (Nat.le_of_ble_eq_true rfl) rfl (fun p e s m below meth c ls C hin I hl => ?_)
  unfold f_X6_isFigure at hf
  refine kx_iload_n 0 C dX6_isFigure_0 (lv_at hl 0 rfl) ?_
  refine kx_i2l 1 C dX6_isFigure_1 ?_
  refine kx_ldc2 2 C (z := 48) mw_X6_isFigure_0 dX6_isFigure_2 (by decide) ?_
  refine kx_ldc2 5 C (z := 57) mw_X6_isFigure_1 dX6_isFigure_5 (by decide) ?_
  obtain ⟨x3, S1, h2, hf⟩ := ob2 hf
  refine kx_callSi 8 C hl I (As := [.long (lI (wI i0)), .long (lI 48), .long (lI 57)]) (rest := []) (c_X6_in G l fu _ _ _ _ _ _ h2) (va_cwS 3 C.ts gX6_isFigure_X6_in rfl rfl rfl nyS_X6_in ⟨Nat.le_of_ble_eq_true rfl, Nat.le_of_ble_eq_true rfl⟩) rfl rfl (Nat.le_of_ble_eq_true rfl) dX6_isFigure_8 ⟨Nat.le_of_ble_eq_true rfl, Nat.le_of_ble_eq_true rfl⟩ (fun H locs I => ?_)
  obtain ⟨h4, hf⟩ := ift hf
  exact kx_zret 11 C I h4 hf dX6_isFigure_11
