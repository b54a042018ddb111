def rm_X4_areExchangeable : Room := { frames := 0, cells := 0, slots := 0, locals := 0 }
theorem nyS_X4_areExchangeable : yX4_areExchangeable.cls ≠ "java/lang/invoke/MethodHandle" ∧ yX4_areExchangeable.cls ≠ "java/lang/invoke/VarHandle" ∧ (parseMethodDescriptor yX4_areExchangeable.desc).map (fun d => d.parameters.length) = some 3 := by decide +kernel
set_option maxHeartbeats 4000000 in
set_option maxRecDepth 100000 in
theorem w_X4_areExchangeable {G : xG} {p : Program} {l : Launch} {e : Env} {s : State} {m : MethodId} {args : Array Value} {below : List Frame} {meth : Method} {c : Code} (C : xK G p s m args meth c cX4_areExchangeable 4 vsX4_areExchangeable RX4 (some .boolean)) (r : Int) (S' : xS) : ∀ k : Nat,
  (∀ (S : xS) (p0 p1 : Nat) (i0 i1 : Int) (H : Heap) (locs : List Loc) (ls : Array Slot), g_X4_areExchangeable k 0 S p0 p1 i0 i1 = some (r, S') → xI G S s H locs → lv_has ls 4 [(0, .ref (xB G + p0)), (1, .ref (xB G + p1)), (2, .int (iI i0))] → W p l e rm_X4_areExchangeable s m args below meth c H locs 0 0 (MQ below (xQi G r S') args s 0 0 (xA G)) (F0 m 0 ls [])) ∧
  (∀ (S : xS) (p0 p1 : Nat) (i0 i1 : Int) (H : Heap) (locs : List Loc) (ls : Array Slot), g_X4_areExchangeable k 1 S p0 p1 i0 i1 = some (r, S') → xI G S s H locs → lv_has ls 4 [(0, .ref (xB G + p0)), (1, .ref (xB G + p1)), (2, .int (iI i0)), (3, .int (iI i1))] → W p l e rm_X4_areExchangeable s m args below meth c H locs 0 0 (MQ below (xQi G r S') args s 0 0 (xA G)) (F0 m 2 ls [])) := by
  intro k
  induction k with
  | zero => exact ⟨fun _ _ _ _ _ _ _ _ hf => (by cases hf), fun _ _ _ _ _ _ _ _ hf => (by cases hf)⟩
  | succ fu ih =>
    obtain ⟨ih0, ih1⟩ := ih
    refine ⟨?_, ?_⟩
    · intro S p0 p1 i0 i1 H locs ls hf I hl
      replace hf : b_X4_areExchangeable_0 (g_X4_areExchangeable fu) fu S p0 p1 i0 i1 = some (r, S') := hf
      unfold b_X4_areExchangeable_0 at hf
      refine kx_iconst 0 C dX4_areExchangeable_0 ?_
      refine kx_istore_n 1 C (lv' := [(3, .int (iI 0)), (0, .ref (xB G + p0)), (1, .ref (xB G + p1)), (2, .int (iI i0))]) dX4_areExchangeable_1 hl (by decide) rfl rfl (fun ls hl => ?_)
      exact ih1 _ _ _ _ _ _ _ _ hf I (lv_sub hl [1, 2, 3, 0] rfl)
    · intro S p0 p1 i0 i1 H locs ls hf I hl
      replace hf : b_X4_areExchangeable_1 (g_X4_areExchangeable fu) fu S p0 p1 i0 i1 = some (r, S') := hf
      unfold b_X4_areExchangeable_1 at hf
      refine kx_iload_n 2 C dX4_areExchangeable_2 (lv_at hl 3 rfl) ?_
      refine kx_iload_n 3 C dX4_areExchangeable_3 (lv_at hl 2 rfl) ?_
      refine kx_icmp_ge 4 28 C dX4_areExchangeable_4 (by decide) (fun c1 => ?_) (fun c1 => ?_)
      · have hf := ifp c1 hf
        refine kx_iconst 28 C dX4_areExchangeable_28 ?_
        exact kx_zret 29 C I (by decide) hf dX4_areExchangeable_29
      · have hf := ifn c1 hf
        refine kx_aload_n 7 C dX4_areExchangeable_7 (lv_at hl 0 rfl) ?_
        refine kx_aload_n 8 C dX4_areExchangeable_8 (lv_at hl 1 rfl) ?_
        refine kx_iload_n 9 C dX4_areExchangeable_9 (lv_at hl 3 rfl) ?_
        obtain ⟨x2, h3, hf⟩ := ob hf
        refine kx_iald 10 C I h3 dX4_areExchangeable_10 ?_
        obtain ⟨x4, h5, hf⟩ := ob hf
        refine kx_iald 11 C I h5 dX4_areExchangeable_11 ?_
        refine kx_aload_n 12 C dX4_areExchangeable_12 (lv_at hl 1 rfl) ?_
        refine kx_aload_n 13 C dX4_areExchangeable_13 (lv_at hl 0 rfl) ?_
        refine kx_iload_n 14 C dX4_areExchangeable_14 (lv_at hl 3 rfl) ?_
        obtain ⟨x6, h7, hf⟩ := ob hf
        refine kx_iald 15 C I h7 dX4_areExchangeable_15 ?_
        obtain ⟨x8, h9, hf⟩ := ob hf
        refine kx_iald 16 C I h9 dX4_areExchangeable_16 ?_
        refine kx_icmp_eq 17 22 C dX4_areExchangeable_17 (by decide) (fun c10 => ?_) (fun c10 => ?_)
        · have hf := ifp c10 hf
          obtain ⟨x11, e12, hf⟩ := nmx_e hf
          refine kx_iinc 22 C (lv' := [(3, .int (iI x11)), (0, .ref (xB G + p0)), (1, .ref (xB G + p1)), (2, .int (iI i0))]) dX4_areExchangeable_22 hl 3 rfl e12 (by decide) rfl (fun ls hl => ?_)
          refine kx_goto 25 2 C dX4_areExchangeable_25 (by decide) ?_
          exact ih1 _ _ _ _ _ _ _ _ hf I (lv_sub hl [1, 2, 3, 0] rfl)
        · have hf := ifn c10 hf
          refine kx_iconst 20 C dX4_areExchangeable_20 ?_
          exact kx_zret 21 C I (by decide) hf dX4_areExchangeable_21
set_option maxHeartbeats 4000000 in
set_option maxRecDepth 100000 in
theorem c_X4_areExchangeable (G : xG) (l : Launch) (fu : Nat) (S S' : xS) (p0 : Nat) (p1 : Nat) (i0 : Int) (r : Int) (hf : f_X4_areExchangeable fu S p0 p1 i0 = some (r, S')) : Met l yX4_areExchangeable vsX4_areExchangeable rm_X4_areExchangeable (va_Pc [.ref (xB G + p0), .ref (xB G + p1), .int (iI i0)] (xPre G S)) (xQi G r S') 0 0 (xA G) := by
  refine kx_met (ret := (some .boolean)) RX4 [(0, .ref (xB G + p0)), (1, .ref (xB G + p1)), (2, .int (iI i0))] (by decide) rfl rfl (Nat.le_of_ble_eq_true rfl) rfl (fun p e s m below meth c ls C hin I hl => ?_)
  exact (w_X4_areExchangeable C r S' fu).1 S _ _ _ _ _ _ _ hf I hl
def rm_X4_isRoot : Room := { frames := 1, cells := 0, slots := 0, locals := 24 }
theorem nyS_X4_isRoot : yX4_isRoot.cls ≠ "java/lang/invoke/MethodHandle" ∧ yX4_isRoot.cls ≠ "java/lang/invoke/VarHandle" ∧ (parseMethodDescriptor yX4_isRoot.desc).map (fun d => d.parameters.length) = some 4 := by decide +kernel
set_option maxHeartbeats 4000000 in
set_option maxRecDepth 100000 in
theorem w_X4_isRoot {G : xG} {p : Program} {l : Launch} {e : Env} {s : State} {m : MethodId} {args : Array Value} {below : List Frame} {meth : Method} {c : Code} (C : xK G p s m args meth c cX4_isRoot 5 vsX4_isRoot RX4 (some .boolean)) (r : Int) (S' : xS) : ∀ k : Nat,
  (∀ (S : xS) (p0 p1 : Nat) (i0 i1 i2 : Int) (H : Heap) (locs : List Loc) (ls : Array Slot), g_X4_isRoot k 0 S p0 p1 i0 i1 i2 = some (r, S') → xI G S s H locs → lv_has ls 5 [(0, .ref (xB G + p0)), (1, .int (iI i0)), (2, .ref (xB G + p1)), (3, .int (iI i1))] → W p l e rm_X4_isRoot s m args below meth c H locs 0 0 (MQ below (xQi G r S') args s 0 0 (xA G)) (F0 m 0 ls [])) ∧
  (∀ (S : xS) (p0 p1 : Nat) (i0 i1 i2 : Int) (H : Heap) (locs : List Loc) (ls : Array Slot), g_X4_isRoot k 1 S p0 p1 i0 i1 i2 = some (r, S') → xI G S s H locs → lv_has ls 5 [(0, .ref (xB G + p0)), (1, .int (iI i0)), (2, .ref (xB G + p1)), (3, .int (iI i1)), (4, .int (iI i2))] → W p l e rm_X4_isRoot s m args below meth c H locs 0 0 (MQ below (xQi G r S') args s 0 0 (xA G)) (F0 m 3 ls [])) := by
  intro k
  induction k with
  | zero => exact ⟨fun _ _ _ _ _ _ _ _ _ hf => (by cases hf), fun _ _ _ _ _ _ _ _ _ hf => (by cases hf)⟩
  | succ fu ih =>
    obtain ⟨ih0, ih1⟩ := ih
    refine ⟨?_, ?_⟩
    · intro S p0 p1 i0 i1 i2 H locs ls hf I hl
      replace hf : b_X4_isRoot_0 (g_X4_isRoot fu) fu S p0 p1 i0 i1 i2 = some (r, S') := hf
      unfold b_X4_isRoot_0 at hf
      refine kx_iconst 0 C dX4_isRoot_0 ?_
      refine kx_istore 1 C (lv' := [(4, .int (iI 0)), (0, .ref (xB G + p0)), (1, .int (iI i0)), (2, .ref (xB G + p1)), (3, .int (iI i1))]) dX4_isRoot_1 hl (by decide) rfl rfl (fun ls hl => ?_)
      exact ih1 _ _ _ _ _ _ _ _ _ hf I (lv_sub hl [1, 2, 3, 4, 0] rfl)
    · intro S p0 p1 i0 i1 i2 H locs ls hf I hl
      replace hf : b_X4_isRoot_1 (g_X4_isRoot fu) fu S p0 p1 i0 i1 i2 = some (r, S') := hf
      unfold b_X4_isRoot_1 at hf
      refine kx_iload 3 C dX4_isRoot_3 (lv_at hl 4 rfl) ?_
      refine kx_iload_n 5 C dX4_isRoot_5 (lv_at hl 3 rfl) ?_
      refine kx_icmp_ge 6 31 C dX4_isRoot_6 (by decide) (fun c1 => ?_) (fun c1 => ?_)
      · have hf := ifp c1 hf
        refine kx_iconst 31 C dX4_isRoot_31 ?_
        exact kx_zret 32 C I (by decide) hf dX4_isRoot_32
      · have hf := ifn c1 hf
        refine kx_aload_n 9 C dX4_isRoot_9 (lv_at hl 0 rfl) ?_
        refine kx_iload 10 C dX4_isRoot_10 (lv_at hl 4 rfl) ?_
        refine kx_iload_n 12 C dX4_isRoot_12 (lv_at hl 1 rfl) ?_
        obtain ⟨x4, S2, h3, hf⟩ := ob2 hf
        refine kx_callSi 13 C hl I (As := [.ref (xB G + p0), .int (iI i2), .int (iI i0)]) (rest := []) (c_X4_stepsFrom G l fu _ _ _ _ _ _ h3) (va_cwS 3 C.ts gX4_isRoot_X4_stepsFrom rfl rfl rfl nyS_X4_stepsFrom ⟨Nat.le_of_ble_eq_true rfl, Nat.le_of_ble_eq_true rfl⟩) rfl rfl (Nat.le_of_ble_eq_true rfl) dX4_isRoot_13 ⟨Nat.le_of_ble_eq_true rfl, Nat.le_of_ble_eq_true rfl⟩ (fun H locs I => ?_)
        refine kx_aload_n 16 C dX4_isRoot_16 (lv_at hl 2 rfl) ?_
        refine kx_iload 17 C dX4_isRoot_17 (lv_at hl 4 rfl) ?_
        obtain ⟨x5, h6, hf⟩ := ob hf
        refine kx_iald 19 C I h6 dX4_isRoot_19 ?_
        refine kx_icmp_eq 20 25 C dX4_isRoot_20 (by decide) (fun c7 => ?_) (fun c7 => ?_)
        · have hf := ifp c7 hf
          obtain ⟨x8, e9, hf⟩ := nmx_e hf
          refine kx_iinc 25 C (lv' := [(4, .int (iI x8)), (0, .ref (xB G + p0)), (1, .int (iI i0)), (2, .ref (xB G + p1)), (3, .int (iI i1))]) dX4_isRoot_25 hl 4 rfl e9 (by decide) rfl (fun ls hl => ?_)
          refine kx_goto 28 3 C dX4_isRoot_28 (by decide) ?_
          exact ih1 _ _ _ _ _ _ _ _ _ hf I (lv_sub hl [1, 2, 3, 4, 0] rfl)
        · have hf := ifn c7 hf
          refine kx_iconst 23 C dX4_isRoot_23 ?_
          exact kx_zret 24 C I (by decide) hf dX4_isRoot_24
set_option maxHeartbeats 4000000 in
set_option maxRecDepth 100000 in
theorem c_X4_isRoot (G : xG) (l : Launch) (fu : Nat) (S S' : xS) (p0 : Nat) (i0 : Int) (p1 : Nat) (i1 : Int) (r : Int) (hf : f_X4_isRoot fu S p0 i0 p1 i1 = some (r, S')) : Met l yX4_isRoot vsX4_isRoot rm_X4_isRoot (va_Pc [.ref (xB G + p0), .int (iI i0), .ref (xB G + p1), .int (iI i1)] (xPre G S)) (xQi G r S') 0 0 (xA G) := by
  refine kx_met (ret := (some .boolean)) RX4 [(0, .ref (xB G + p0)), (1, .int (iI i0)), (2, .ref (xB G + p1)), (3, .int (iI i1))] (by decide) rfl rfl (Nat.le_of_ble_eq_true rfl) rfl (fun p e s m below meth c ls C hin I hl => ?_)
  exact (w_X4_isRoot C r S' fu).1 S _ _ _ _ _ _ _ _ hf I hl
def rm_X5_init : Room := { frames := 3, cells := 25, slots := 369, locals := 64 }
theorem hin_X5_init_RX1 : ∀ w ∈ wsX10, w ∈ vsX5_init := fun w h => inM (inlX1 w h)
theorem hin_X5_init_RX2 : ∀ w ∈ wsX20, w ∈ vsX5_init := fun w h => inM (inlX2 w h)
theorem hin_X5_init_RX3 : ∀ w ∈ wsX30, w ∈ vsX5_init := fun w h => inM (inlX3 w h)
theorem hin_X5_init_RX5 : ∀ w ∈ wsX50, w ∈ vsX5_init := fun w h => inM (inlX5 w h)
theorem fl_X5_init_10 : xFl vsX5_init RX5 10 4 0 := ⟨RX5, TX5, 13, rfl, by decide, hin_X5_init_RX5, inM mq_1_15, rfl⟩
theorem fl_X5_init_16 : xFl vsX5_init RX5 16 4 1 := ⟨RX5, TX5, 13, rfl, by decide, hin_X5_init_RX5, inM mq_1_16, rfl⟩
theorem fl_X5_init_19 : xFl vsX5_init RX5 19 4 2 := ⟨RX5, TX5, 13, rfl, by decide, hin_X5_init_RX5, inM mq_1_17, rfl⟩
theorem fl_X5_init_26 : xFl vsX5_init RX5 26 4 3 := ⟨RX5, TX5, 13, rfl, by decide, hin_X5_init_RX5, inM mq_1_21, rfl⟩
theorem fl_X5_init_33 : xFl vsX5_init RX5 33 4 4 := ⟨RX5, TX5, 13, rfl, by decide, hin_X5_init_RX5, inM mq_2_1, rfl⟩
theorem fl_X5_init_37 : xFl vsX5_init RX5 37 4 5 := ⟨RX5, TX5, 13, rfl, by decide, hin_X5_init_RX5, inM mq_2_3, rfl⟩
theorem fl_X5_init_41 : xFl vsX5_init RX5 41 4 6 := ⟨RX5, TX5, 13, rfl, by decide, hin_X5_init_RX5, inM mq_2_4, rfl⟩
theorem fl_X5_init_44 : xFl vsX5_init RX5 44 4 7 := ⟨RX5, TX5, 13, rfl, by decide, hin_X5_init_RX5, inM mq_2_5, rfl⟩
theorem fl_X5_init_48 : xFl vsX5_init RX5 48 4 8 := ⟨RX5, TX5, 13, rfl, by decide, hin_X5_init_RX5, inM mq_2_6, rfl⟩
theorem fl_X5_init_52 : xFl vsX5_init RX5 52 4 9 := ⟨RX5, TX5, 13, rfl, by decide, hin_X5_init_RX5, inM mq_2_7, rfl⟩
theorem fl_X5_init_55 : xFl vsX5_init RX5 55 4 10 := ⟨RX5, TX5, 13, rfl, by decide, hin_X5_init_RX5, inM mq_2_8, rfl⟩
theorem fl_X5_init_59 : xFl vsX5_init RX5 59 4 11 := ⟨RX5, TX5, 13, rfl, by decide, hin_X5_init_RX5, inM mq_2_9, rfl⟩
theorem fl_X5_init_62 : xFl vsX5_init RX5 62 4 12 := ⟨RX5, TX5, 13, rfl, by decide, hin_X5_init_RX5, inM mq_2_10, rfl⟩
theorem mw_X5_init_0 : Cond.methodLink RX5 1 objectInit ∈ vsX5_init := inM mq_1_9
theorem mw_X5_init_1 : Cond.instanceMethod objectInit ∈ vsX5_init := inM mq_1_10
theorem mw_X5_init_2 : Cond.code objectInit ⟨#[0xb1]⟩ 1 none ∈ vsX5_init := inM mq_1_11
theorem mw_X5_init_3 : Cond.classLink RX5 7 RX1 ∈ vsX5_init := inM mq_1_12
theorem mw_X5_init_4 : Cond.instantiable RX1 14 ∈ vsX5_init := inM mq_1_13
theorem mw_X5_init_5 : Cond.initialized RX1 ∈ vsX5_init := inM mq_1_14
theorem mw_X5_init_6 : Cond.methodLink RX5 9 yX1_init ∈ vsX5_init := inM mq_2_11
theorem mw_X5_init_7 : Cond.instanceMethod yX1_init ∈ vsX5_init := inM mq_2_12
theorem mw_X5_init_8 : Cond.classLink RX5 23 RX3 ∈ vsX5_init := inM mq_1_18
theorem mw_X5_init_9 : Cond.instantiable RX3 6 ∈ vsX5_init := inM mq_1_19
theorem mw_X5_init_10 : Cond.initialized RX3 ∈ vsX5_init := inM mq_1_20
theorem mw_X5_init_11 : Cond.methodLink RX5 25 yX3_init ∈ vsX5_init := inM mq_3_17
theorem mw_X5_init_12 : Cond.instanceMethod yX3_init ∈ vsX5_init := inM mq_3_18
theorem mw_X5_init_13 : Cond.classLink RX5 30 RX2 ∈ vsX5_init := inM mq_1_22
theorem mw_X5_init_14 : Cond.instantiable RX2 4 ∈ vsX5_init := inM mq_1_23
theorem mw_X5_init_15 : Cond.initialized RX2 ∈ vsX5_init := inM mq_2_0
theorem mw_X5_init_16 : Cond.methodLink RX5 32 yX2_init ∈ vsX5_init := inM mq_4_4
theorem mw_X5_init_17 : Cond.instanceMethod yX2_init ∈ vsX5_init := inM mq_4_5
theorem mw_X5_init_18 : Cond.arrayClass .int ∈ vsX5_init := inM mq_2_2
theorem nyS_X5_init : yX5_init.cls ≠ "java/lang/invoke/MethodHandle" ∧ yX5_init.cls ≠ "java/lang/invoke/VarHandle" ∧ (parseMethodDescriptor yX5_init.desc).map (fun d => d.parameters.length) = some 0 := by decide +kernel
set_option maxHeartbeats 4000000 in
set_option maxRecDepth 100000 in
theorem c_X5_init (G : xG) (l : Launch) (fu : Nat) (S S' : xS) (p0 : Nat) (r : Int) (hf : f_X5_init fu S p0 = some (r, S')) : Met l yX5_init vsX5_init rm_X5_init (va_Pc [.ref (xB G + p0)] (xPre G S)) (xQv G S') 25 369 (xA G) := by
  refine kx_met (ret := none) RX5 [(0, .ref (xB G + p0))] (by decide) rfl rfl (Nat.le_of_ble_eq_true rfl) rfl (fun p e s m below meth c ls C hin I hl => ?_)
  have hin := hin rfl
  unfold f_X5_init at hf
  refine kx_aload_n 0 C dX5_init_0 (lv_at hl 0 rfl) ?_
  refine kx_objInit 1 C hl mw_X5_init_0 mw_X5_init_1 mw_X5_init_2 ⟨Nat.le_of_ble_eq_true rfl, Nat.le_of_ble_eq_true rfl⟩ dX5_init_1 ?_
  refine kx_aload_n 4 C dX5_init_4 (lv_at hl 0 rfl) ?_
  obtain ⟨S1, eS1, hf⟩ := nmx_e hf
  refine kx_new 5 C I (ci := 1) (N := 14) xNew_X1 tyX1 rfl hin_X5_init_RX1 mw_X5_init_3 mw_X5_init_4 mw_X5_init_5 tyX1_ok xNew_X1_ok ⟨Nat.le_of_ble_eq_true rfl, Nat.le_of_ble_eq_true rfl⟩ dX5_init_5 (fun H I => ?_)
  rw [← eS1] at I
  refine kx_dup 8 C dX5_init_8 rfl ?_
  obtain ⟨z4, S2, h3, hf⟩ := ob2 hf
  refine kx_callI 9 C hl I (As := []) (rest := [.ref (xB G + S.length), .ref (xB G + p0)]) (c_X1_init G l fu _ _ _ _ h3) (cwI 0 C.ts gX5_init_X1_init rfl rfl rfl (C.ts _ mw_X5_init_5) (C.ts _ mw_X5_init_6) (C.ts _ mw_X5_init_7) rfl nyS_X1_init ⟨Nat.le_of_ble_eq_true rfl, Nat.le_of_ble_eq_true rfl⟩) rfl rfl (Nat.le_of_ble_eq_true rfl) dX5_init_9 ⟨Nat.le_of_ble_eq_true rfl, Nat.le_of_ble_eq_true rfl⟩ (fun H locs I => ?_)
  obtain ⟨S6, h5, hf⟩ := ob hf
  refine kx_putFp 12 C I fl_X5_init_10 fw_RX5_0 hin rfl (fun _ => ⟨rfl, rfl⟩) h5 dX5_init_12 (fun H locs I => ?_)
  refine kx_aload_n 15 C dX5_init_15 (lv_at hl 0 rfl) ?_
  obtain ⟨S7, eS7, hf⟩ := nmx_e hf
  refine kx_new 16 C I (ci := 1) (N := 14) xNew_X1 tyX1 rfl hin_X5_init_RX1 mw_X5_init_3 mw_X5_init_4 mw_X5_init_5 tyX1_ok xNew_X1_ok ⟨Nat.le_of_ble_eq_true rfl, Nat.le_of_ble_eq_true rfl⟩ dX5_init_16 (fun H I => ?_)
  rw [← eS7] at I
  refine kx_dup 19 C dX5_init_19 rfl ?_
  obtain ⟨z10, S8, h9, hf⟩ := ob2 hf
  refine kx_callI 20 C hl I (As := []) (rest := [.ref (xB G + S6.length), .ref (xB G + p0)]) (c_X1_init G l fu _ _ _ _ h9) (cwI 0 C.ts gX5_init_X1_init rfl rfl rfl (C.ts _ mw_X5_init_5) (C.ts _ mw_X5_init_6) (C.ts _ mw_X5_init_7) rfl nyS_X1_init ⟨Nat.le_of_ble_eq_true rfl, Nat.le_of_ble_eq_true rfl⟩) rfl rfl (Nat.le_of_ble_eq_true rfl) dX5_init_20 ⟨Nat.le_of_ble_eq_true rfl, Nat.le_of_ble_eq_true rfl⟩ (fun H locs I => ?_)
  obtain ⟨S12, h11, hf⟩ := ob hf
  refine kx_putFp 23 C I fl_X5_init_16 fw_RX5_1 hin rfl (fun _ => ⟨rfl, rfl⟩) h11 dX5_init_23 (fun H locs I => ?_)
  refine kx_aload_n 26 C dX5_init_26 (lv_at hl 0 rfl) ?_
  refine kx_iconst 27 C dX5_init_27 ?_
  obtain ⟨S13, eS13, hf⟩ := nmx_e hf
  refine kx_anewR 28 C I 2 mw_X5_init_3 rfl (Nat.le_of_ble_eq_true rfl) ⟨Nat.le_of_ble_eq_true rfl, Nat.le_of_ble_eq_true rfl⟩ dX5_init_28 (fun H I => ?_)
  rw [← eS13] at I
  obtain ⟨S15, h14, hf⟩ := ob hf
  refine kx_putFp 31 C I fl_X5_init_19 fw_RX5_2 hin rfl (fun _ => ⟨rfl, rfl⟩) h14 dX5_init_31 (fun H locs I => ?_)
  refine kx_aload_n 34 C dX5_init_34 (lv_at hl 0 rfl) ?_
  obtain ⟨S16, eS16, hf⟩ := nmx_e hf
  refine kx_new 35 C I (ci := 3) (N := 6) xNew_X3 tyX3 rfl hin_X5_init_RX3 mw_X5_init_8 mw_X5_init_9 mw_X5_init_10 tyX3_ok xNew_X3_ok ⟨Nat.le_of_ble_eq_true rfl, Nat.le_of_ble_eq_true rfl⟩ dX5_init_35 (fun H I => ?_)
  rw [← eS16] at I
  refine kx_dup 38 C dX5_init_38 rfl ?_
  obtain ⟨z19, S17, h18, hf⟩ := ob2 hf
  refine kx_callI 39 C hl I (As := []) (rest := [.ref (xB G + S15.length), .ref (xB G + p0)]) (c_X3_init G l fu _ _ _ _ h18) (cwI 0 C.ts gX5_init_X3_init rfl rfl rfl (C.ts _ mw_X5_init_10) (C.ts _ mw_X5_init_11) (C.ts _ mw_X5_init_12) rfl nyS_X3_init ⟨Nat.le_of_ble_eq_true rfl, Nat.le_of_ble_eq_true rfl⟩) rfl rfl (Nat.le_of_ble_eq_true rfl) dX5_init_39 ⟨Nat.le_of_ble_eq_true rfl, Nat.le_of_ble_eq_true rfl⟩ (fun H locs I => ?_)
  obtain ⟨S21, h20, hf⟩ := ob hf
  refine kx_putFp 42 C I fl_X5_init_26 fw_RX5_3 hin rfl (fun _ => ⟨rfl, rfl⟩) h20 dX5_init_42 (fun H locs I => ?_)
  refine kx_aload_n 45 C dX5_init_45 (lv_at hl 0 rfl) ?_
  obtain ⟨S22, eS22, hf⟩ := nmx_e hf
  refine kx_new 46 C I (ci := 2) (N := 4) xNew_X2 tyX2 rfl hin_X5_init_RX2 mw_X5_init_13 mw_X5_init_14 mw_X5_init_15 tyX2_ok xNew_X2_ok ⟨Nat.le_of_ble_eq_true rfl, Nat.le_of_ble_eq_true rfl⟩ dX5_init_46 (fun H I => ?_)
  rw [← eS22] at I
  refine kx_dup 49 C dX5_init_49 rfl ?_
  obtain ⟨z25, S23, h24, hf⟩ := ob2 hf
  refine kx_callI 50 C hl I (As := []) (rest := [.ref (xB G + S21.length), .ref (xB G + p0)]) (c_X2_init G l fu _ _ _ _ h24) (cwI 0 C.ts gX5_init_X2_init rfl rfl rfl (C.ts _ mw_X5_init_15) (C.ts _ mw_X5_init_16) (C.ts _ mw_X5_init_17) rfl nyS_X2_init ⟨Nat.le_of_ble_eq_true rfl, Nat.le_of_ble_eq_true rfl⟩) rfl rfl (Nat.le_of_ble_eq_true rfl) dX5_init_50 ⟨Nat.le_of_ble_eq_true rfl, Nat.le_of_ble_eq_true rfl⟩ (fun H locs I => ?_)
  obtain ⟨S27, h26, hf⟩ := ob hf
  refine kx_putFp 53 C I fl_X5_init_33 fw_RX5_4 hin rfl (fun _ => ⟨rfl, rfl⟩) h26 dX5_init_53 (fun H locs I => ?_)
  refine kx_aload_n 56 C dX5_init_56 (lv_at hl 0 rfl) ?_
  refine kx_bipush 57 C dX5_init_57 (by decide) ?_
  obtain ⟨S28, eS28, hf⟩ := nmx_e hf
  refine kx_newa 59 C I (ty := .int) 0 7 rfl rfl rfl (fun _ _ h => h) mw_X5_init_18 rfl (Nat.le_of_ble_eq_true rfl) (by decide) ⟨Nat.le_of_ble_eq_true rfl, Nat.le_of_ble_eq_true rfl⟩ dX5_init_59 (fun H I => ?_)
  rw [← eS28] at I
  obtain ⟨S30, h29, hf⟩ := ob hf
  refine kx_putFp 61 C I fl_X5_init_37 fw_RX5_5 hin rfl (fun _ => ⟨rfl, rfl⟩) h29 dX5_init_61 (fun H locs I => ?_)
  refine kx_aload_n 64 C dX5_init_64 (lv_at hl 0 rfl) ?_
  refine kx_bipush 65 C dX5_init_65 (by decide) ?_
  obtain ⟨S31, eS31, hf⟩ := nmx_e hf
  refine kx_newa 67 C I (ty := .int) 0 49 rfl rfl rfl (fun _ _ h => h) mw_X5_init_18 rfl (Nat.le_of_ble_eq_true rfl) (by decide) ⟨Nat.le_of_ble_eq_true rfl, Nat.le_of_ble_eq_true rfl⟩ dX5_init_67 (fun H I => ?_)
  rw [← eS31] at I
  obtain ⟨S33, h32, hf⟩ := ob hf
  refine kx_putFp 69 C I fl_X5_init_41 fw_RX5_6 hin rfl (fun _ => ⟨rfl, rfl⟩) h32 dX5_init_69 (fun H locs I => ?_)
  refine kx_aload_n 72 C dX5_init_72 (lv_at hl 0 rfl) ?_
  refine kx_null 73 C dX5_init_73 ?_
  obtain ⟨S35, h34, hf⟩ := ob hf
  refine kx_putn 74 C I fl_X5_init_44 fw_RX5_7 ⟨rfl, rfl⟩ h34 dX5_init_74 (fun H locs I => ?_)
  refine kx_aload_n 77 C dX5_init_77 (lv_at hl 0 rfl) ?_
  refine kx_lconst 78 C (z := 0) dX5_init_78 rfl ?_
  obtain ⟨S37, h36, hf⟩ := ob hf
  refine kx_putl 79 C I fl_X5_init_48 fw_RX5_8 h36 dX5_init_79 (fun H locs I => ?_)
  refine kx_aload_n 82 C dX5_init_82 (lv_at hl 0 rfl) ?_
  refine kx_lconst 83 C (z := 1) dX5_init_83 rfl ?_
  obtain ⟨S39, h38, hf⟩ := ob hf
  refine kx_putl 84 C I fl_X5_init_52 fw_RX5_9 h38 dX5_init_84 (fun H locs I => ?_)
  refine kx_aload_n 87 C dX5_init_87 (lv_at hl 0 rfl) ?_
  refine kx_iconst 88 C dX5_init_88 ?_
  obtain ⟨S41, h40, hf⟩ := ob hf
  refine kx_puti 89 C I fl_X5_init_55 fw_RX5_10 h40 dX5_init_89 (fun H locs I => ?_)
  refine kx_aload_n 92 C dX5_init_92 (lv_at hl 0 rfl) ?_
  refine kx_iconst 93 C dX5_init_93 ?_
  obtain ⟨S43, h42, hf⟩ := ob hf
  refine kx_puti 94 C I fl_X5_init_59 fw_RX5_11 h42 dX5_init_94 (fun H locs I => ?_)
  refine kx_aload_n 97 C dX5_init_97 (lv_at hl 0 rfl) ?_
  refine kx_iconst 98 C dX5_init_98 ?_
  obtain ⟨S45, h44, hf⟩ := ob hf
  refine kx_puti 99 C I fl_X5_init_62 fw_RX5_12 h44 dX5_init_99 (fun H locs I => ?_)
  exact kx_vret 102 C I hf dX5_init_102
def rm_X5_refuseBad : Room := { frames := 0, cells := 0, slots := 0, locals := 0 }
theorem hin_X5_refuseBad_RX5 : ∀ w ∈ wsX50, w ∈ vsX5_refuseBad := fun w h => inM (inlX5 w h)
theorem fl_X5_refuseBad_55 : xFl vsX5_refuseBad RX5 55 4 10 := ⟨RX5, TX5, 13, rfl, by decide, hin_X5_refuseBad_RX5, inM mq_2_8, rfl⟩
theorem nyS_X5_refuseBad : yX5_refuseBad.cls ≠ "java/lang/invoke/MethodHandle" ∧ yX5_refuseBad.cls ≠ "java/lang/invoke/VarHandle" ∧ (parseMethodDescriptor yX5_refuseBad.desc).map (fun d => d.parameters.length) = some 0 := by decide +kernel
theorem nyV_X5_refuseBad : yX5_refuseBad.cls = RX5 ∧ yX5_refuseBad.cls ≠ "java/lang/invoke/MethodHandle" ∧ yX5_refuseBad.cls ≠ "java/lang/invoke/VarHandle" ∧ (parseMethodDescriptor yX5_refuseBad.desc).map (fun d => d.parameters.length) = some 0 := by decide +kernel
set_option maxHeartbeats 4000000 in
set_option maxRecDepth 100000 in
theorem c_X5_refuseBad (G : xG) (l : Launch) (fu : Nat) (S S' : xS) (p0 : Nat) (r : Int) (hf : f_X5_refuseBad fu S p0 = some (r, S')) : Met l yX5_refuseBad vsX5_refuseBad rm_X5_refuseBad (va_Pc [.ref (xB G + p0)] (xPre G S)) (xQi G r S') 0 0 (xA G) := by
  refine kx_met (ret := (some .int)) RX5 [(0, .ref (xB G + p0))] (by decide) rfl rfl (Nat.le_of_ble_eq_true rfl) rfl (fun p e s m below meth c ls C hin I hl => ?_)
  unfold f_X5_refuseBad at hf
  refine kx_aload_n 0 C dX5_refuseBad_0 (lv_at hl 0 rfl) ?_
  refine kx_dup 1 C dX5_refuseBad_1 rfl ?_
  obtain ⟨x2, h1, hf⟩ := ob hf
  refine kx_geti 2 C I fl_X5_refuseBad_55 h1 dX5_refuseBad_2 ?_
  refine kx_iconst 5 C dX5_refuseBad_5 ?_
  refine kx_iadd 6 C dX5_refuseBad_6 ?_
  obtain ⟨S4, h3, hf⟩ := ob hf
  refine kx_puti 7 C I fl_X5_refuseBad_55 fw_RX5_10 h3 dX5_refuseBad_7 (fun H locs I => ?_)
  refine kx_bipush 10 C dX5_refuseBad_10 (by decide) ?_
  exact kx_iret 12 C I hf dX5_refuseBad_12
def rm_X5_boxes : Room := { frames := 2, cells := 0, slots := 0, locals := 44 }
theorem hin_X5_boxes_RX1 : ∀ w ∈ wsX10, w ∈ vsX5_boxes := fun w h => inM (inlX1 w h)
theorem hin_X5_boxes_RX5 : ∀ w ∈ wsX50, w ∈ vsX5_boxes := fun w h => inM (inlX5 w h)
theorem fl_X5_boxes_10 : xFl vsX5_boxes RX5 10 4 0 := ⟨RX5, TX5, 13, rfl, by decide, hin_X5_boxes_RX5, inM mq_1_15, rfl⟩
theorem fl_X5_boxes_69 : xFl vsX5_boxes RX5 69 1 0 := ⟨RX1, TX1, 14, rfl, by decide, hin_X5_boxes_RX1, inM mq_5_19, rfl⟩
theorem nyS_X5_boxes : yX5_boxes.cls ≠ "java/lang/invoke/MethodHandle" ∧ yX5_boxes.cls ≠ "java/lang/invoke/VarHandle" ∧ (parseMethodDescriptor yX5_boxes.desc).map (fun d => d.parameters.length) = some 1 := by decide +kernel
theorem nyV_X5_boxes : yX5_boxes.cls = RX5 ∧ yX5_boxes.cls ≠ "java/lang/invoke/MethodHandle" ∧ yX5_boxes.cls ≠ "java/lang/invoke/VarHandle" ∧ (parseMethodDescriptor yX5_boxes.desc).map (fun d => d.parameters.length) = some 1 := by decide +kernel
set_option maxHeartbeats 4000000 in
set_option maxRecDepth 100000 in
theorem w_X5_boxes {G : xG} {p : Program} {l : Launch} {e : Env} {s : State} {m : MethodId} {args : Array Value} {below : List Frame} {meth : Method} {c : Code} (C : xK G p s m args meth c cX5_boxes 3 vsX5_boxes RX5 (some .int)) (r : Int) (S' : xS) : ∀ k : Nat,
  (∀ (S : xS) (p0 : Nat) (i0 : Int) (H : Heap) (locs : List Loc) (ls : Array Slot), g_X5_boxes k 0 S p0 i0 = some (r, S') → xI G S s H locs → lv_has ls 3 [(0, .ref (xB G + p0)), (1, .int (iI i0))] → W p l e rm_X5_boxes s m args below meth c H locs 0 0 (MQ below (xQi G r S') args s 0 0 (xA G)) (F0 m 0 ls [])) ∧
  (∀ (S : xS) (p0 : Nat) (i0 : Int) (H : Heap) (locs : List Loc) (ls : Array Slot), g_X5_boxes k 1 S p0 i0 = some (r, S') → xI G S s H locs → lv_has ls 3 [(0, .ref (xB G + p0))] → W p l e rm_X5_boxes s m args below meth c H locs 0 0 (MQ below (xQi G r S') args s 0 0 (xA G)) (F0 m 11 ls [])) := by
  intro k
  induction k with
  | zero => exact ⟨fun _ _ _ _ _ _ hf => (by cases hf), fun _ _ _ _ _ _ hf => (by cases hf)⟩
  | succ fu ih =>
    obtain ⟨ih0, ih1⟩ := ih
    refine ⟨?_, ?_⟩
    · intro S p0 i0 H locs ls hf I hl
      replace hf : b_X5_boxes_0 (g_X5_boxes fu) fu S p0 i0 = some (r, S') := hf
      unfold b_X5_boxes_0 at hf
      refine kx_iload_n 0 C dX5_boxes_0 (lv_at hl 1 rfl) ?_
      refine kx_iconst 1 C dX5_boxes_1 ?_
      refine kx_icmp_lt 2 11 C dX5_boxes_2 (by decide) (fun c1 => ?_) (fun c1 => ?_)
      · have hf := ifp c1 hf
        exact ih1 _ _ _ _ _ _ hf I (lv_sub hl [0] rfl)
      · have hf := ifn c1 hf
        refine kx_iload_n 5 C dX5_boxes_5 (lv_at hl 1 rfl) ?_
        refine kx_bipush 6 C dX5_boxes_6 (by decide) ?_
        refine kx_icmp_le 8 16 C dX5_boxes_8 (by decide) (fun c2 => ?_) (fun c2 => ?_)
        · have hf := ifp c2 hf
          refine kx_aload_n 16 C dX5_boxes_16 (lv_at hl 0 rfl) ?_
          obtain ⟨q4, h3, hf⟩ := ob hf
          refine kx_getp 17 C I fl_X5_boxes_10 h3 dX5_boxes_17 ?_
          obtain ⟨x6, h5, hf⟩ := ob hf
          refine kx_geti 20 C I fl_X5_boxes_69 h5 dX5_boxes_20 ?_
          refine kx_istore_n 23 C (lv' := [(2, .int (iI x6)), (0, .ref (xB G + p0)), (1, .int (iI i0))]) dX5_boxes_23 hl (by decide) rfl rfl (fun ls hl => ?_)
          refine kx_aload_n 24 C dX5_boxes_24 (lv_at hl 1 rfl) ?_
          obtain ⟨q8, h7, hf⟩ := ob hf
          refine kx_getp 25 C I fl_X5_boxes_10 h7 dX5_boxes_25 ?_
          refine kx_iload_n 28 C dX5_boxes_28 (lv_at hl 2 rfl) ?_
          obtain ⟨h12, hf⟩ := ift hf
          obtain ⟨z11, S9, h10, hf⟩ := ob2 hf
          refine kx_callVv 29 C hl I (ci := 1) (As := [.int (iI i0)]) (rest := []) (c_X1_setAsAtFirst G l fu _ _ _ _ _ h10) (cwV 1 C.ts gX5_boxes_X1_setAsAtFirst rfl rfl rfl nyV_X1_setAsAtFirst ⟨Nat.le_of_ble_eq_true rfl, Nat.le_of_ble_eq_true rfl⟩) rfl h12 rfl rfl (Nat.le_of_ble_eq_true rfl) dX5_boxes_29 ⟨Nat.le_of_ble_eq_true rfl, Nat.le_of_ble_eq_true rfl⟩ (fun H locs I => ?_)
          refine kx_iload_n 32 C dX5_boxes_32 (lv_at hl 0 rfl) ?_
          exact kx_iret 33 C I hf dX5_boxes_33
        · have hf := ifn c2 hf
          exact ih1 _ _ _ _ _ _ hf I (lv_sub hl [0] rfl)
    · intro S p0 i0 H locs ls hf I hl
      replace hf : b_X5_boxes_1 (g_X5_boxes fu) fu S p0 i0 = some (r, S') := hf
      unfold b_X5_boxes_1 at hf
      refine kx_aload_n 11 C dX5_boxes_11 (lv_at hl 0 rfl) ?_
      obtain ⟨h16, hf⟩ := ift hf
      obtain ⟨x15, S13, h14, hf⟩ := ob2 hf
      refine kx_callVi 12 C hl I (ci := 4) (As := []) (rest := []) (c_X5_refuseBad G l fu _ _ _ _ h14) (cwV 0 C.ts gX5_boxes_X5_refuseBad rfl rfl rfl nyV_X5_refuseBad ⟨Nat.le_of_ble_eq_true rfl, Nat.le_of_ble_eq_true rfl⟩) rfl h16 rfl rfl (Nat.le_of_ble_eq_true rfl) dX5_boxes_12 ⟨Nat.le_of_ble_eq_true rfl, Nat.le_of_ble_eq_true rfl⟩ (fun H locs I => ?_)
      exact kx_iret 15 C I hf dX5_boxes_15
set_option maxHeartbeats 4000000 in
set_option maxRecDepth 100000 in
theorem c_X5_boxes (G : xG) (l : Launch) (fu : Nat) (S S' : xS) (p0 : Nat) (i0 : Int) (r : Int) (hf : f_X5_boxes fu S p0 i0 = some (r, S')) : Met l yX5_boxes vsX5_boxes rm_X5_boxes (va_Pc [.ref (xB G + p0), .int (iI i0)] (xPre G S)) (xQi G r S') 0 0 (xA G) := by
  refine kx_met (ret := (some .int)) RX5 [(0, .ref (xB G + p0)), (1, .int (iI i0))] (by decide) rfl rfl (Nat.le_of_ble_eq_true rfl) rfl (fun p e s m below meth c ls C hin I hl => ?_)
  exact (w_X5_boxes C r S' fu).1 S _ _ _ _ _ hf I hl
def rm_X5_putLeave : Room := { frames := 1, cells := 0, slots := 0, locals := 20 }
theorem hin_X5_putLeave_RX1 : ∀ w ∈ wsX10, w ∈ vsX5_putLeave := fun w h => inM (inlX1 w h)
theorem hin_X5_putLeave_RX5 : ∀ w ∈ wsX50, w ∈ vsX5_putLeave := fun w h => inM (inlX5 w h)
theorem fl_X5_putLeave_10 : xFl vsX5_putLeave RX5 10 4 0 := ⟨RX5, TX5, 13, rfl, by decide, hin_X5_putLeave_RX5, inM mq_1_15, rfl⟩
theorem fl_X5_putLeave_69 : xFl vsX5_putLeave RX5 69 1 0 := ⟨RX1, TX1, 14, rfl, by decide, hin_X5_putLeave_RX1, inM mq_5_19, rfl⟩
theorem fl_X5_putLeave_83 : xFl vsX5_putLeave RX5 83 1 1 := ⟨RX1, TX1, 14, rfl, by decide, hin_X5_putLeave_RX1, inM mq_7_3, rfl⟩
theorem nyS_X5_putLeave : yX5_putLeave.cls ≠ "java/lang/invoke/MethodHandle" ∧ yX5_putLeave.cls ≠ "java/lang/invoke/VarHandle" ∧ (parseMethodDescriptor yX5_putLeave.desc).map (fun d => d.parameters.length) = some 1 := by decide +kernel
theorem nyV_X5_putLeave : yX5_putLeave.cls = RX5 ∧ yX5_putLeave.cls ≠ "java/lang/invoke/MethodHandle" ∧ yX5_putLeave.cls ≠ "java/lang/invoke/VarHandle" ∧ (parseMethodDescriptor yX5_putLeave.desc).map (fun d => d.parameters.length) = some 1 := by decide +kernel
set_option maxHeartbeats 4000000 in
set_option maxRecDepth 100000 in
theorem w_X5_putLeave {G : xG} {p : Program} {l : Launch} {e : Env} {s : State} {m : MethodId} {args : Array Value} {below : List Frame} {meth : Method} {c : Code} (C : xK G p s m args meth c cX5_putLeave 3 vsX5_putLeave RX5 (some .int)) (r : Int) (S' : xS) : ∀ k : Nat,
  (∀ (S : xS) (p0 : Nat) (i0 : Int) (H : Heap) (locs : List Loc) (ls : Array Slot), g_X5_putLeave k 0 S p0 i0 = some (r, S') → xI G S s H locs → lv_has ls 3 [(0, .ref (xB G + p0)), (1, .int (iI i0))] → W p l e rm_X5_putLeave s m args below meth c H locs 0 0 (MQ below (xQi G r S') args s 0 0 (xA G)) (F0 m 0 ls [])) ∧
  (∀ (S : xS) (p0 : Nat) (i0 : Int) (H : Heap) (locs : List Loc) (ls : Array Slot), g_X5_putLeave k 1 S p0 i0 = some (r, S') → xI G S s H locs → lv_has ls 3 [(0, .ref (xB G + p0))] → W p l e rm_X5_putLeave s m args below meth c H locs 0 0 (MQ below (xQi G r S') args s 0 0 (xA G)) (F0 m 16 ls [])) := by
  intro k
  induction k with
  | zero => exact ⟨fun _ _ _ _ _ _ hf => (by cases hf), fun _ _ _ _ _ _ hf => (by cases hf)⟩
  | succ fu ih =>
    obtain ⟨ih0, ih1⟩ := ih
    refine ⟨?_, ?_⟩
    · intro S p0 i0 H locs ls hf I hl
      replace hf : b_X5_putLeave_0 (g_X5_putLeave fu) fu S p0 i0 = some (r, S') := hf
      unfold b_X5_putLeave_0 at hf
      refine kx_iload_n 0 C dX5_putLeave_0 (lv_at hl 1 rfl) ?_
      refine kx_iconst 1 C dX5_putLeave_1 ?_
      refine kx_icmp_lt 2 16 C dX5_putLeave_2 (by decide) (fun c1 => ?_) (fun c1 => ?_)
      · have hf := ifp c1 hf
        exact ih1 _ _ _ _ _ _ hf I (lv_sub hl [0] rfl)
      · have hf := ifn c1 hf
        refine kx_iload_n 5 C dX5_putLeave_5 (lv_at hl 1 rfl) ?_
        refine kx_aload_n 6 C dX5_putLeave_6 (lv_at hl 0 rfl) ?_
        obtain ⟨q3, h2, hf⟩ := ob hf
        refine kx_getp 7 C I fl_X5_putLeave_10 h2 dX5_putLeave_7 ?_
        obtain ⟨x5, h4, hf⟩ := ob hf
        refine kx_geti 10 C I fl_X5_putLeave_69 h4 dX5_putLeave_10 ?_
        refine kx_icmp_le 13 21 C dX5_putLeave_13 (by decide) (fun c6 => ?_) (fun c6 => ?_)
        · have hf := ifp c6 hf
          refine kx_aload_n 21 C dX5_putLeave_21 (lv_at hl 0 rfl) ?_
          obtain ⟨q8, h7, hf⟩ := ob hf
          refine kx_getp 22 C I fl_X5_putLeave_10 h7 dX5_putLeave_22 ?_
          obtain ⟨x10, h9, hf⟩ := ob hf
          refine kx_geti 25 C I fl_X5_putLeave_83 h9 dX5_putLeave_25 ?_
          refine kx_istore_n 28 C (lv' := [(2, .int (iI x10)), (0, .ref (xB G + p0)), (1, .int (iI i0))]) dX5_putLeave_28 hl (by decide) rfl rfl (fun ls hl => ?_)
          refine kx_aload_n 29 C dX5_putLeave_29 (lv_at hl 1 rfl) ?_
          obtain ⟨q12, h11, hf⟩ := ob hf
          refine kx_getp 30 C I fl_X5_putLeave_10 h11 dX5_putLeave_30 ?_
          refine kx_iload_n 33 C dX5_putLeave_33 (lv_at hl 2 rfl) ?_
          obtain ⟨S14, h13, hf⟩ := ob hf
          refine kx_puti 34 C I fl_X5_putLeave_83 fw_RX1_1 h13 dX5_putLeave_34 (fun H locs I => ?_)
          refine kx_iload_n 37 C dX5_putLeave_37 (lv_at hl 0 rfl) ?_
          exact kx_iret 38 C I hf dX5_putLeave_38
        · have hf := ifn c6 hf
          exact ih1 _ _ _ _ _ _ hf I (lv_sub hl [0] rfl)
    · intro S p0 i0 H locs ls hf I hl
      replace hf : b_X5_putLeave_1 (g_X5_putLeave fu) fu S p0 i0 = some (r, S') := hf
      unfold b_X5_putLeave_1 at hf
      refine kx_aload_n 16 C dX5_putLeave_16 (lv_at hl 0 rfl) ?_
      obtain ⟨h18, hf⟩ := ift hf
      obtain ⟨x17, S15, h16, hf⟩ := ob2 hf
      refine kx_callVi 17 C hl I (ci := 4) (As := []) (rest := []) (c_X5_refuseBad G l fu _ _ _ _ h16) (cwV 0 C.ts gX5_putLeave_X5_refuseBad rfl rfl rfl nyV_X5_refuseBad ⟨Nat.le_of_ble_eq_true rfl, Nat.le_of_ble_eq_true rfl⟩) rfl h18 rfl rfl (Nat.le_of_ble_eq_true rfl) dX5_putLeave_17 ⟨Nat.le_of_ble_eq_true rfl, Nat.le_of_ble_eq_true rfl⟩ (fun H locs I => ?_)
      exact kx_iret 20 C I hf dX5_putLeave_20
set_option maxHeartbeats 4000000 in
set_option maxRecDepth 100000 in
theorem c_X5_putLeave (G : xG) (l : Launch) (fu : Nat) (S S' : xS) (p0 : Nat) (i0 : Int) (r : Int) (hf : f_X5_putLeave fu S p0 i0 = some (r, S')) : Met l yX5_putLeave vsX5_putLeave rm_X5_putLeave (va_Pc [.ref (xB G + p0), .int (iI i0)] (xPre G S)) (xQi G r S') 0 0 (xA G) := by
  refine kx_met (ret := (some .int)) RX5 [(0, .ref (xB G + p0)), (1, .int (iI i0))] (by decide) rfl rfl (Nat.le_of_ble_eq_true rfl) rfl (fun p e s m below meth c ls C hin I hl => ?_)
  exact (w_X5_putLeave C r S' fu).1 S _ _ _ _ _ hf I hl
def rm_X5_put : Room := { frames := 2, cells := 0, slots := 0, locals := 42 }
theorem hin_X5_put_RX1 : ∀ w ∈ wsX10, w ∈ vsX5_put := fun w h => inM (inlX1 w h)
theorem hin_X5_put_RX5 : ∀ w ∈ wsX50, w ∈ vsX5_put := fun w h => inM (inlX5 w h)
theorem fl_X5_put_10 : xFl vsX5_put RX5 10 4 0 := ⟨RX5, TX5, 13, rfl, by decide, hin_X5_put_RX5, inM mq_1_15, rfl⟩
theorem fl_X5_put_80 : xFl vsX5_put RX5 80 1 2 := ⟨RX1, TX1, 14, rfl, by decide, hin_X5_put_RX1, inM mq_6_22, rfl⟩
theorem nyS_X5_put : yX5_put.cls ≠ "java/lang/invoke/MethodHandle" ∧ yX5_put.cls ≠ "java/lang/invoke/VarHandle" ∧ (parseMethodDescriptor yX5_put.desc).map (fun d => d.parameters.length) = some 2 := by decide +kernel
theorem nyV_X5_put : yX5_put.cls = RX5 ∧ yX5_put.cls ≠ "java/lang/invoke/MethodHandle" ∧ yX5_put.cls ≠ "java/lang/invoke/VarHandle" ∧ (parseMethodDescriptor yX5_put.desc).map (fun d => d.parameters.length) = some 2 := by decide +kernel
set_option maxHeartbeats 4000000 in
set_option maxRecDepth 100000 in
theorem w_X5_put {G : xG} {p : Program} {l : Launch} {e : Env} {s : State} {m : MethodId} {args : Array Value} {below : List Frame} {meth : Method} {c : Code} (C : xK G p s m args meth c cX5_put 4 vsX5_put RX5 (some .int)) (r : Int) (S' : xS) : ∀ k : Nat,
  (∀ (S : xS) (p0 : Nat) (i0 i1 : Int) (H : Heap) (locs : List Loc) (ls : Array Slot), g_X5_put k 0 S p0 i0 i1 = some (r, S') → xI G S s H locs → lv_has ls 4 [(0, .ref (xB G + p0)), (1, .int (iI i0)), (2, .int (iI i1))] → W p l e rm_X5_put s m args below meth c H locs 0 0 (MQ below (xQi G r S') args s 0 0 (xA G)) (F0 m 0 ls [])) ∧
  (∀ (S : xS) (p0 : Nat) (i0 i1 : Int) (H : Heap) (locs : List Loc) (ls : Array Slot), g_X5_put k 1 S p0 i0 i1 = some (r, S') → xI G S s H locs → lv_has ls 4 [(0, .ref (xB G + p0))] → W p l e rm_X5_put s m args below meth c H locs 0 0 (MQ below (xQi G r S') args s 0 0 (xA G)) (F0 m 25 ls [])) := by
  intro k
  induction k with
  | zero => exact ⟨fun _ _ _ _ _ _ _ hf => (by cases hf), fun _ _ _ _ _ _ _ hf => (by cases hf)⟩
  | succ fu ih =>
    obtain ⟨ih0, ih1⟩ := ih
    refine ⟨?_, ?_⟩
    · intro S p0 i0 i1 H locs ls hf I hl
      replace hf : b_X5_put_0 (g_X5_put fu) fu S p0 i0 i1 = some (r, S') := hf
      unfold b_X5_put_0 at hf
      refine kx_iload_n 0 C dX5_put_0 (lv_at hl 1 rfl) ?_
      refine kx_if_ne 1 10 C dX5_put_1 (by decide) (fun c1 => ?_) (fun c1 => ?_)
      · have hf := ifn c1 hf
        refine kx_iload_n 10 C dX5_put_10 (lv_at hl 1 rfl) ?_
        refine kx_iconst 11 C dX5_put_11 ?_
        refine kx_icmp_ne 12 25 C dX5_put_12 (by decide) (fun c2 => ?_) (fun c2 => ?_)
        · have hf := ifn c2 hf
          exact ih1 _ _ _ _ _ _ _ hf I (lv_sub hl [0] rfl)
        · have hf := ifp c2 hf
          refine kx_iload_n 15 C dX5_put_15 (lv_at hl 2 rfl) ?_
          refine kx_if_lt 16 25 C dX5_put_16 (by decide) (fun c3 => ?_) (fun c3 => ?_)
          · have hf := ifp c3 hf
            exact ih1 _ _ _ _ _ _ _ hf I (lv_sub hl [0] rfl)
          · have hf := ifn c3 hf
            refine kx_iload_n 19 C dX5_put_19 (lv_at hl 2 rfl) ?_
            refine kx_bipush 20 C dX5_put_20 (by decide) ?_
            refine kx_icmp_le 22 30 C dX5_put_22 (by decide) (fun c4 => ?_) (fun c4 => ?_)
            · have hf := ifp c4 hf
              refine kx_aload_n 30 C dX5_put_30 (lv_at hl 0 rfl) ?_
              obtain ⟨q6, h5, hf⟩ := ob hf
              refine kx_getp 31 C I fl_X5_put_10 h5 dX5_put_31 ?_
              obtain ⟨x8, h7, hf⟩ := ob hf
              refine kx_geti 34 C I fl_X5_put_80 h7 dX5_put_34 ?_
              refine kx_istore_n 37 C (lv' := [(3, .int (iI x8)), (0, .ref (xB G + p0)), (1, .int (iI i0)), (2, .int (iI i1))]) dX5_put_37 hl (by decide) rfl rfl (fun ls hl => ?_)
              refine kx_aload_n 38 C dX5_put_38 (lv_at hl 1 rfl) ?_
              obtain ⟨q10, h9, hf⟩ := ob hf
              refine kx_getp 39 C I fl_X5_put_10 h9 dX5_put_39 ?_
              refine kx_iload_n 42 C dX5_put_42 (lv_at hl 3 rfl) ?_
              obtain ⟨S12, h11, hf⟩ := ob hf
              refine kx_puti 43 C I fl_X5_put_80 fw_RX1_2 h11 dX5_put_43 (fun H locs I => ?_)
              refine kx_iload_n 46 C dX5_put_46 (lv_at hl 0 rfl) ?_
              exact kx_iret 47 C I hf dX5_put_47
            · have hf := ifn c4 hf
              exact ih1 _ _ _ _ _ _ _ hf I (lv_sub hl [0] rfl)
      · have hf := ifp c1 hf
        refine kx_aload_n 4 C dX5_put_4 (lv_at hl 0 rfl) ?_
        refine kx_iload_n 5 C dX5_put_5 (lv_at hl 2 rfl) ?_
        obtain ⟨h16, hf⟩ := ift hf
        obtain ⟨x15, S13, h14, hf⟩ := ob2 hf
        refine kx_callVi 6 C hl I (ci := 4) (As := [.int (iI i1)]) (rest := []) (c_X5_putLeave G l fu _ _ _ _ _ h14) (cwV 1 C.ts gX5_put_X5_putLeave rfl rfl rfl nyV_X5_putLeave ⟨Nat.le_of_ble_eq_true rfl, Nat.le_of_ble_eq_true rfl⟩) rfl h16 rfl rfl (Nat.le_of_ble_eq_true rfl) dX5_put_6 ⟨Nat.le_of_ble_eq_true rfl, Nat.le_of_ble_eq_true rfl⟩ (fun H locs I => ?_)
        exact kx_iret 9 C I hf dX5_put_9
    · intro S p0 i0 i1 H locs ls hf I hl
      replace hf : b_X5_put_1 (g_X5_put fu) fu S p0 i0 i1 = some (r, S') := hf
      unfold b_X5_put_1 at hf
      refine kx_aload_n 25 C dX5_put_25 (lv_at hl 0 rfl) ?_
      obtain ⟨h20, hf⟩ := ift hf
      obtain ⟨x19, S17, h18, hf⟩ := ob2 hf
      refine kx_callVi 26 C hl I (ci := 4) (As := []) (rest := []) (c_X5_refuseBad G l fu _ _ _ _ h18) (cwV 0 C.ts gX5_put_X5_refuseBad rfl rfl rfl nyV_X5_refuseBad ⟨Nat.le_of_ble_eq_true rfl, Nat.le_of_ble_eq_true rfl⟩) rfl h20 rfl rfl (Nat.le_of_ble_eq_true rfl) dX5_put_26 ⟨Nat.le_of_ble_eq_true rfl, Nat.le_of_ble_eq_true rfl⟩ (fun H locs I => ?_)
      exact kx_iret 29 C I hf dX5_put_29
set_option maxHeartbeats 4000000 in
set_option maxRecDepth 100000 in
theorem c_X5_put (G : xG) (l : Launch) (fu : Nat) (S S' : xS) (p0 : Nat) (i0 : Int) (i1 : Int) (r : Int) (hf : f_X5_put fu S p0 i0 i1 = some (r, S')) : Met l yX5_put vsX5_put rm_X5_put (va_Pc [.ref (xB G + p0), .int (iI i0), .int (iI i1)] (xPre G S)) (xQi G r S') 0 0 (xA G) := by
  refine kx_met (ret := (some .int)) RX5 [(0, .ref (xB G + p0)), (1, .int (iI i0)), (2, .int (iI i1))] (by decide) rfl rfl (Nat.le_of_ble_eq_true rfl) rfl (fun p e s m below meth c ls C hin I hl => ?_)
  exact (w_X5_put C r S' fu).1 S _ _ _ _ _ _ hf I hl
def rm_X5_isNoBox : Room := { frames := 0, cells := 0, slots := 0, locals := 0 }
theorem hin_X5_isNoBox_RX1 : ∀ w ∈ wsX10, w ∈ vsX5_isNoBox := fun w h => inM (inlX1 w h)
theorem hin_X5_isNoBox_RX5 : ∀ w ∈ wsX50, w ∈ vsX5_isNoBox := fun w h => inM (inlX5 w h)
theorem fl_X5_isNoBox_10 : xFl vsX5_isNoBox RX5 10 4 0 := ⟨RX5, TX5, 13, rfl, by decide, hin_X5_isNoBox_RX5, inM mq_1_15, rfl⟩
theorem fl_X5_isNoBox_69 : xFl vsX5_isNoBox RX5 69 1 0 := ⟨RX1, TX1, 14, rfl, by decide, hin_X5_isNoBox_RX1, inM mq_5_19, rfl⟩
theorem nyS_X5_isNoBox : yX5_isNoBox.cls ≠ "java/lang/invoke/MethodHandle" ∧ yX5_isNoBox.cls ≠ "java/lang/invoke/VarHandle" ∧ (parseMethodDescriptor yX5_isNoBox.desc).map (fun d => d.parameters.length) = some 1 := by decide +kernel
theorem nyV_X5_isNoBox : yX5_isNoBox.cls = RX5 ∧ yX5_isNoBox.cls ≠ "java/lang/invoke/MethodHandle" ∧ yX5_isNoBox.cls ≠ "java/lang/invoke/VarHandle" ∧ (parseMethodDescriptor yX5_isNoBox.desc).map (fun d => d.parameters.length) = some 1 := by decide +kernel
set_option maxHeartbeats 4000000 in
set_option maxRecDepth 100000 in
theorem w_X5_isNoBox {G : xG} {p : Program} {l : Launch} {e : Env} {s : State} {m : MethodId} {args : Array Value} {below : List Frame} {meth : Method} {c : Code} (C : xK G p s m args meth c cX5_isNoBox 2 vsX5_isNoBox RX5 (some .boolean)) (r : Int) (S' : xS) : ∀ k : Nat,
  (∀ (S : xS) (p0 : Nat) (i0 : Int) (H : Heap) (locs : List Loc) (ls : Array Slot), g_X5_isNoBox k 0 S p0 i0 = some (r, S') → xI G S s H locs → lv_has ls 2 [(0, .ref (xB G + p0)), (1, .int (iI i0))] → W p l e rm_X5_isNoBox s m args below meth c H locs 0 0 (MQ below (xQi G r S') args s 0 0 (xA G)) (F0 m 0 ls [])) ∧
  (∀ (S : xS) (p0 : Nat) (i0 : Int) (H : Heap) (locs : List Loc) (ls : Array Slot), g_X5_isNoBox k 1 S p0 i0 = some (r, S') → xI G S s H locs → lv_has ls 2 [] → W p l e rm_X5_isNoBox s m args below meth c H locs 0 0 (MQ below (xQi G r S') args s 0 0 (xA G)) (F0 m 15 ls [])) := by
  intro k
  induction k with
  | zero => exact ⟨fun _ _ _ _ _ _ hf => (by cases hf), fun _ _ _ _ _ _ hf => (by cases hf)⟩
  | succ fu ih =>
    obtain ⟨ih0, ih1⟩ := ih
    refine ⟨?_, ?_⟩
    · intro S p0 i0 H locs ls hf I hl
      replace hf : b_X5_isNoBox_0 (g_X5_isNoBox fu) fu S p0 i0 = some (r, S') := hf
      unfold b_X5_isNoBox_0 at hf
      refine kx_iload_n 0 C dX5_isNoBox_0 (lv_at hl 1 rfl) ?_
      refine kx_if_lt 1 15 C dX5_isNoBox_1 (by decide) (fun c1 => ?_) (fun c1 => ?_)
      · have hf := ifp c1 hf
        exact ih1 _ _ _ _ _ _ hf I (lv_sub hl [] rfl)
      · have hf := ifn c1 hf
        refine kx_iload_n 4 C dX5_isNoBox_4 (lv_at hl 1 rfl) ?_
        refine kx_aload_n 5 C dX5_isNoBox_5 (lv_at hl 0 rfl) ?_
        obtain ⟨q3, h2, hf⟩ := ob hf
        refine kx_getp 6 C I fl_X5_isNoBox_10 h2 dX5_isNoBox_6 ?_
        obtain ⟨x5, h4, hf⟩ := ob hf
        refine kx_geti 9 C I fl_X5_isNoBox_69 h4 dX5_isNoBox_9 ?_
        refine kx_icmp_lt 12 19 C dX5_isNoBox_12 (by decide) (fun c6 => ?_) (fun c6 => ?_)
        · have hf := ifp c6 hf
          refine kx_iconst 19 C dX5_isNoBox_19 ?_
          exact kx_zret 20 C I (by decide) hf dX5_isNoBox_20
        · have hf := ifn c6 hf
          exact ih1 _ _ _ _ _ _ hf I (lv_sub hl [] rfl)
    · intro S p0 i0 H locs ls hf I hl
      replace hf : b_X5_isNoBox_1 (g_X5_isNoBox fu) fu S p0 i0 = some (r, S') := hf
      unfold b_X5_isNoBox_1 at hf
      refine kx_iconst 15 C dX5_isNoBox_15 ?_
      refine kx_goto 16 20 C dX5_isNoBox_16 (by decide) ?_
      exact kx_zret 20 C I (by decide) hf dX5_isNoBox_20
set_option maxHeartbeats 4000000 in
set_option maxRecDepth 100000 in
theorem c_X5_isNoBox (G : xG) (l : Launch) (fu : Nat) (S S' : xS) (p0 : Nat) (i0 : Int) (r : Int) (hf : f_X5_isNoBox fu S p0 i0 = some (r, S')) : Met l yX5_isNoBox vsX5_isNoBox rm_X5_isNoBox (va_Pc [.ref (xB G + p0), .int (iI i0)] (xPre G S)) (xQi G r S') 0 0 (xA G) := by
  refine kx_met (ret := (some .boolean)) RX5 [(0, .ref (xB G + p0)), (1, .int (iI i0))] (by decide) rfl rfl (Nat.le_of_ble_eq_true rfl) rfl (fun p e s m below meth c ls C hin I hl => ?_)
  exact (w_X5_isNoBox C r S' fu).1 S _ _ _ _ _ hf I hl
def rm_X5_rule : Room := { frames := 1, cells := 0, slots := 0, locals := 21 }
theorem hin_X5_rule_RX1 : ∀ w ∈ wsX10, w ∈ vsX5_rule := fun w h => inM (inlX1 w h)
theorem hin_X5_rule_RX5 : ∀ w ∈ wsX50, w ∈ vsX5_rule := fun w h => inM (inlX5 w h)
theorem fl_X5_rule_10 : xFl vsX5_rule RX5 10 4 0 := ⟨RX5, TX5, 13, rfl, by decide, hin_X5_rule_RX5, inM mq_1_15, rfl⟩
theorem fl_X5_rule_90 : xFl vsX5_rule RX5 90 1 5 := ⟨RX1, TX1, 14, rfl, by decide, hin_X5_rule_RX1, inM mq_7_13, rfl⟩
theorem nyS_X5_rule : yX5_rule.cls ≠ "java/lang/invoke/MethodHandle" ∧ yX5_rule.cls ≠ "java/lang/invoke/VarHandle" ∧ (parseMethodDescriptor yX5_rule.desc).map (fun d => d.parameters.length) = some 2 := by decide +kernel
theorem nyV_X5_rule : yX5_rule.cls = RX5 ∧ yX5_rule.cls ≠ "java/lang/invoke/MethodHandle" ∧ yX5_rule.cls ≠ "java/lang/invoke/VarHandle" ∧ (parseMethodDescriptor yX5_rule.desc).map (fun d => d.parameters.length) = some 2 := by decide +kernel
set_option maxHeartbeats 4000000 in
set_option maxRecDepth 100000 in
theorem w_X5_rule {G : xG} {p : Program} {l : Launch} {e : Env} {s : State} {m : MethodId} {args : Array Value} {below : List Frame} {meth : Method} {c : Code} (C : xK G p s m args meth c cX5_rule 4 vsX5_rule RX5 (some .int)) (r : Int) (S' : xS) : ∀ k : Nat,
  (∀ (S : xS) (p0 : Nat) (i0 i1 : Int) (H : Heap) (locs : List Loc) (ls : Array Slot), g_X5_rule k 0 S p0 i0 i1 = some (r, S') → xI G S s H locs → lv_has ls 4 [(0, .ref (xB G + p0)), (1, .int (iI i0)), (2, .int (iI i1))] → W p l e rm_X5_rule s m args below meth c H locs 0 0 (MQ below (xQi G r S') args s 0 0 (xA G)) (F0 m 0 ls [])) ∧
  (∀ (S : xS) (p0 : Nat) (i0 i1 : Int) (H : Heap) (locs : List Loc) (ls : Array Slot), g_X5_rule k 1 S p0 i0 i1 = some (r, S') → xI G S s H locs → lv_has ls 4 [(0, .ref (xB G + p0))] → W p l e rm_X5_rule s m args below meth c H locs 0 0 (MQ below (xQi G r S') args s 0 0 (xA G)) (F0 m 18 ls [])) := by
  intro k
  induction k with
  | zero => exact ⟨fun _ _ _ _ _ _ _ hf => (by cases hf), fun _ _ _ _ _ _ _ hf => (by cases hf)⟩
  | succ fu ih =>
    obtain ⟨ih0, ih1⟩ := ih
    refine ⟨?_, ?_⟩
    · intro S p0 i0 i1 H locs ls hf I hl
      replace hf : b_X5_rule_0 (g_X5_rule fu) fu S p0 i0 i1 = some (r, S') := hf
      unfold b_X5_rule_0 at hf
      refine kx_aload_n 0 C dX5_rule_0 (lv_at hl 0 rfl) ?_
      refine kx_iload_n 1 C dX5_rule_1 (lv_at hl 1 rfl) ?_
      obtain ⟨h4, hf⟩ := ift hf
      obtain ⟨x3, S1, h2, hf⟩ := ob2 hf
      refine kx_callVi 2 C hl I (ci := 4) (As := [.int (iI i0)]) (rest := []) (c_X5_isNoBox G l fu _ _ _ _ _ h2) (cwV 1 C.ts gX5_rule_X5_isNoBox rfl rfl rfl nyV_X5_isNoBox ⟨Nat.le_of_ble_eq_true rfl, Nat.le_of_ble_eq_true rfl⟩) rfl h4 rfl rfl (Nat.le_of_ble_eq_true rfl) dX5_rule_2 ⟨Nat.le_of_ble_eq_true rfl, Nat.le_of_ble_eq_true rfl⟩ (fun H locs I => ?_)
      refine kx_if_ne 5 18 C dX5_rule_5 (by decide) (fun c5 => ?_) (fun c5 => ?_)
      · have hf := ifn c5 hf
        exact ih1 _ _ _ _ _ _ _ hf I (lv_sub hl [0] rfl)
      · have hf := ifp c5 hf
        refine kx_iload_n 8 C dX5_rule_8 (lv_at hl 2 rfl) ?_
        refine kx_if_lt 9 18 C dX5_rule_9 (by decide) (fun c6 => ?_) (fun c6 => ?_)
        · have hf := ifp c6 hf
          exact ih1 _ _ _ _ _ _ _ hf I (lv_sub hl [0] rfl)
        · have hf := ifn c6 hf
          refine kx_iload_n 12 C dX5_rule_12 (lv_at hl 2 rfl) ?_
          refine kx_bipush 13 C dX5_rule_13 (by decide) ?_
          refine kx_icmp_lt 15 23 C dX5_rule_15 (by decide) (fun c7 => ?_) (fun c7 => ?_)
          · have hf := ifp c7 hf
            refine kx_aload_n 23 C dX5_rule_23 (lv_at hl 0 rfl) ?_
            obtain ⟨q9, h8, hf⟩ := ob hf
            refine kx_getp 24 C I fl_X5_rule_10 h8 dX5_rule_24 ?_
            obtain ⟨q11, h10, hf⟩ := ob hf
            refine kx_getp 27 C I fl_X5_rule_90 h10 dX5_rule_27 ?_
            refine kx_iload_n 30 C dX5_rule_30 (lv_at hl 1 rfl) ?_
            obtain ⟨x12, h13, hf⟩ := ob hf
            refine kx_iald 31 C I h13 dX5_rule_31 ?_
            refine kx_istore_n 32 C (lv' := [(3, .int (iI x12)), (0, .ref (xB G + p0)), (1, .int (iI i0)), (2, .int (iI i1))]) dX5_rule_32 hl (by decide) rfl rfl (fun ls hl => ?_)
            refine kx_aload_n 33 C dX5_rule_33 (lv_at hl 1 rfl) ?_
            obtain ⟨q15, h14, hf⟩ := ob hf
            refine kx_getp 34 C I fl_X5_rule_10 h14 dX5_rule_34 ?_
            obtain ⟨q17, h16, hf⟩ := ob hf
            refine kx_getp 37 C I fl_X5_rule_90 h16 dX5_rule_37 ?_
            refine kx_iload_n 40 C dX5_rule_40 (lv_at hl 2 rfl) ?_
            refine kx_iload_n 41 C dX5_rule_41 (lv_at hl 3 rfl) ?_
            obtain ⟨S19, h18, hf⟩ := ob hf
            refine kx_iast 42 C I h18 dX5_rule_42 (fun H locs I => ?_)
            refine kx_iload_n 43 C dX5_rule_43 (lv_at hl 0 rfl) ?_
            exact kx_iret 44 C I hf dX5_rule_44
          · have hf := ifn c7 hf
            exact ih1 _ _ _ _ _ _ _ hf I (lv_sub hl [0] rfl)
    · intro S p0 i0 i1 H locs ls hf I hl
      replace hf : b_X5_rule_1 (g_X5_rule fu) fu S p0 i0 i1 = some (r, S') := hf
      unfold b_X5_rule_1 at hf
      refine kx_aload_n 18 C dX5_rule_18 (lv_at hl 0 rfl) ?_
      obtain ⟨h23, hf⟩ := ift hf
      obtain ⟨x22, S20, h21, hf⟩ := ob2 hf
      refine kx_callVi 19 C hl I (ci := 4) (As := []) (rest := []) (c_X5_refuseBad G l fu _ _ _ _ h21) (cwV 0 C.ts gX5_rule_X5_refuseBad rfl rfl rfl nyV_X5_refuseBad ⟨Nat.le_of_ble_eq_true rfl, Nat.le_of_ble_eq_true rfl⟩) rfl h23 rfl rfl (Nat.le_of_ble_eq_true rfl) dX5_rule_19 ⟨Nat.le_of_ble_eq_true rfl, Nat.le_of_ble_eq_true rfl⟩ (fun H locs I => ?_)
      exact kx_iret 22 C I hf dX5_rule_22
set_option maxHeartbeats 4000000 in
set_option maxRecDepth 100000 in
theorem c_X5_rule (G : xG) (l : Launch) (fu : Nat) (S S' : xS) (p0 : Nat) (i0 : Int) (i1 : Int) (r : Int) (hf : f_X5_rule fu S p0 i0 i1 = some (r, S')) : Met l yX5_rule vsX5_rule rm_X5_rule (va_Pc [.ref (xB G + p0), .int (iI i0), .int (iI i1)] (xPre G S)) (xQi G r S') 0 0 (xA G) := by
  refine kx_met (ret := (some .int)) RX5 [(0, .ref (xB G + p0)), (1, .int (iI i0)), (2, .int (iI i1))] (by decide) rfl rfl (Nat.le_of_ble_eq_true rfl) rfl (fun p e s m below meth c ls C hin I hl => ?_)
  exact (w_X5_rule C r S' fu).1 S _ _ _ _ _ _ hf I hl
def rm_X5_swap : Room := { frames := 4, cells := 0, slots := 0, locals := 85 }
theorem hin_X5_swap_RX1 : ∀ w ∈ wsX10, w ∈ vsX5_swap := fun w h => inM (inlX1 w h)
theorem hin_X5_swap_RX5 : ∀ w ∈ wsX50, w ∈ vsX5_swap := fun w h => inM (inlX5 w h)
theorem fl_X5_swap_10 : xFl vsX5_swap RX5 10 4 0 := ⟨RX5, TX5, 13, rfl, by decide, hin_X5_swap_RX5, inM mq_1_15, rfl⟩
theorem fl_X5_swap_96 : xFl vsX5_swap RX5 96 1 3 := ⟨RX1, TX1, 14, rfl, by decide, hin_X5_swap_RX1, inM mq_8_7, rfl⟩
theorem nyS_X5_swap : yX5_swap.cls ≠ "java/lang/invoke/MethodHandle" ∧ yX5_swap.cls ≠ "java/lang/invoke/VarHandle" ∧ (parseMethodDescriptor yX5_swap.desc).map (fun d => d.parameters.length) = some 2 := by decide +kernel
theorem nyV_X5_swap : yX5_swap.cls = RX5 ∧ yX5_swap.cls ≠ "java/lang/invoke/MethodHandle" ∧ yX5_swap.cls ≠ "java/lang/invoke/VarHandle" ∧ (parseMethodDescriptor yX5_swap.desc).map (fun d => d.parameters.length) = some 2 := by decide +kernel
set_option maxHeartbeats 4000000 in
set_option maxRecDepth 100000 in
theorem w_X5_swap {G : xG} {p : Program} {l : Launch} {e : Env} {s : State} {m : MethodId} {args : Array Value} {below : List Frame} {meth : Method} {c : Code} (C : xK G p s m args meth c cX5_swap 3 vsX5_swap RX5 (some .int)) (r : Int) (S' : xS) : ∀ k : Nat,
  (∀ (S : xS) (p0 : Nat) (i0 i1 : Int) (H : Heap) (locs : List Loc) (ls : Array Slot), g_X5_swap k 0 S p0 i0 i1 = some (r, S') → xI G S s H locs → lv_has ls 3 [(0, .ref (xB G + p0)), (1, .int (iI i0)), (2, .int (iI i1))] → W p l e rm_X5_swap s m args below meth c H locs 0 0 (MQ below (xQi G r S') args s 0 0 (xA G)) (F0 m 0 ls [])) ∧
  (∀ (S : xS) (p0 : Nat) (i0 i1 : Int) (H : Heap) (locs : List Loc) (ls : Array Slot), g_X5_swap k 1 S p0 i0 i1 = some (r, S') → xI G S s H locs → lv_has ls 3 [(0, .ref (xB G + p0))] → W p l e rm_X5_swap s m args below meth c H locs 0 0 (MQ below (xQi G r S') args s 0 0 (xA G)) (F0 m 21 ls [])) := by
  intro k
  induction k with
  | zero => exact ⟨fun _ _ _ _ _ _ _ hf => (by cases hf), fun _ _ _ _ _ _ _ hf => (by cases hf)⟩
  | succ fu ih =>
    obtain ⟨ih0, ih1⟩ := ih
    refine ⟨?_, ?_⟩
    · intro S p0 i0 i1 H locs ls hf I hl
      replace hf : b_X5_swap_0 (g_X5_swap fu) fu S p0 i0 i1 = some (r, S') := hf
      unfold b_X5_swap_0 at hf
      refine kx_aload_n 0 C dX5_swap_0 (lv_at hl 0 rfl) ?_
      refine kx_iload_n 1 C dX5_swap_1 (lv_at hl 1 rfl) ?_
      obtain ⟨h4, hf⟩ := ift hf
      obtain ⟨x3, S1, h2, hf⟩ := ob2 hf
      refine kx_callVi 2 C hl I (ci := 4) (As := [.int (iI i0)]) (rest := []) (c_X5_isNoBox G l fu _ _ _ _ _ h2) (cwV 1 C.ts gX5_swap_X5_isNoBox rfl rfl rfl nyV_X5_isNoBox ⟨Nat.le_of_ble_eq_true rfl, Nat.le_of_ble_eq_true rfl⟩) rfl h4 rfl rfl (Nat.le_of_ble_eq_true rfl) dX5_swap_2 ⟨Nat.le_of_ble_eq_true rfl, Nat.le_of_ble_eq_true rfl⟩ (fun H locs I => ?_)
      refine kx_if_ne 5 21 C dX5_swap_5 (by decide) (fun c5 => ?_) (fun c5 => ?_)
      · have hf := ifn c5 hf
        exact ih1 _ _ _ _ _ _ _ hf I (lv_sub hl [0] rfl)
      · have hf := ifp c5 hf
        refine kx_aload_n 8 C dX5_swap_8 (lv_at hl 0 rfl) ?_
        refine kx_iload_n 9 C dX5_swap_9 (lv_at hl 2 rfl) ?_
        obtain ⟨h9, hf⟩ := ift hf
        obtain ⟨x8, S6, h7, hf⟩ := ob2 hf
        refine kx_callVi 10 C hl I (ci := 4) (As := [.int (iI i1)]) (rest := []) (c_X5_isNoBox G l fu _ _ _ _ _ h7) (cwV 1 C.ts gX5_swap_X5_isNoBox rfl rfl rfl nyV_X5_isNoBox ⟨Nat.le_of_ble_eq_true rfl, Nat.le_of_ble_eq_true rfl⟩) rfl h9 rfl rfl (Nat.le_of_ble_eq_true rfl) dX5_swap_10 ⟨Nat.le_of_ble_eq_true rfl, Nat.le_of_ble_eq_true rfl⟩ (fun H locs I => ?_)
        refine kx_if_ne 13 21 C dX5_swap_13 (by decide) (fun c10 => ?_) (fun c10 => ?_)
        · have hf := ifn c10 hf
          exact ih1 _ _ _ _ _ _ _ hf I (lv_sub hl [0] rfl)
        · have hf := ifp c10 hf
          refine kx_iload_n 16 C dX5_swap_16 (lv_at hl 1 rfl) ?_
          refine kx_iload_n 17 C dX5_swap_17 (lv_at hl 2 rfl) ?_
          refine kx_icmp_ne 18 26 C dX5_swap_18 (by decide) (fun c11 => ?_) (fun c11 => ?_)
          · have hf := ifn c11 hf
            refine kx_aload_n 26 C dX5_swap_26 (lv_at hl 0 rfl) ?_
            obtain ⟨q13, h12, hf⟩ := ob hf
            refine kx_getp 27 C I fl_X5_swap_10 h12 dX5_swap_27 ?_
            obtain ⟨h17, hf⟩ := ift hf
            obtain ⟨z16, S14, h15, hf⟩ := ob2 hf
            refine kx_callVv 30 C hl I (ci := 1) (As := []) (rest := []) (c_X1_keepPast G l fu _ _ _ _ h15) (cwV 0 C.ts gX5_swap_X1_keepPast rfl rfl rfl nyV_X1_keepPast ⟨Nat.le_of_ble_eq_true rfl, Nat.le_of_ble_eq_true rfl⟩) rfl h17 rfl rfl (Nat.le_of_ble_eq_true rfl) dX5_swap_30 ⟨Nat.le_of_ble_eq_true rfl, Nat.le_of_ble_eq_true rfl⟩ (fun H locs I => ?_)
            refine kx_aload_n 33 C dX5_swap_33 (lv_at hl 0 rfl) ?_
            obtain ⟨q19, h18, hf⟩ := ob hf
            refine kx_getp 34 C I fl_X5_swap_10 h18 dX5_swap_34 ?_
            obtain ⟨q21, h20, hf⟩ := ob hf
            refine kx_getp 37 C I fl_X5_swap_96 h20 dX5_swap_37 ?_
            refine kx_iload_n 40 C dX5_swap_40 (lv_at hl 1 rfl) ?_
            refine kx_iload_n 41 C dX5_swap_41 (lv_at hl 2 rfl) ?_
            obtain ⟨z24, S22, h23, hf⟩ := ob2 hf
            refine kx_callSv 42 C hl I (As := [.ref (xB G + q21), .int (iI i0), .int (iI i1)]) (rest := []) (c_X4_exchange G l fu _ _ _ _ _ _ h23) (va_cwS 3 C.ts gX5_swap_X4_exchange rfl rfl rfl nyS_X4_exchange ⟨Nat.le_of_ble_eq_true rfl, Nat.le_of_ble_eq_true rfl⟩) rfl rfl (Nat.le_of_ble_eq_true rfl) dX5_swap_42 ⟨Nat.le_of_ble_eq_true rfl, Nat.le_of_ble_eq_true rfl⟩ (fun H locs I => ?_)
            refine kx_iconst 45 C dX5_swap_45 ?_
            exact kx_iret 46 C I hf dX5_swap_46
          · have hf := ifp c11 hf
            exact ih1 _ _ _ _ _ _ _ hf I (lv_sub hl [0] rfl)
    · intro S p0 i0 i1 H locs ls hf I hl
      replace hf : b_X5_swap_1 (g_X5_swap fu) fu S p0 i0 i1 = some (r, S') := hf
      unfold b_X5_swap_1 at hf
      refine kx_aload_n 21 C dX5_swap_21 (lv_at hl 0 rfl) ?_
      obtain ⟨h28, hf⟩ := ift hf
      obtain ⟨x27, S25, h26, hf⟩ := ob2 hf
      refine kx_callVi 22 C hl I (ci := 4) (As := []) (rest := []) (c_X5_refuseBad G l fu _ _ _ _ h26) (cwV 0 C.ts gX5_swap_X5_refuseBad rfl rfl rfl nyV_X5_refuseBad ⟨Nat.le_of_ble_eq_true rfl, Nat.le_of_ble_eq_true rfl⟩) rfl h28 rfl rfl (Nat.le_of_ble_eq_true rfl) dX5_swap_22 ⟨Nat.le_of_ble_eq_true rfl, Nat.le_of_ble_eq_true rfl⟩ (fun H locs I => ?_)
      exact kx_iret 25 C I hf dX5_swap_25
set_option maxHeartbeats 4000000 in
set_option maxRecDepth 100000 in
theorem c_X5_swap (G : xG) (l : Launch) (fu : Nat) (S S' : xS) (p0 : Nat) (i0 : Int) (i1 : Int) (r : Int) (hf : f_X5_swap fu S p0 i0 i1 = some (r, S')) : Met l yX5_swap vsX5_swap rm_X5_swap (va_Pc [.ref (xB G + p0), .int (iI i0), .int (iI i1)] (xPre G S)) (xQi G r S') 0 0 (xA G) := by
  refine kx_met (ret := (some .int)) RX5 [(0, .ref (xB G + p0)), (1, .int (iI i0)), (2, .int (iI i1))] (by decide) rfl rfl (Nat.le_of_ble_eq_true rfl) rfl (fun p e s m below meth c ls C hin I hl => ?_)
  exact (w_X5_swap C r S' fu).1 S _ _ _ _ _ _ hf I hl
def rm_X5_isNoRank : Room := { frames := 0, cells := 0, slots := 0, locals := 0 }
theorem hin_X5_isNoRank_RX1 : ∀ w ∈ wsX10, w ∈ vsX5_isNoRank := fun w h => inM (inlX1 w h)
theorem hin_X5_isNoRank_RX5 : ∀ w ∈ wsX50, w ∈ vsX5_isNoRank := fun w h => inM (inlX5 w h)
theorem fl_X5_isNoRank_10 : xFl vsX5_isNoRank RX5 10 4 0 := ⟨RX5, TX5, 13, rfl, by decide, hin_X5_isNoRank_RX5, inM mq_1_15, rfl⟩
theorem fl_X5_isNoRank_69 : xFl vsX5_isNoRank RX5 69 1 0 := ⟨RX1, TX1, 14, rfl, by decide, hin_X5_isNoRank_RX1, inM mq_5_19, rfl⟩
theorem mw_X5_isNoRank_0 : Cond.fieldLink RX5 201 "BoxRings" "WAYS_OF" "[I" ∈ vsX5_isNoRank := inM mq_10_21
theorem nyS_X5_isNoRank : yX5_isNoRank.cls ≠ "java/lang/invoke/MethodHandle" ∧ yX5_isNoRank.cls ≠ "java/lang/invoke/VarHandle" ∧ (parseMethodDescriptor yX5_isNoRank.desc).map (fun d => d.parameters.length) = some 1 := by decide +kernel
theorem nyV_X5_isNoRank : yX5_isNoRank.cls = RX5 ∧ yX5_isNoRank.cls ≠ "java/lang/invoke/MethodHandle" ∧ yX5_isNoRank.cls ≠ "java/lang/invoke/VarHandle" ∧ (parseMethodDescriptor yX5_isNoRank.desc).map (fun d => d.parameters.length) = some 1 := by decide +kernel
set_option maxHeartbeats 4000000 in
set_option maxRecDepth 100000 in
theorem w_X5_isNoRank {G : xG} {p : Program} {l : Launch} {e : Env} {s : State} {m : MethodId} {args : Array Value} {below : List Frame} {meth : Method} {c : Code} (C : xK G p s m args meth c cX5_isNoRank 2 vsX5_isNoRank RX5 (some .boolean)) (r : Int) (S' : xS) : ∀ k : Nat,
  (∀ (S : xS) (p0 : Nat) (i0 : Int) (H : Heap) (locs : List Loc) (ls : Array Slot), g_X5_isNoRank k 0 S p0 i0 = some (r, S') → xI G S s H locs → lv_has ls 2 [(0, .ref (xB G + p0)), (1, .int (iI i0))] → W p l e rm_X5_isNoRank s m args below meth c H locs 0 0 (MQ below (xQi G r S') args s 0 0 (xA G)) (F0 m 0 ls [])) ∧
  (∀ (S : xS) (p0 : Nat) (i0 : Int) (H : Heap) (locs : List Loc) (ls : Array Slot), g_X5_isNoRank k 1 S p0 i0 = some (r, S') → xI G S s H locs → lv_has ls 2 [] → W p l e rm_X5_isNoRank s m args below meth c H locs 0 0 (MQ below (xQi G r S') args s 0 0 (xA G)) (F0 m 19 ls [])) := by
  intro k
  induction k with
  | zero => exact ⟨fun _ _ _ _ _ _ hf => (by cases hf), fun _ _ _ _ _ _ hf => (by cases hf)⟩
  | succ fu ih =>
    obtain ⟨ih0, ih1⟩ := ih
    refine ⟨?_, ?_⟩
    · intro S p0 i0 H locs ls hf I hl
      replace hf : b_X5_isNoRank_0 (g_X5_isNoRank fu) fu S p0 i0 = some (r, S') := hf
      unfold b_X5_isNoRank_0 at hf
      refine kx_iload_n 0 C dX5_isNoRank_0 (lv_at hl 1 rfl) ?_
      refine kx_if_lt 1 19 C dX5_isNoRank_1 (by decide) (fun c1 => ?_) (fun c1 => ?_)
      · have hf := ifp c1 hf
        exact ih1 _ _ _ _ _ _ hf I (lv_sub hl [] rfl)
      · have hf := ifn c1 hf
        refine kx_iload_n 4 C dX5_isNoRank_4 (lv_at hl 1 rfl) ?_
        refine kx_gets 5 C I mw_X5_isNoRank_0 dX5_isNoRank_5 ?_
        refine kx_aload_n 8 C dX5_isNoRank_8 (lv_at hl 0 rfl) ?_
        obtain ⟨q3, h2, hf⟩ := ob hf
        refine kx_getp 9 C I fl_X5_isNoRank_10 h2 dX5_isNoRank_9 ?_
        obtain ⟨x5, h4, hf⟩ := ob hf
        refine kx_geti 12 C I fl_X5_isNoRank_69 h4 dX5_isNoRank_12 ?_
        obtain ⟨x6, h7, hf⟩ := ob hf
        refine kx_tab 15 C I h7 dX5_isNoRank_15 ?_
        refine kx_icmp_lt 16 23 C dX5_isNoRank_16 (by decide) (fun c8 => ?_) (fun c8 => ?_)
        · have hf := ifp c8 hf
          refine kx_iconst 23 C dX5_isNoRank_23 ?_
          exact kx_zret 24 C I (by decide) hf dX5_isNoRank_24
        · have hf := ifn c8 hf
          exact ih1 _ _ _ _ _ _ hf I (lv_sub hl [] rfl)
    · intro S p0 i0 H locs ls hf I hl
      replace hf : b_X5_isNoRank_1 (g_X5_isNoRank fu) fu S p0 i0 = some (r, S') := hf
      unfold b_X5_isNoRank_1 at hf
      refine kx_iconst 19 C dX5_isNoRank_19 ?_
      refine kx_goto 20 24 C dX5_isNoRank_20 (by decide) ?_
      exact kx_zret 24 C I (by decide) hf dX5_isNoRank_24
set_option maxHeartbeats 4000000 in
set_option maxRecDepth 100000 in
theorem c_X5_isNoRank (G : xG) (l : Launch) (fu : Nat) (S S' : xS) (p0 : Nat) (i0 : Int) (r : Int) (hf : f_X5_isNoRank fu S p0 i0 = some (r, S')) : Met l yX5_isNoRank vsX5_isNoRank rm_X5_isNoRank (va_Pc [.ref (xB G + p0), .int (iI i0)] (xPre G S)) (xQi G r S') 0 0 (xA G) := by
  refine kx_met (ret := (some .boolean)) RX5 [(0, .ref (xB G + p0)), (1, .int (iI i0))] (by decide) rfl rfl (Nat.le_of_ble_eq_true rfl) rfl (fun p e s m below meth c ls C hin I hl => ?_)
  exact (w_X5_isNoRank C r S' fu).1 S _ _ _ _ _ hf I hl
def rm_X5_lay : Room := { frames := 4, cells := 0, slots := 0, locals := 85 }
theorem hin_X5_lay_RX1 : ∀ w ∈ wsX10, w ∈ vsX5_lay := fun w h => inM (inlX1 w h)
theorem hin_X5_lay_RX5 : ∀ w ∈ wsX50, w ∈ vsX5_lay := fun w h => inM (inlX5 w h)
theorem fl_X5_lay_10 : xFl vsX5_lay RX5 10 4 0 := ⟨RX5, TX5, 13, rfl, by decide, hin_X5_lay_RX5, inM mq_1_15, rfl⟩
theorem fl_X5_lay_69 : xFl vsX5_lay RX5 69 1 0 := ⟨RX1, TX1, 14, rfl, by decide, hin_X5_lay_RX1, inM mq_5_19, rfl⟩
theorem fl_X5_lay_96 : xFl vsX5_lay RX5 96 1 3 := ⟨RX1, TX1, 14, rfl, by decide, hin_X5_lay_RX1, inM mq_8_7, rfl⟩
theorem nyS_X5_lay : yX5_lay.cls ≠ "java/lang/invoke/MethodHandle" ∧ yX5_lay.cls ≠ "java/lang/invoke/VarHandle" ∧ (parseMethodDescriptor yX5_lay.desc).map (fun d => d.parameters.length) = some 1 := by decide +kernel
theorem nyV_X5_lay : yX5_lay.cls = RX5 ∧ yX5_lay.cls ≠ "java/lang/invoke/MethodHandle" ∧ yX5_lay.cls ≠ "java/lang/invoke/VarHandle" ∧ (parseMethodDescriptor yX5_lay.desc).map (fun d => d.parameters.length) = some 1 := by decide +kernel
set_option maxHeartbeats 4000000 in
set_option maxRecDepth 100000 in
theorem c_X5_lay (G : xG) (l : Launch) (fu : Nat) (S S' : xS) (p0 : Nat) (i0 : Int) (r : Int) (hf : f_X5_lay fu S p0 i0 = some (r, S')) : Met l yX5_lay vsX5_lay rm_X5_lay (va_Pc [.ref (xB G + p0), .int (iI i0)] (xPre G S)) (xQi G r S') 0 0 (xA G) := by
  refine kx_met (ret := (some .int)) RX5 [(0, .ref (xB G + p0)), (1, .int (iI i0))] (by decide) rfl rfl (Nat.le_of_ble_eq_true rfl) rfl (fun p e s m below meth c ls C hin I hl => ?_)
  unfold f_X5_lay at hf
  refine kx_aload_n 0 C dX5_lay_0 (lv_at hl 0 rfl) ?_
  refine kx_iload_n 1 C dX5_lay_1 (lv_at hl 1 rfl) ?_
  obtain ⟨h4, hf⟩ := ift hf
  obtain ⟨x3, S1, h2, hf⟩ := ob2 hf
  refine kx_callVi 2 C hl I (ci := 4) (As := [.int (iI i0)]) (rest := []) (c_X5_isNoRank G l fu _ _ _ _ _ h2) (cwV 1 C.ts gX5_lay_X5_isNoRank rfl rfl rfl nyV_X5_isNoRank ⟨Nat.le_of_ble_eq_true rfl, Nat.le_of_ble_eq_true rfl⟩) rfl h4 rfl rfl (Nat.le_of_ble_eq_true rfl) dX5_lay_2 ⟨Nat.le_of_ble_eq_true rfl, Nat.le_of_ble_eq_true rfl⟩ (fun H locs I => ?_)
  refine kx_if_eq 5 13 C dX5_lay_5 (by decide) (fun c5 => ?_) (fun c5 => ?_)
  · have hf := ifp c5 hf
    refine kx_aload_n 13 C dX5_lay_13 (lv_at hl 0 rfl) ?_
    obtain ⟨q7, h6, hf⟩ := ob hf
    refine kx_getp 14 C I fl_X5_lay_10 h6 dX5_lay_14 ?_
    obtain ⟨h11, hf⟩ := ift hf
    obtain ⟨x10, S8, h9, hf⟩ := ob2 hf
    refine kx_callVi 17 C hl I (ci := 1) (As := []) (rest := []) (c_X1_rankNow G l fu _ _ _ _ h9) (cwV 0 C.ts gX5_lay_X1_rankNow rfl rfl rfl nyV_X1_rankNow ⟨Nat.le_of_ble_eq_true rfl, Nat.le_of_ble_eq_true rfl⟩) rfl h11 rfl rfl (Nat.le_of_ble_eq_true rfl) dX5_lay_17 ⟨Nat.le_of_ble_eq_true rfl, Nat.le_of_ble_eq_true rfl⟩ (fun H locs I => ?_)
    refine kx_istore_n 20 C (lv' := [(2, .int (iI x10)), (0, .ref (xB G + p0)), (1, .int (iI i0))]) dX5_lay_20 hl (by decide) rfl rfl (fun ls hl => ?_)
    refine kx_aload_n 21 C dX5_lay_21 (lv_at hl 1 rfl) ?_
    obtain ⟨q13, h12, hf⟩ := ob hf
    refine kx_getp 22 C I fl_X5_lay_10 h12 dX5_lay_22 ?_
    obtain ⟨h17, hf⟩ := ift hf
    obtain ⟨z16, S14, h15, hf⟩ := ob2 hf
    refine kx_callVv 25 C hl I (ci := 1) (As := []) (rest := []) (c_X1_keepPast G l fu _ _ _ _ h15) (cwV 0 C.ts gX5_lay_X1_keepPast rfl rfl rfl nyV_X1_keepPast ⟨Nat.le_of_ble_eq_true rfl, Nat.le_of_ble_eq_true rfl⟩) rfl h17 rfl rfl (Nat.le_of_ble_eq_true rfl) dX5_lay_25 ⟨Nat.le_of_ble_eq_true rfl, Nat.le_of_ble_eq_true rfl⟩ (fun H locs I => ?_)
    refine kx_aload_n 28 C dX5_lay_28 (lv_at hl 1 rfl) ?_
    obtain ⟨q19, h18, hf⟩ := ob hf
    refine kx_getp 29 C I fl_X5_lay_10 h18 dX5_lay_29 ?_
    obtain ⟨q21, h20, hf⟩ := ob hf
    refine kx_getp 32 C I fl_X5_lay_96 h20 dX5_lay_32 ?_
    refine kx_aload_n 35 C dX5_lay_35 (lv_at hl 1 rfl) ?_
    obtain ⟨q23, h22, hf⟩ := ob hf
    refine kx_getp 36 C I fl_X5_lay_10 h22 dX5_lay_36 ?_
    obtain ⟨x25, h24, hf⟩ := ob hf
    refine kx_geti 39 C I fl_X5_lay_69 h24 dX5_lay_39 ?_
    refine kx_iload_n 42 C dX5_lay_42 (lv_at hl 2 rfl) ?_
    obtain ⟨z28, S26, h27, hf⟩ := ob2 hf
    refine kx_callSv 43 C hl I (As := [.ref (xB G + q21), .int (iI x25), .int (iI i0)]) (rest := []) (c_X4_setToRank G l fu _ _ _ _ _ _ h27) (va_cwS 3 C.ts gX5_lay_X4_setToRank rfl rfl rfl nyS_X4_setToRank ⟨Nat.le_of_ble_eq_true rfl, Nat.le_of_ble_eq_true rfl⟩) rfl rfl (Nat.le_of_ble_eq_true rfl) dX5_lay_43 ⟨Nat.le_of_ble_eq_true rfl, Nat.le_of_ble_eq_true rfl⟩ (fun H locs I => ?_)
    refine kx_iload_n 46 C dX5_lay_46 (lv_at hl 0 rfl) ?_
    exact kx_iret 47 C I hf dX5_lay_47
  · have hf := ifn c5 hf
    refine kx_aload_n 8 C dX5_lay_8 (lv_at hl 0 rfl) ?_
    obtain ⟨h32, hf⟩ := ift hf
    obtain ⟨x31, S29, h30, hf⟩ := ob2 hf
    refine kx_callVi 9 C hl I (ci := 4) (As := []) (rest := []) (c_X5_refuseBad G l fu _ _ _ _ h30) (cwV 0 C.ts gX5_lay_X5_refuseBad rfl rfl rfl nyV_X5_refuseBad ⟨Nat.le_of_ble_eq_true rfl, Nat.le_of_ble_eq_true rfl⟩) rfl h32 rfl rfl (Nat.le_of_ble_eq_true rfl) dX5_lay_9 ⟨Nat.le_of_ble_eq_true rfl, Nat.le_of_ble_eq_true rfl⟩ (fun H locs I => ?_)
    exact kx_iret 12 C I hf dX5_lay_12
def rm_X5_refuseNo : Room := { frames := 0, cells := 0, slots := 0, locals := 0 }
theorem hin_X5_refuseNo_RX5 : ∀ w ∈ wsX50, w ∈ vsX5_refuseNo := fun w h => inM (inlX5 w h)
theorem fl_X5_refuseNo_59 : xFl vsX5_refuseNo RX5 59 4 11 := ⟨RX5, TX5, 13, rfl, by decide, hin_X5_refuseNo_RX5, inM mq_2_9, rfl⟩
theorem nyS_X5_refuseNo : yX5_refuseNo.cls ≠ "java/lang/invoke/MethodHandle" ∧ yX5_refuseNo.cls ≠ "java/lang/invoke/VarHandle" ∧ (parseMethodDescriptor yX5_refuseNo.desc).map (fun d => d.parameters.length) = some 0 := by decide +kernel
theorem nyV_X5_refuseNo : yX5_refuseNo.cls = RX5 ∧ yX5_refuseNo.cls ≠ "java/lang/invoke/MethodHandle" ∧ yX5_refuseNo.cls ≠ "java/lang/invoke/VarHandle" ∧ (parseMethodDescriptor yX5_refuseNo.desc).map (fun d => d.parameters.length) = some 0 := by decide +kernel
set_option maxHeartbeats 4000000 in
set_option maxRecDepth 100000 in
theorem c_X5_refuseNo (G : xG) (l : Launch) (fu : Nat) (S S' : xS) (p0 : Nat) (r : Int) (hf : f_X5_refuseNo fu S p0 = some (r, S')) : Met l yX5_refuseNo vsX5_refuseNo rm_X5_refuseNo (va_Pc [.ref (xB G + p0)] (xPre G S)) (xQi G r S') 0 0 (xA G) := by
  refine kx_met (ret := (some .int)) RX5 [(0, .ref (xB G + p0))] (by decide) rfl rfl (Nat.le_of_ble_eq_true rfl) rfl (fun p e s m below meth c ls C hin I hl => ?_)
  unfold f_X5_refuseNo at hf
  refine kx_aload_n 0 C dX5_refuseNo_0 (lv_at hl 0 rfl) ?_
  refine kx_dup 1 C dX5_refuseNo_1 rfl ?_
  obtain ⟨x2, h1, hf⟩ := ob hf
  refine kx_geti 2 C I fl_X5_refuseNo_59 h1 dX5_refuseNo_2 ?_
  refine kx_iconst 5 C dX5_refuseNo_5 ?_
  refine kx_iadd 6 C dX5_refuseNo_6 ?_
  obtain ⟨S4, h3, hf⟩ := ob hf
  refine kx_puti 7 C I fl_X5_refuseNo_59 fw_RX5_11 h3 dX5_refuseNo_7 (fun H locs I => ?_)
  refine kx_bipush 10 C dX5_refuseNo_10 (by decide) ?_
  exact kx_iret 12 C I hf dX5_refuseNo_12
def rm_X5_undo : Room := { frames := 3, cells := 0, slots := 0, locals := 71 }
theorem hin_X5_undo_RX1 : ∀ w ∈ wsX10, w ∈ vsX5_undo := fun w h => inM (inlX1 w h)
theorem hin_X5_undo_RX5 : ∀ w ∈ wsX50, w ∈ vsX5_undo := fun w h => inM (inlX5 w h)
theorem fl_X5_undo_10 : xFl vsX5_undo RX5 10 4 0 := ⟨RX5, TX5, 13, rfl, by decide, hin_X5_undo_RX5, inM mq_1_15, rfl⟩
theorem fl_X5_undo_114 : xFl vsX5_undo RX5 114 1 11 := ⟨RX1, TX1, 14, rfl, by decide, hin_X5_undo_RX1, inM mq_11_21, rfl⟩
theorem nyS_X5_undo : yX5_undo.cls ≠ "java/lang/invoke/MethodHandle" ∧ yX5_undo.cls ≠ "java/lang/invoke/VarHandle" ∧ (parseMethodDescriptor yX5_undo.desc).map (fun d => d.parameters.length) = some 0 := by decide +kernel
theorem nyV_X5_undo : yX5_undo.cls = RX5 ∧ yX5_undo.cls ≠ "java/lang/invoke/MethodHandle" ∧ yX5_undo.cls ≠ "java/lang/invoke/VarHandle" ∧ (parseMethodDescriptor yX5_undo.desc).map (fun d => d.parameters.length) = some 0 := by decide +kernel
set_option maxHeartbeats 4000000 in
set_option maxRecDepth 100000 in
theorem c_X5_undo (G : xG) (l : Launch) (fu : Nat) (S S' : xS) (p0 : Nat) (r : Int) (hf : f_X5_undo fu S p0 = some (r, S')) : Met l yX5_undo vsX5_undo rm_X5_undo (va_Pc [.ref (xB G + p0)] (xPre G S)) (xQi G r S') 0 0 (xA G) := by
  refine kx_met (ret := (some .int)) RX5 [(0, .ref (xB G + p0))] (by decide) rfl rfl (Nat.le_of_ble_eq_true rfl) rfl (fun p e s m below meth c ls C hin I hl => ?_)
  unfold f_X5_undo at hf
  refine kx_aload_n 0 C dX5_undo_0 (lv_at hl 0 rfl) ?_
  obtain ⟨q2, h1, hf⟩ := ob hf
  refine kx_getp 1 C I fl_X5_undo_10 h1 dX5_undo_1 ?_
  obtain ⟨x4, h3, hf⟩ := ob hf
  refine kx_geti 4 C I fl_X5_undo_114 h3 dX5_undo_4 ?_
  refine kx_if_ne 7 15 C dX5_undo_7 (by decide) (fun c5 => ?_) (fun c5 => ?_)
  · have hf := ifn c5 hf
    refine kx_aload_n 15 C dX5_undo_15 (lv_at hl 0 rfl) ?_
    obtain ⟨q7, h6, hf⟩ := ob hf
    refine kx_getp 16 C I fl_X5_undo_10 h6 dX5_undo_16 ?_
    obtain ⟨h11, hf⟩ := ift hf
    obtain ⟨z10, S8, h9, hf⟩ := ob2 hf
    refine kx_callVv 19 C hl I (ci := 1) (As := []) (rest := []) (c_X1_goBack G l fu _ _ _ _ h9) (cwV 0 C.ts gX5_undo_X1_goBack rfl rfl rfl nyV_X1_goBack ⟨Nat.le_of_ble_eq_true rfl, Nat.le_of_ble_eq_true rfl⟩) rfl h11 rfl rfl (Nat.le_of_ble_eq_true rfl) dX5_undo_19 ⟨Nat.le_of_ble_eq_true rfl, Nat.le_of_ble_eq_true rfl⟩ (fun H locs I => ?_)
    refine kx_iconst 22 C dX5_undo_22 ?_
    exact kx_iret 23 C I hf dX5_undo_23
  · have hf := ifp c5 hf
    refine kx_aload_n 10 C dX5_undo_10 (lv_at hl 0 rfl) ?_
    obtain ⟨h15, hf⟩ := ift hf
    obtain ⟨x14, S12, h13, hf⟩ := ob2 hf
    refine kx_callVi 11 C hl I (ci := 4) (As := []) (rest := []) (c_X5_refuseNo G l fu _ _ _ _ h13) (cwV 0 C.ts gX5_undo_X5_refuseNo rfl rfl rfl nyV_X5_refuseNo ⟨Nat.le_of_ble_eq_true rfl, Nat.le_of_ble_eq_true rfl⟩) rfl h15 rfl rfl (Nat.le_of_ble_eq_true rfl) dX5_undo_11 ⟨Nat.le_of_ble_eq_true rfl, Nat.le_of_ble_eq_true rfl⟩ (fun H locs I => ?_)
    exact kx_iret 14 C I hf dX5_undo_14
def rm_X5_know : Room := { frames := 1, cells := 0, slots := 0, locals := 22 }
theorem hin_X5_know_RX1 : ∀ w ∈ wsX10, w ∈ vsX5_know := fun w h => inM (inlX1 w h)
theorem hin_X5_know_RX5 : ∀ w ∈ wsX50, w ∈ vsX5_know := fun w h => inM (inlX5 w h)
theorem fl_X5_know_10 : xFl vsX5_know RX5 10 4 0 := ⟨RX5, TX5, 13, rfl, by decide, hin_X5_know_RX5, inM mq_1_15, rfl⟩
theorem fl_X5_know_123 : xFl vsX5_know RX5 123 1 4 := ⟨RX1, TX1, 14, rfl, by decide, hin_X5_know_RX1, inM mq_12_19, rfl⟩
theorem nyS_X5_know : yX5_know.cls ≠ "java/lang/invoke/MethodHandle" ∧ yX5_know.cls ≠ "java/lang/invoke/VarHandle" ∧ (parseMethodDescriptor yX5_know.desc).map (fun d => d.parameters.length) = some 2 := by decide +kernel
theorem nyV_X5_know : yX5_know.cls = RX5 ∧ yX5_know.cls ≠ "java/lang/invoke/MethodHandle" ∧ yX5_know.cls ≠ "java/lang/invoke/VarHandle" ∧ (parseMethodDescriptor yX5_know.desc).map (fun d => d.parameters.length) = some 2 := by decide +kernel
set_option maxHeartbeats 4000000 in
set_option maxRecDepth 100000 in
theorem w_X5_know {G : xG} {p : Program} {l : Launch} {e : Env} {s : State} {m : MethodId} {args : Array Value} {below : List Frame} {meth : Method} {c : Code} (C : xK G p s m args meth c cX5_know 3 vsX5_know RX5 (some .int)) (r : Int) (S' : xS) : ∀ k : Nat,
  (∀ (S : xS) (p0 : Nat) (i0 i1 : Int) (H : Heap) (locs : List Loc) (ls : Array Slot), g_X5_know k 0 S p0 i0 i1 = some (r, S') → xI G S s H locs → lv_has ls 3 [(0, .ref (xB G + p0)), (1, .int (iI i0)), (2, .int (iI i1))] → W p l e rm_X5_know s m args below meth c H locs 0 0 (MQ below (xQi G r S') args s 0 0 (xA G)) (F0 m 0 ls [])) ∧
  (∀ (S : xS) (p0 : Nat) (i0 i1 : Int) (H : Heap) (locs : List Loc) (ls : Array Slot), g_X5_know k 1 S p0 i0 i1 = some (r, S') → xI G S s H locs → lv_has ls 3 [(0, .ref (xB G + p0))] → W p l e rm_X5_know s m args below meth c H locs 0 0 (MQ below (xQi G r S') args s 0 0 (xA G)) (F0 m 16 ls [])) ∧
  (∀ (S : xS) (p0 : Nat) (i0 i1 : Int) (H : Heap) (locs : List Loc) (ls : Array Slot), g_X5_know k 2 S p0 i0 i1 = some (r, S') → xI G S s H locs → lv_has ls 3 [(0, .ref (xB G + p0))] → W p l e rm_X5_know s m args below meth c H locs 0 0 (MQ below (xQi G r S') args s 0 0 (xA G)) (F0 m 45 ls [])) := by
  intro k
  induction k with
  | zero => exact ⟨fun _ _ _ _ _ _ _ hf => (by cases hf), fun _ _ _ _ _ _ _ hf => (by cases hf), fun _ _ _ _ _ _ _ hf => (by cases hf)⟩
  | succ fu ih =>
    obtain ⟨ih0, ih1, ih2⟩ := ih
    refine ⟨?_, ?_, ?_⟩
    · intro S p0 i0 i1 H locs ls hf I hl
      replace hf : b_X5_know_0 (g_X5_know fu) fu S p0 i0 i1 = some (r, S') := hf
      unfold b_X5_know_0 at hf
      refine kx_aload_n 0 C dX5_know_0 (lv_at hl 0 rfl) ?_
      refine kx_iload_n 1 C dX5_know_1 (lv_at hl 1 rfl) ?_
      obtain ⟨h4, hf⟩ := ift hf
      obtain ⟨x3, S1, h2, hf⟩ := ob2 hf
      refine kx_callVi 2 C hl I (ci := 4) (As := [.int (iI i0)]) (rest := []) (c_X5_isNoBox G l fu _ _ _ _ _ h2) (cwV 1 C.ts gX5_know_X5_isNoBox rfl rfl rfl nyV_X5_isNoBox ⟨Nat.le_of_ble_eq_true rfl, Nat.le_of_ble_eq_true rfl⟩) rfl h4 rfl rfl (Nat.le_of_ble_eq_true rfl) dX5_know_2 ⟨Nat.le_of_ble_eq_true rfl, Nat.le_of_ble_eq_true rfl⟩ (fun H locs I => ?_)
      refine kx_if_ne 5 16 C dX5_know_5 (by decide) (fun c5 => ?_) (fun c5 => ?_)
      · have hf := ifn c5 hf
        exact ih1 _ _ _ _ _ _ _ hf I (lv_sub hl [0] rfl)
      · have hf := ifp c5 hf
        refine kx_aload_n 8 C dX5_know_8 (lv_at hl 0 rfl) ?_
        refine kx_iload_n 9 C dX5_know_9 (lv_at hl 2 rfl) ?_
        obtain ⟨h9, hf⟩ := ift hf
        obtain ⟨x8, S6, h7, hf⟩ := ob2 hf
        refine kx_callVi 10 C hl I (ci := 4) (As := [.int (iI i1)]) (rest := []) (c_X5_isNoBox G l fu _ _ _ _ _ h7) (cwV 1 C.ts gX5_know_X5_isNoBox rfl rfl rfl nyV_X5_isNoBox ⟨Nat.le_of_ble_eq_true rfl, Nat.le_of_ble_eq_true rfl⟩) rfl h9 rfl rfl (Nat.le_of_ble_eq_true rfl) dX5_know_10 ⟨Nat.le_of_ble_eq_true rfl, Nat.le_of_ble_eq_true rfl⟩ (fun H locs I => ?_)
        refine kx_if_eq 13 21 C dX5_know_13 (by decide) (fun c10 => ?_) (fun c10 => ?_)
        · have hf := ifp c10 hf
          refine kx_aload_n 21 C dX5_know_21 (lv_at hl 0 rfl) ?_
          obtain ⟨q12, h11, hf⟩ := ob hf
          refine kx_getp 22 C I fl_X5_know_10 h11 dX5_know_22 ?_
          obtain ⟨q14, h13, hf⟩ := ob hf
          refine kx_getp 25 C I fl_X5_know_123 h13 dX5_know_25 ?_
          refine kx_iload_n 28 C dX5_know_28 (lv_at hl 1 rfl) ?_
          obtain ⟨x15, h16, hf⟩ := ob hf
          refine kx_iald 29 C I h16 dX5_know_29 ?_
          refine kx_iconst 30 C dX5_know_30 ?_
          refine kx_icmp_ne 31 45 C dX5_know_31 (by decide) (fun c17 => ?_) (fun c17 => ?_)
          · have hf := ifn c17 hf
            exact ih2 _ _ _ _ _ _ _ hf I (lv_sub hl [0] rfl)
          · have hf := ifp c17 hf
            refine kx_aload_n 34 C dX5_know_34 (lv_at hl 0 rfl) ?_
            obtain ⟨q19, h18, hf⟩ := ob hf
            refine kx_getp 35 C I fl_X5_know_10 h18 dX5_know_35 ?_
            refine kx_iload_n 38 C dX5_know_38 (lv_at hl 2 rfl) ?_
            obtain ⟨h23, hf⟩ := ift hf
            obtain ⟨x22, S20, h21, hf⟩ := ob2 hf
            refine kx_callVi 39 C hl I (ci := 1) (As := [.int (iI i1)]) (rest := []) (c_X1_isKnownSlip G l fu _ _ _ _ _ h21) (cwV 1 C.ts gX5_know_X1_isKnownSlip rfl rfl rfl nyV_X1_isKnownSlip ⟨Nat.le_of_ble_eq_true rfl, Nat.le_of_ble_eq_true rfl⟩) rfl h23 rfl rfl (Nat.le_of_ble_eq_true rfl) dX5_know_39 ⟨Nat.le_of_ble_eq_true rfl, Nat.le_of_ble_eq_true rfl⟩ (fun H locs I => ?_)
            refine kx_if_eq 42 50 C dX5_know_42 (by decide) (fun c24 => ?_) (fun c24 => ?_)
            · have hf := ifp c24 hf
              refine kx_aload_n 50 C dX5_know_50 (lv_at hl 0 rfl) ?_
              obtain ⟨q26, h25, hf⟩ := ob hf
              refine kx_getp 51 C I fl_X5_know_10 h25 dX5_know_51 ?_
              obtain ⟨q28, h27, hf⟩ := ob hf
              refine kx_getp 54 C I fl_X5_know_123 h27 dX5_know_54 ?_
              refine kx_iload_n 57 C dX5_know_57 (lv_at hl 1 rfl) ?_
              refine kx_iload_n 58 C dX5_know_58 (lv_at hl 2 rfl) ?_
              obtain ⟨S30, h29, hf⟩ := ob hf
              refine kx_iast 59 C I h29 dX5_know_59 (fun H locs I => ?_)
              refine kx_iconst 60 C dX5_know_60 ?_
              exact kx_iret 61 C I hf dX5_know_61
            · have hf := ifn c24 hf
              exact ih2 _ _ _ _ _ _ _ hf I (lv_sub hl [0] rfl)
        · have hf := ifn c10 hf
          exact ih1 _ _ _ _ _ _ _ hf I (lv_sub hl [0] rfl)
    · intro S p0 i0 i1 H locs ls hf I hl
      replace hf : b_X5_know_1 (g_X5_know fu) fu S p0 i0 i1 = some (r, S') := hf
      unfold b_X5_know_1 at hf
      refine kx_aload_n 16 C dX5_know_16 (lv_at hl 0 rfl) ?_
      obtain ⟨h34, hf⟩ := ift hf
      obtain ⟨x33, S31, h32, hf⟩ := ob2 hf
      refine kx_callVi 17 C hl I (ci := 4) (As := []) (rest := []) (c_X5_refuseBad G l fu _ _ _ _ h32) (cwV 0 C.ts gX5_know_X5_refuseBad rfl rfl rfl nyV_X5_refuseBad ⟨Nat.le_of_ble_eq_true rfl, Nat.le_of_ble_eq_true rfl⟩) rfl h34 rfl rfl (Nat.le_of_ble_eq_true rfl) dX5_know_17 ⟨Nat.le_of_ble_eq_true rfl, Nat.le_of_ble_eq_true rfl⟩ (fun H locs I => ?_)
      exact kx_iret 20 C I hf dX5_know_20
    · intro S p0 i0 i1 H locs ls hf I hl
      replace hf : b_X5_know_2 (g_X5_know fu) fu S p0 i0 i1 = some (r, S') := hf
      unfold b_X5_know_2 at hf
      refine kx_aload_n 45 C dX5_know_45 (lv_at hl 0 rfl) ?_
      obtain ⟨h38, hf⟩ := ift hf
      obtain ⟨x37, S35, h36, hf⟩ := ob2 hf
      refine kx_callVi 46 C hl I (ci := 4) (As := []) (rest := []) (c_X5_refuseNo G l fu _ _ _ _ h36) (cwV 0 C.ts gX5_know_X5_refuseNo rfl rfl rfl nyV_X5_refuseNo ⟨Nat.le_of_ble_eq_true rfl, Nat.le_of_ble_eq_true rfl⟩) rfl h38 rfl rfl (Nat.le_of_ble_eq_true rfl) dX5_know_46 ⟨Nat.le_of_ble_eq_true rfl, Nat.le_of_ble_eq_true rfl⟩ (fun H locs I => ?_)
      exact kx_iret 49 C I hf dX5_know_49
set_option maxHeartbeats 4000000 in
set_option maxRecDepth 100000 in
theorem c_X5_know (G : xG) (l : Launch) (fu : Nat) (S S' : xS) (p0 : Nat) (i0 : Int) (i1 : Int) (r : Int) (hf : f_X5_know fu S p0 i0 i1 = some (r, S')) : Met l yX5_know vsX5_know rm_X5_know (va_Pc [.ref (xB G + p0), .int (iI i0), .int (iI i1)] (xPre G S)) (xQi G r S') 0 0 (xA G) := by
  refine kx_met (ret := (some .int)) RX5 [(0, .ref (xB G + p0)), (1, .int (iI i0)), (2, .int (iI i1))] (by decide) rfl rfl (Nat.le_of_ble_eq_true rfl) rfl (fun p e s m below meth c ls C hin I hl => ?_)
  exact (w_X5_know C r S' fu).1 S _ _ _ _ _ _ hf I hl
def rm_X5_refuseFull : Room := { frames := 0, cells := 0, slots := 0, locals := 0 }
theorem hin_X5_refuseFull_RX5 : ∀ w ∈ wsX50, w ∈ vsX5_refuseFull := fun w h => inM (inlX5 w h)
theorem fl_X5_refuseFull_62 : xFl vsX5_refuseFull RX5 62 4 12 := ⟨RX5, TX5, 13, rfl, by decide, hin_X5_refuseFull_RX5, inM mq_2_10, rfl⟩
theorem nyS_X5_refuseFull : yX5_refuseFull.cls ≠ "java/lang/invoke/MethodHandle" ∧ yX5_refuseFull.cls ≠ "java/lang/invoke/VarHandle" ∧ (parseMethodDescriptor yX5_refuseFull.desc).map (fun d => d.parameters.length) = some 0 := by decide +kernel
theorem nyV_X5_refuseFull : yX5_refuseFull.cls = RX5 ∧ yX5_refuseFull.cls ≠ "java/lang/invoke/MethodHandle" ∧ yX5_refuseFull.cls ≠ "java/lang/invoke/VarHandle" ∧ (parseMethodDescriptor yX5_refuseFull.desc).map (fun d => d.parameters.length) = some 0 := by decide +kernel
set_option maxHeartbeats 4000000 in
set_option maxRecDepth 100000 in
theorem c_X5_refuseFull (G : xG) (l : Launch) (fu : Nat) (S S' : xS) (p0 : Nat) (r : Int) (hf : f_X5_refuseFull fu S p0 = some (r, S')) : Met l yX5_refuseFull vsX5_refuseFull rm_X5_refuseFull (va_Pc [.ref (xB G + p0)] (xPre G S)) (xQi G r S') 0 0 (xA G) := by
  refine kx_met (ret := (some .int)) RX5 [(0, .ref (xB G + p0))] (by decide) rfl rfl (Nat.le_of_ble_eq_true rfl) rfl (fun p e s m below meth c ls C hin I hl => ?_)
  unfold f_X5_refuseFull at hf
  refine kx_aload_n 0 C dX5_refuseFull_0 (lv_at hl 0 rfl) ?_
  refine kx_dup 1 C dX5_refuseFull_1 rfl ?_
  obtain ⟨x2, h1, hf⟩ := ob hf
  refine kx_geti 2 C I fl_X5_refuseFull_62 h1 dX5_refuseFull_2 ?_
  refine kx_iconst 5 C dX5_refuseFull_5 ?_
  refine kx_iadd 6 C dX5_refuseFull_6 ?_
  obtain ⟨S4, h3, hf⟩ := ob hf
  refine kx_puti 7 C I fl_X5_refuseFull_62 fw_RX5_12 h3 dX5_refuseFull_7 (fun H locs I => ?_)
  refine kx_bipush 10 C dX5_refuseFull_10 (by decide) ?_
  exact kx_iret 12 C I hf dX5_refuseFull_12
def rm_X5_report : Room := { frames := 1, cells := 0, slots := 0, locals := 22 }
theorem hin_X5_report_RX1 : ∀ w ∈ wsX10, w ∈ vsX5_report := fun w h => inM (inlX1 w h)
theorem hin_X5_report_RX5 : ∀ w ∈ wsX50, w ∈ vsX5_report := fun w h => inM (inlX5 w h)
theorem fl_X5_report_10 : xFl vsX5_report RX5 10 4 0 := ⟨RX5, TX5, 13, rfl, by decide, hin_X5_report_RX5, inM mq_1_15, rfl⟩
theorem fl_X5_report_69 : xFl vsX5_report RX5 69 1 0 := ⟨RX1, TX1, 14, rfl, by decide, hin_X5_report_RX1, inM mq_5_19, rfl⟩
theorem fl_X5_report_129 : xFl vsX5_report RX5 129 1 6 := ⟨RX1, TX1, 14, rfl, by decide, hin_X5_report_RX1, inM mq_13_11, rfl⟩
theorem nyS_X5_report : yX5_report.cls ≠ "java/lang/invoke/MethodHandle" ∧ yX5_report.cls ≠ "java/lang/invoke/VarHandle" ∧ (parseMethodDescriptor yX5_report.desc).map (fun d => d.parameters.length) = some 2 := by decide +kernel
theorem nyV_X5_report : yX5_report.cls = RX5 ∧ yX5_report.cls ≠ "java/lang/invoke/MethodHandle" ∧ yX5_report.cls ≠ "java/lang/invoke/VarHandle" ∧ (parseMethodDescriptor yX5_report.desc).map (fun d => d.parameters.length) = some 2 := by decide +kernel
set_option maxHeartbeats 4000000 in
set_option maxRecDepth 100000 in
theorem w_X5_report {G : xG} {p : Program} {l : Launch} {e : Env} {s : State} {m : MethodId} {args : Array Value} {below : List Frame} {meth : Method} {c : Code} (C : xK G p s m args meth c cX5_report 3 vsX5_report RX5 (some .int)) (r : Int) (S' : xS) : ∀ k : Nat,
  (∀ (S : xS) (p0 : Nat) (i0 i1 : Int) (H : Heap) (locs : List Loc) (ls : Array Slot), g_X5_report k 0 S p0 i0 i1 = some (r, S') → xI G S s H locs → lv_has ls 3 [(0, .ref (xB G + p0)), (1, .int (iI i0)), (2, .int (iI i1))] → W p l e rm_X5_report s m args below meth c H locs 0 0 (MQ below (xQi G r S') args s 0 0 (xA G)) (F0 m 0 ls [])) ∧
  (∀ (S : xS) (p0 : Nat) (i0 i1 : Int) (H : Heap) (locs : List Loc) (ls : Array Slot), g_X5_report k 1 S p0 i0 i1 = some (r, S') → xI G S s H locs → lv_has ls 3 [(0, .ref (xB G + p0))] → W p l e rm_X5_report s m args below meth c H locs 0 0 (MQ below (xQi G r S') args s 0 0 (xA G)) (F0 m 23 ls [])) := by
  intro k
  induction k with
  | zero => exact ⟨fun _ _ _ _ _ _ _ hf => (by cases hf), fun _ _ _ _ _ _ _ hf => (by cases hf)⟩
  | succ fu ih =>
    obtain ⟨ih0, ih1⟩ := ih
    refine ⟨?_, ?_⟩
    · intro S p0 i0 i1 H locs ls hf I hl
      replace hf : b_X5_report_0 (g_X5_report fu) fu S p0 i0 i1 = some (r, S') := hf
      unfold b_X5_report_0 at hf
      refine kx_aload_n 0 C dX5_report_0 (lv_at hl 0 rfl) ?_
      refine kx_iload_n 1 C dX5_report_1 (lv_at hl 1 rfl) ?_
      obtain ⟨h4, hf⟩ := ift hf
      obtain ⟨x3, S1, h2, hf⟩ := ob2 hf
      refine kx_callVi 2 C hl I (ci := 4) (As := [.int (iI i0)]) (rest := []) (c_X5_isNoBox G l fu _ _ _ _ _ h2) (cwV 1 C.ts gX5_report_X5_isNoBox rfl rfl rfl nyV_X5_isNoBox ⟨Nat.le_of_ble_eq_true rfl, Nat.le_of_ble_eq_true rfl⟩) rfl h4 rfl rfl (Nat.le_of_ble_eq_true rfl) dX5_report_2 ⟨Nat.le_of_ble_eq_true rfl, Nat.le_of_ble_eq_true rfl⟩ (fun H locs I => ?_)
      refine kx_if_ne 5 23 C dX5_report_5 (by decide) (fun c5 => ?_) (fun c5 => ?_)
      · have hf := ifn c5 hf
        exact ih1 _ _ _ _ _ _ _ hf I (lv_sub hl [0] rfl)
      · have hf := ifp c5 hf
        refine kx_iload_n 8 C dX5_report_8 (lv_at hl 2 rfl) ?_
        refine kx_if_lt 9 23 C dX5_report_9 (by decide) (fun c6 => ?_) (fun c6 => ?_)
        · have hf := ifp c6 hf
          exact ih1 _ _ _ _ _ _ _ hf I (lv_sub hl [0] rfl)
        · have hf := ifn c6 hf
          refine kx_iload_n 12 C dX5_report_12 (lv_at hl 2 rfl) ?_
          refine kx_aload_n 13 C dX5_report_13 (lv_at hl 0 rfl) ?_
          obtain ⟨q8, h7, hf⟩ := ob hf
          refine kx_getp 14 C I fl_X5_report_10 h7 dX5_report_14 ?_
          obtain ⟨x10, h9, hf⟩ := ob hf
          refine kx_geti 17 C I fl_X5_report_69 h9 dX5_report_17 ?_
          refine kx_icmp_le 20 28 C dX5_report_20 (by decide) (fun c11 => ?_) (fun c11 => ?_)
          · have hf := ifp c11 hf
            refine kx_aload_n 28 C dX5_report_28 (lv_at hl 0 rfl) ?_
            obtain ⟨q13, h12, hf⟩ := ob hf
            refine kx_getp 29 C I fl_X5_report_10 h12 dX5_report_29 ?_
            obtain ⟨x15, h14, hf⟩ := ob hf
            refine kx_geti 32 C I fl_X5_report_129 h14 dX5_report_32 ?_
            refine kx_bipush 35 C dX5_report_35 (by decide) ?_
            refine kx_icmp_lt 37 45 C dX5_report_37 (by decide) (fun c16 => ?_) (fun c16 => ?_)
            · have hf := ifp c16 hf
              refine kx_aload_n 45 C dX5_report_45 (lv_at hl 0 rfl) ?_
              obtain ⟨q18, h17, hf⟩ := ob hf
              refine kx_getp 46 C I fl_X5_report_10 h17 dX5_report_46 ?_
              refine kx_iload_n 49 C dX5_report_49 (lv_at hl 1 rfl) ?_
              refine kx_iload_n 50 C dX5_report_50 (lv_at hl 2 rfl) ?_
              obtain ⟨h22, hf⟩ := ift hf
              obtain ⟨x21, S19, h20, hf⟩ := ob2 hf
              refine kx_callVi 51 C hl I (ci := 1) (As := [.int (iI i0), .int (iI i1)]) (rest := []) (c_X1_addReport G l fu _ _ _ _ _ _ h20) (cwV 2 C.ts gX5_report_X1_addReport rfl rfl rfl nyV_X1_addReport ⟨Nat.le_of_ble_eq_true rfl, Nat.le_of_ble_eq_true rfl⟩) rfl h22 rfl rfl (Nat.le_of_ble_eq_true rfl) dX5_report_51 ⟨Nat.le_of_ble_eq_true rfl, Nat.le_of_ble_eq_true rfl⟩ (fun H locs I => ?_)
              exact kx_iret 54 C I hf dX5_report_54
            · have hf := ifn c16 hf
              refine kx_aload_n 40 C dX5_report_40 (lv_at hl 0 rfl) ?_
              obtain ⟨h26, hf⟩ := ift hf
              obtain ⟨x25, S23, h24, hf⟩ := ob2 hf
              refine kx_callVi 41 C hl I (ci := 4) (As := []) (rest := []) (c_X5_refuseFull G l fu _ _ _ _ h24) (cwV 0 C.ts gX5_report_X5_refuseFull rfl rfl rfl nyV_X5_refuseFull ⟨Nat.le_of_ble_eq_true rfl, Nat.le_of_ble_eq_true rfl⟩) rfl h26 rfl rfl (Nat.le_of_ble_eq_true rfl) dX5_report_41 ⟨Nat.le_of_ble_eq_true rfl, Nat.le_of_ble_eq_true rfl⟩ (fun H locs I => ?_)
              exact kx_iret 44 C I hf dX5_report_44
          · have hf := ifn c11 hf
            exact ih1 _ _ _ _ _ _ _ hf I (lv_sub hl [0] rfl)
    · intro S p0 i0 i1 H locs ls hf I hl
      replace hf : b_X5_report_1 (g_X5_report fu) fu S p0 i0 i1 = some (r, S') := hf
      unfold b_X5_report_1 at hf
      refine kx_aload_n 23 C dX5_report_23 (lv_at hl 0 rfl) ?_
      obtain ⟨h30, hf⟩ := ift hf
      obtain ⟨x29, S27, h28, hf⟩ := ob2 hf
      refine kx_callVi 24 C hl I (ci := 4) (As := []) (rest := []) (c_X5_refuseBad G l fu _ _ _ _ h28) (cwV 0 C.ts gX5_report_X5_refuseBad rfl rfl rfl nyV_X5_refuseBad ⟨Nat.le_of_ble_eq_true rfl, Nat.le_of_ble_eq_true rfl⟩) rfl h30 rfl rfl (Nat.le_of_ble_eq_true rfl) dX5_report_24 ⟨Nat.le_of_ble_eq_true rfl, Nat.le_of_ble_eq_true rfl⟩ (fun H locs I => ?_)
      exact kx_iret 27 C I hf dX5_report_27
set_option maxHeartbeats 4000000 in
set_option maxRecDepth 100000 in
theorem c_X5_report (G : xG) (l : Launch) (fu : Nat) (S S' : xS) (p0 : Nat) (i0 : Int) (i1 : Int) (r : Int) (hf : f_X5_report fu S p0 i0 i1 = some (r, S')) : Met l yX5_report vsX5_report rm_X5_report (va_Pc [.ref (xB G + p0), .int (iI i0), .int (iI i1)] (xPre G S)) (xQi G r S') 0 0 (xA G) := by
  refine kx_met (ret := (some .int)) RX5 [(0, .ref (xB G + p0)), (1, .int (iI i0)), (2, .int (iI i1))] (by decide) rfl rfl (Nat.le_of_ble_eq_true rfl) rfl (fun p e s m below meth c ls C hin I hl => ?_)
  exact (w_X5_report C r S' fu).1 S _ _ _ _ _ _ hf I hl
def rm_X5_forget : Room := { frames := 1, cells := 0, slots := 0, locals := 23 }
theorem hin_X5_forget_RX1 : ∀ w ∈ wsX10, w ∈ vsX5_forget := fun w h => inM (inlX1 w h)
theorem hin_X5_forget_RX5 : ∀ w ∈ wsX50, w ∈ vsX5_forget := fun w h => inM (inlX5 w h)
theorem fl_X5_forget_10 : xFl vsX5_forget RX5 10 4 0 := ⟨RX5, TX5, 13, rfl, by decide, hin_X5_forget_RX5, inM mq_1_15, rfl⟩
theorem fl_X5_forget_123 : xFl vsX5_forget RX5 123 1 4 := ⟨RX1, TX1, 14, rfl, by decide, hin_X5_forget_RX1, inM mq_12_19, rfl⟩
theorem fl_X5_forget_129 : xFl vsX5_forget RX5 129 1 6 := ⟨RX1, TX1, 14, rfl, by decide, hin_X5_forget_RX1, inM mq_13_11, rfl⟩
theorem nyS_X5_forget : yX5_forget.cls ≠ "java/lang/invoke/MethodHandle" ∧ yX5_forget.cls ≠ "java/lang/invoke/VarHandle" ∧ (parseMethodDescriptor yX5_forget.desc).map (fun d => d.parameters.length) = some 1 := by decide +kernel
theorem nyV_X5_forget : yX5_forget.cls = RX5 ∧ yX5_forget.cls ≠ "java/lang/invoke/MethodHandle" ∧ yX5_forget.cls ≠ "java/lang/invoke/VarHandle" ∧ (parseMethodDescriptor yX5_forget.desc).map (fun d => d.parameters.length) = some 1 := by decide +kernel
set_option maxHeartbeats 4000000 in
set_option maxRecDepth 100000 in
theorem c_X5_forget (G : xG) (l : Launch) (fu : Nat) (S S' : xS) (p0 : Nat) (i0 : Int) (r : Int) (hf : f_X5_forget fu S p0 i0 = some (r, S')) : Met l yX5_forget vsX5_forget rm_X5_forget (va_Pc [.ref (xB G + p0), .int (iI i0)] (xPre G S)) (xQi G r S') 0 0 (xA G) := by
  refine kx_met (ret := (some .int)) RX5 [(0, .ref (xB G + p0)), (1, .int (iI i0))] (by decide) rfl rfl (Nat.le_of_ble_eq_true rfl) rfl (fun p e s m below meth c ls C hin I hl => ?_)
  unfold f_X5_forget at hf
  refine kx_iload_n 0 C dX5_forget_0 (lv_at hl 1 rfl) ?_
  refine kx_if_ne 1 25 C dX5_forget_1 (by decide) (fun c1 => ?_) (fun c1 => ?_)
  · have hf := ifn c1 hf
    refine kx_iload_n 25 C dX5_forget_25 (lv_at hl 1 rfl) ?_
    refine kx_iconst 26 C dX5_forget_26 ?_
    refine kx_icmp_ne 27 48 C dX5_forget_27 (by decide) (fun c2 => ?_) (fun c2 => ?_)
    · have hf := ifn c2 hf
      refine kx_aload_n 48 C dX5_forget_48 (lv_at hl 0 rfl) ?_
      obtain ⟨h6, hf⟩ := ift hf
      obtain ⟨x5, S3, h4, hf⟩ := ob2 hf
      refine kx_callVi 49 C hl I (ci := 4) (As := []) (rest := []) (c_X5_refuseBad G l fu _ _ _ _ h4) (cwV 0 C.ts gX5_forget_X5_refuseBad rfl rfl rfl nyV_X5_refuseBad ⟨Nat.le_of_ble_eq_true rfl, Nat.le_of_ble_eq_true rfl⟩) rfl h6 rfl rfl (Nat.le_of_ble_eq_true rfl) dX5_forget_49 ⟨Nat.le_of_ble_eq_true rfl, Nat.le_of_ble_eq_true rfl⟩ (fun H locs I => ?_)
      exact kx_iret 52 C I hf dX5_forget_52
    · have hf := ifp c2 hf
      refine kx_aload_n 30 C dX5_forget_30 (lv_at hl 0 rfl) ?_
      obtain ⟨q8, h7, hf⟩ := ob hf
      refine kx_getp 31 C I fl_X5_forget_10 h7 dX5_forget_31 ?_
      obtain ⟨x10, h9, hf⟩ := ob hf
      refine kx_geti 34 C I fl_X5_forget_129 h9 dX5_forget_34 ?_
      refine kx_istore_n 37 C (lv' := [(2, .int (iI x10)), (0, .ref (xB G + p0)), (1, .int (iI i0))]) dX5_forget_37 hl (by decide) rfl rfl (fun ls hl => ?_)
      refine kx_aload_n 38 C dX5_forget_38 (lv_at hl 1 rfl) ?_
      obtain ⟨q12, h11, hf⟩ := ob hf
      refine kx_getp 39 C I fl_X5_forget_10 h11 dX5_forget_39 ?_
      refine kx_iconst 42 C dX5_forget_42 ?_
      obtain ⟨S14, h13, hf⟩ := ob hf
      refine kx_puti 43 C I fl_X5_forget_129 fw_RX1_6 h13 dX5_forget_43 (fun H locs I => ?_)
      refine kx_iload_n 46 C dX5_forget_46 (lv_at hl 0 rfl) ?_
      exact kx_iret 47 C I hf dX5_forget_47
  · have hf := ifp c1 hf
    refine kx_aload_n 4 C dX5_forget_4 (lv_at hl 0 rfl) ?_
    obtain ⟨q16, h15, hf⟩ := ob hf
    refine kx_getp 5 C I fl_X5_forget_10 h15 dX5_forget_5 ?_
    obtain ⟨h20, hf⟩ := ift hf
    obtain ⟨x19, S17, h18, hf⟩ := ob2 hf
    refine kx_callVi 8 C hl I (ci := 1) (As := []) (rest := []) (c_X1_knownCount G l fu _ _ _ _ h18) (cwV 0 C.ts gX5_forget_X1_knownCount rfl rfl rfl nyV_X1_knownCount ⟨Nat.le_of_ble_eq_true rfl, Nat.le_of_ble_eq_true rfl⟩) rfl h20 rfl rfl (Nat.le_of_ble_eq_true rfl) dX5_forget_8 ⟨Nat.le_of_ble_eq_true rfl, Nat.le_of_ble_eq_true rfl⟩ (fun H locs I => ?_)
    refine kx_istore_n 11 C (lv' := [(2, .int (iI x19)), (0, .ref (xB G + p0)), (1, .int (iI i0))]) dX5_forget_11 hl (by decide) rfl rfl (fun ls hl => ?_)
    refine kx_aload_n 12 C dX5_forget_12 (lv_at hl 1 rfl) ?_
    obtain ⟨q22, h21, hf⟩ := ob hf
    refine kx_getp 13 C I fl_X5_forget_10 h21 dX5_forget_13 ?_
    obtain ⟨q24, h23, hf⟩ := ob hf
    refine kx_getp 16 C I fl_X5_forget_123 h23 dX5_forget_16 ?_
    refine kx_iconst 19 C dX5_forget_19 ?_
    obtain ⟨z27, S25, h26, hf⟩ := ob2 hf
    refine kx_callSv 20 C hl I (As := [.ref (xB G + q24), .int (iI ((-1)))]) (rest := []) (c_J7_fill_53178 G l fu _ _ _ _ _ h26) (va_cwS 2 C.ts gX5_forget_J7_fill_53178 rfl rfl rfl nyS_J7_fill_53178 ⟨Nat.le_of_ble_eq_true rfl, Nat.le_of_ble_eq_true rfl⟩) rfl rfl (Nat.le_of_ble_eq_true rfl) dX5_forget_20 ⟨Nat.le_of_ble_eq_true rfl, Nat.le_of_ble_eq_true rfl⟩ (fun H locs I => ?_)
    refine kx_iload_n 23 C dX5_forget_23 (lv_at hl 0 rfl) ?_
    exact kx_iret 24 C I hf dX5_forget_24
def rm_X5_type : Room := { frames := 1, cells := 0, slots := 0, locals := 20 }
theorem hin_X5_type_RX3 : ∀ w ∈ wsX30, w ∈ vsX5_type := fun w h => inM (inlX3 w h)
theorem hin_X5_type_RX5 : ∀ w ∈ wsX50, w ∈ vsX5_type := fun w h => inM (inlX5 w h)
theorem fl_X5_type_26 : xFl vsX5_type RX5 26 4 3 := ⟨RX5, TX5, 13, rfl, by decide, hin_X5_type_RX5, inM mq_1_21, rfl⟩
theorem fl_X5_type_148 : xFl vsX5_type RX5 148 3 1 := ⟨RX3, TX3, 6, rfl, by decide, hin_X5_type_RX3, inM mq_15_4, rfl⟩
theorem fl_X5_type_151 : xFl vsX5_type RX5 151 3 0 := ⟨RX3, TX3, 6, rfl, by decide, hin_X5_type_RX3, inM mq_15_5, rfl⟩
theorem nyS_X5_type : yX5_type.cls ≠ "java/lang/invoke/MethodHandle" ∧ yX5_type.cls ≠ "java/lang/invoke/VarHandle" ∧ (parseMethodDescriptor yX5_type.desc).map (fun d => d.parameters.length) = some 1 := by decide +kernel
theorem nyV_X5_type : yX5_type.cls = RX5 ∧ yX5_type.cls ≠ "java/lang/invoke/MethodHandle" ∧ yX5_type.cls ≠ "java/lang/invoke/VarHandle" ∧ (parseMethodDescriptor yX5_type.desc).map (fun d => d.parameters.length) = some 1 := by decide +kernel
set_option maxHeartbeats 4000000 in
set_option maxRecDepth 100000 in
theorem w_X5_type {G : xG} {p : Program} {l : Launch} {e : Env} {s : State} {m : MethodId} {args : Array Value} {below : List Frame} {meth : Method} {c : Code} (C : xK G p s m args meth c cX5_type 2 vsX5_type RX5 (some .int)) (r : Int) (S' : xS) : ∀ k : Nat,
  (∀ (S : xS) (p0 : Nat) (i0 : Int) (H : Heap) (locs : List Loc) (ls : Array Slot), g_X5_type k 0 S p0 i0 = some (r, S') → xI G S s H locs → lv_has ls 2 [(0, .ref (xB G + p0)), (1, .int (iI i0))] → W p l e rm_X5_type s m args below meth c H locs 0 0 (MQ below (xQi G r S') args s 0 0 (xA G)) (F0 m 0 ls [])) ∧
  (∀ (S : xS) (p0 : Nat) (i0 : Int) (H : Heap) (locs : List Loc) (ls : Array Slot), g_X5_type k 1 S p0 i0 = some (r, S') → xI G S s H locs → lv_has ls 2 [(0, .ref (xB G + p0))] → W p l e rm_X5_type s m args below meth c H locs 0 0 (MQ below (xQi G r S') args s 0 0 (xA G)) (F0 m 10 ls [])) := by
  intro k
  induction k with
  | zero => exact ⟨fun _ _ _ _ _ _ hf => (by cases hf), fun _ _ _ _ _ _ hf => (by cases hf)⟩
  | succ fu ih =>
    obtain ⟨ih0, ih1⟩ := ih
    refine ⟨?_, ?_⟩
    · intro S p0 i0 H locs ls hf I hl
      replace hf : b_X5_type_0 (g_X5_type fu) fu S p0 i0 = some (r, S') := hf
      unfold b_X5_type_0 at hf
      refine kx_iload_n 0 C dX5_type_0 (lv_at hl 1 rfl) ?_
      refine kx_if_lt 1 10 C dX5_type_1 (by decide) (fun c1 => ?_) (fun c1 => ?_)
      · have hf := ifp c1 hf
        exact ih1 _ _ _ _ _ _ hf I (lv_sub hl [0] rfl)
      · have hf := ifn c1 hf
        refine kx_iload_n 4 C dX5_type_4 (lv_at hl 1 rfl) ?_
        refine kx_bipush 5 C dX5_type_5 (by decide) ?_
        refine kx_icmp_le 7 15 C dX5_type_7 (by decide) (fun c2 => ?_) (fun c2 => ?_)
        · have hf := ifp c2 hf
          refine kx_aload_n 15 C dX5_type_15 (lv_at hl 0 rfl) ?_
          obtain ⟨q4, h3, hf⟩ := ob hf
          refine kx_getp 16 C I fl_X5_type_26 h3 dX5_type_16 ?_
          obtain ⟨x6, h5, hf⟩ := ob hf
          refine kx_geti 19 C I fl_X5_type_148 h5 dX5_type_19 ?_
          refine kx_sipush 22 C dX5_type_22 (by decide) ?_
          refine kx_icmp_lt 25 33 C dX5_type_25 (by decide) (fun c7 => ?_) (fun c7 => ?_)
          · have hf := ifp c7 hf
            refine kx_aload_n 33 C dX5_type_33 (lv_at hl 0 rfl) ?_
            obtain ⟨q9, h8, hf⟩ := ob hf
            refine kx_getp 34 C I fl_X5_type_26 h8 dX5_type_34 ?_
            obtain ⟨q11, h10, hf⟩ := ob hf
            refine kx_getp 37 C I fl_X5_type_151 h10 dX5_type_37 ?_
            refine kx_aload_n 40 C dX5_type_40 (lv_at hl 0 rfl) ?_
            obtain ⟨q13, h12, hf⟩ := ob hf
            refine kx_getp 41 C I fl_X5_type_26 h12 dX5_type_41 ?_
            obtain ⟨x15, h14, hf⟩ := ob hf
            refine kx_geti 44 C I fl_X5_type_148 h14 dX5_type_44 ?_
            refine kx_iload_n 47 C dX5_type_47 (lv_at hl 1 rfl) ?_
            refine kx_i2b 48 C dX5_type_48 ?_
            obtain ⟨h18, hf⟩ := ift hf
            obtain ⟨S17, h16, hf⟩ := ob hf
            refine kx_bast 49 C I h18 h16 dX5_type_49 (fun H locs I => ?_)
            refine kx_aload_n 50 C dX5_type_50 (lv_at hl 0 rfl) ?_
            obtain ⟨q20, h19, hf⟩ := ob hf
            refine kx_getp 51 C I fl_X5_type_26 h19 dX5_type_51 ?_
            refine kx_dup 54 C dX5_type_54 rfl ?_
            obtain ⟨x22, h21, hf⟩ := ob hf
            refine kx_geti 55 C I fl_X5_type_148 h21 dX5_type_55 ?_
            refine kx_iconst 58 C dX5_type_58 ?_
            refine kx_iadd 59 C dX5_type_59 ?_
            obtain ⟨S24, h23, hf⟩ := ob hf
            refine kx_puti 60 C I fl_X5_type_148 fw_RX3_1 h23 dX5_type_60 (fun H locs I => ?_)
            refine kx_aload_n 63 C dX5_type_63 (lv_at hl 0 rfl) ?_
            obtain ⟨q26, h25, hf⟩ := ob hf
            refine kx_getp 64 C I fl_X5_type_26 h25 dX5_type_64 ?_
            obtain ⟨x28, h27, hf⟩ := ob hf
            refine kx_geti 67 C I fl_X5_type_148 h27 dX5_type_67 ?_
            exact kx_iret 70 C I hf dX5_type_70
          · have hf := ifn c7 hf
            refine kx_aload_n 28 C dX5_type_28 (lv_at hl 0 rfl) ?_
            obtain ⟨h32, hf⟩ := ift hf
            obtain ⟨x31, S29, h30, hf⟩ := ob2 hf
            refine kx_callVi 29 C hl I (ci := 4) (As := []) (rest := []) (c_X5_refuseFull G l fu _ _ _ _ h30) (cwV 0 C.ts gX5_type_X5_refuseFull rfl rfl rfl nyV_X5_refuseFull ⟨Nat.le_of_ble_eq_true rfl, Nat.le_of_ble_eq_true rfl⟩) rfl h32 rfl rfl (Nat.le_of_ble_eq_true rfl) dX5_type_29 ⟨Nat.le_of_ble_eq_true rfl, Nat.le_of_ble_eq_true rfl⟩ (fun H locs I => ?_)
            exact kx_iret 32 C I hf dX5_type_32
        · have hf := ifn c2 hf
          exact ih1 _ _ _ _ _ _ hf I (lv_sub hl [0] rfl)
    · intro S p0 i0 H locs ls hf I hl
      replace hf : b_X5_type_1 (g_X5_type fu) fu S p0 i0 = some (r, S') := hf
      unfold b_X5_type_1 at hf
      refine kx_aload_n 10 C dX5_type_10 (lv_at hl 0 rfl) ?_
      obtain ⟨h36, hf⟩ := ift hf
      obtain ⟨x35, S33, h34, hf⟩ := ob2 hf
      refine kx_callVi 11 C hl I (ci := 4) (As := []) (rest := []) (c_X5_refuseBad G l fu _ _ _ _ h34) (cwV 0 C.ts gX5_type_X5_refuseBad rfl rfl rfl nyV_X5_refuseBad ⟨Nat.le_of_ble_eq_true rfl, Nat.le_of_ble_eq_true rfl⟩) rfl h36 rfl rfl (Nat.le_of_ble_eq_true rfl) dX5_type_11 ⟨Nat.le_of_ble_eq_true rfl, Nat.le_of_ble_eq_true rfl⟩ (fun H locs I => ?_)
      exact kx_iret 14 C I hf dX5_type_14
set_option maxHeartbeats 4000000 in
set_option maxRecDepth 100000 in
theorem c_X5_type (G : xG) (l : Launch) (fu : Nat) (S S' : xS) (p0 : Nat) (i0 : Int) (r : Int) (hf : f_X5_type fu S p0 i0 = some (r, S')) : Met l yX5_type vsX5_type rm_X5_type (va_Pc [.ref (xB G + p0), .int (iI i0)] (xPre G S)) (xQi G r S') 0 0 (xA G) := by
  refine kx_met (ret := (some .int)) RX5 [(0, .ref (xB G + p0)), (1, .int (iI i0))] (by decide) rfl rfl (Nat.le_of_ble_eq_true rfl) rfl (fun p e s m below meth c ls C hin I hl => ?_)
  exact (w_X5_type C r S' fu).1 S _ _ _ _ _ hf I hl
def rm_X5_clear : Room := { frames := 0, cells := 0, slots := 0, locals := 0 }
theorem hin_X5_clear_RX3 : ∀ w ∈ wsX30, w ∈ vsX5_clear := fun w h => inM (inlX3 w h)
theorem hin_X5_clear_RX5 : ∀ w ∈ wsX50, w ∈ vsX5_clear := fun w h => inM (inlX5 w h)
theorem fl_X5_clear_26 : xFl vsX5_clear RX5 26 4 3 := ⟨RX5, TX5, 13, rfl, by decide, hin_X5_clear_RX5, inM mq_1_21, rfl⟩
theorem fl_X5_clear_148 : xFl vsX5_clear RX5 148 3 1 := ⟨RX3, TX3, 6, rfl, by decide, hin_X5_clear_RX3, inM mq_15_4, rfl⟩
theorem nyS_X5_clear : yX5_clear.cls ≠ "java/lang/invoke/MethodHandle" ∧ yX5_clear.cls ≠ "java/lang/invoke/VarHandle" ∧ (parseMethodDescriptor yX5_clear.desc).map (fun d => d.parameters.length) = some 0 := by decide +kernel
theorem nyV_X5_clear : yX5_clear.cls = RX5 ∧ yX5_clear.cls ≠ "java/lang/invoke/MethodHandle" ∧ yX5_clear.cls ≠ "java/lang/invoke/VarHandle" ∧ (parseMethodDescriptor yX5_clear.desc).map (fun d => d.parameters.length) = some 0 := by decide +kernel
set_option maxHeartbeats 4000000 in
set_option maxRecDepth 100000 in
theorem c_X5_clear (G : xG) (l : Launch) (fu : Nat) (S S' : xS) (p0 : Nat) (r : Int) (hf : f_X5_clear fu S p0 = some (r, S')) : Met l yX5_clear vsX5_clear rm_X5_clear (va_Pc [.ref (xB G + p0)] (xPre G S)) (xQi G r S') 0 0 (xA G) := by
  refine kx_met (ret := (some .int)) RX5 [(0, .ref (xB G + p0))] (by decide) rfl rfl (Nat.le_of_ble_eq_true rfl) rfl (fun p e s m below meth c ls C hin I hl => ?_)
  unfold f_X5_clear at hf
  refine kx_aload_n 0 C dX5_clear_0 (lv_at hl 0 rfl) ?_
  obtain ⟨q2, h1, hf⟩ := ob hf
  refine kx_getp 1 C I fl_X5_clear_26 h1 dX5_clear_1 ?_
  obtain ⟨x4, h3, hf⟩ := ob hf
  refine kx_geti 4 C I fl_X5_clear_148 h3 dX5_clear_4 ?_
  refine kx_istore_n 7 C (lv' := [(1, .int (iI x4)), (0, .ref (xB G + p0))]) dX5_clear_7 hl (by decide) rfl rfl (fun ls hl => ?_)
  refine kx_aload_n 8 C dX5_clear_8 (lv_at hl 1 rfl) ?_
  obtain ⟨q6, h5, hf⟩ := ob hf
  refine kx_getp 9 C I fl_X5_clear_26 h5 dX5_clear_9 ?_
  refine kx_iconst 12 C dX5_clear_12 ?_
  obtain ⟨S8, h7, hf⟩ := ob hf
  refine kx_puti 13 C I fl_X5_clear_148 fw_RX3_1 h7 dX5_clear_13 (fun H locs I => ?_)
  refine kx_iload_n 16 C dX5_clear_16 (lv_at hl 0 rfl) ?_
  exact kx_iret 17 C I hf dX5_clear_17
def rm_X5_read : Room := { frames := 9, cells := 0, slots := 0, locals := 211 }
theorem hin_X5_read_RX5 : ∀ w ∈ wsX50, w ∈ vsX5_read := fun w h => inM (inlX5 w h)
theorem fl_X5_read_10 : xFl vsX5_read RX5 10 4 0 := ⟨RX5, TX5, 13, rfl, by decide, hin_X5_read_RX5, inM mq_1_15, rfl⟩
theorem fl_X5_read_16 : xFl vsX5_read RX5 16 4 1 := ⟨RX5, TX5, 13, rfl, by decide, hin_X5_read_RX5, inM mq_1_16, rfl⟩
theorem fl_X5_read_26 : xFl vsX5_read RX5 26 4 3 := ⟨RX5, TX5, 13, rfl, by decide, hin_X5_read_RX5, inM mq_1_21, rfl⟩
theorem nyS_X5_read : yX5_read.cls ≠ "java/lang/invoke/MethodHandle" ∧ yX5_read.cls ≠ "java/lang/invoke/VarHandle" ∧ (parseMethodDescriptor yX5_read.desc).map (fun d => d.parameters.length) = some 0 := by decide +kernel
theorem nyV_X5_read : yX5_read.cls = RX5 ∧ yX5_read.cls ≠ "java/lang/invoke/MethodHandle" ∧ yX5_read.cls ≠ "java/lang/invoke/VarHandle" ∧ (parseMethodDescriptor yX5_read.desc).map (fun d => d.parameters.length) = some 0 := by decide +kernel
set_option maxHeartbeats 4000000 in
set_option maxRecDepth 100000 in
theorem c_X5_read (G : xG) (l : Launch) (fu : Nat) (S S' : xS) (p0 : Nat) (r : Int) (hf : f_X5_read fu S p0 = some (r, S')) : Met l yX5_read vsX5_read rm_X5_read (va_Pc [.ref (xB G + p0)] (xPre G S)) (xQi G r S') 0 0 (xA G) := by
  refine kx_met (ret := (some .int)) RX5 [(0, .ref (xB G + p0))] (by decide) rfl rfl (Nat.le_of_ble_eq_true rfl) rfl (fun p e s m below meth c ls C hin I hl => ?_)
  unfold f_X5_read at hf
  refine kx_aload_n 0 C dX5_read_0 (lv_at hl 0 rfl) ?_
  obtain ⟨q2, h1, hf⟩ := ob hf
  refine kx_getp 1 C I fl_X5_read_26 h1 dX5_read_1 ?_
  refine kx_aload_n 4 C dX5_read_4 (lv_at hl 0 rfl) ?_
  obtain ⟨q4, h3, hf⟩ := ob hf
  refine kx_getp 5 C I fl_X5_read_16 h3 dX5_read_5 ?_
  obtain ⟨h8, hf⟩ := ift hf
  obtain ⟨x7, S5, h6, hf⟩ := ob2 hf
  refine kx_callVi 8 C hl I (ci := 3) (As := [.ref (xB G + q4)]) (rest := []) (c_X3_tellItems G l fu _ _ _ _ _ h6) (cwV 1 C.ts gX5_read_X3_tellItems rfl rfl rfl nyV_X3_tellItems ⟨Nat.le_of_ble_eq_true rfl, Nat.le_of_ble_eq_true rfl⟩) rfl h8 rfl rfl (Nat.le_of_ble_eq_true rfl) dX5_read_8 ⟨Nat.le_of_ble_eq_true rfl, Nat.le_of_ble_eq_true rfl⟩ (fun H locs I => ?_)
  refine kx_istore_n 11 C (lv' := [(1, .int (iI x7)), (0, .ref (xB G + p0))]) dX5_read_11 hl (by decide) rfl rfl (fun ls hl => ?_)
  refine kx_iload_n 12 C dX5_read_12 (lv_at hl 0 rfl) ?_
  refine kx_if_lt 13 27 C dX5_read_13 (by decide) (fun c9 => ?_) (fun c9 => ?_)
  · have hf := ifp c9 hf
    refine kx_iload_n 27 C dX5_read_27 (lv_at hl 0 rfl) ?_
    exact kx_iret 28 C I hf dX5_read_28
  · have hf := ifn c9 hf
    refine kx_aload_n 16 C dX5_read_16 (lv_at hl 1 rfl) ?_
    obtain ⟨q11, h10, hf⟩ := ob hf
    refine kx_getp 17 C I fl_X5_read_10 h10 dX5_read_17 ?_
    refine kx_aload_n 20 C dX5_read_20 (lv_at hl 1 rfl) ?_
    obtain ⟨q13, h12, hf⟩ := ob hf
    refine kx_getp 21 C I fl_X5_read_16 h12 dX5_read_21 ?_
    obtain ⟨h17, hf⟩ := ift hf
    obtain ⟨z16, S14, h15, hf⟩ := ob2 hf
    refine kx_callVv 24 C hl I (ci := 1) (As := [.ref (xB G + q13)]) (rest := []) (c_X1_copyOf G l fu _ _ _ _ _ h15) (cwV 1 C.ts gX5_read_X1_copyOf rfl rfl rfl nyV_X1_copyOf ⟨Nat.le_of_ble_eq_true rfl, Nat.le_of_ble_eq_true rfl⟩) rfl h17 rfl rfl (Nat.le_of_ble_eq_true rfl) dX5_read_24 ⟨Nat.le_of_ble_eq_true rfl, Nat.le_of_ble_eq_true rfl⟩ (fun H locs I => ?_)
    refine kx_iload_n 27 C dX5_read_27 (lv_at hl 0 rfl) ?_
    exact kx_iret 28 C I hf dX5_read_28
def rm_X5_slip : Room := { frames := 1, cells := 0, slots := 0, locals := 21 }
theorem hin_X5_slip_RX1 : ∀ w ∈ wsX10, w ∈ vsX5_slip := fun w h => inM (inlX1 w h)
theorem hin_X5_slip_RX5 : ∀ w ∈ wsX50, w ∈ vsX5_slip := fun w h => inM (inlX5 w h)
theorem fl_X5_slip_10 : xFl vsX5_slip RX5 10 4 0 := ⟨RX5, TX5, 13, rfl, by decide, hin_X5_slip_RX5, inM mq_1_15, rfl⟩
theorem fl_X5_slip_96 : xFl vsX5_slip RX5 96 1 3 := ⟨RX1, TX1, 14, rfl, by decide, hin_X5_slip_RX1, inM mq_8_7, rfl⟩
theorem nyS_X5_slip : yX5_slip.cls ≠ "java/lang/invoke/MethodHandle" ∧ yX5_slip.cls ≠ "java/lang/invoke/VarHandle" ∧ (parseMethodDescriptor yX5_slip.desc).map (fun d => d.parameters.length) = some 1 := by decide +kernel
theorem nyV_X5_slip : yX5_slip.cls = RX5 ∧ yX5_slip.cls ≠ "java/lang/invoke/MethodHandle" ∧ yX5_slip.cls ≠ "java/lang/invoke/VarHandle" ∧ (parseMethodDescriptor yX5_slip.desc).map (fun d => d.parameters.length) = some 1 := by decide +kernel
set_option maxHeartbeats 4000000 in
set_option maxRecDepth 100000 in
theorem c_X5_slip (G : xG) (l : Launch) (fu : Nat) (S S' : xS) (p0 : Nat) (i0 : Int) (r : Int) (hf : f_X5_slip fu S p0 i0 = some (r, S')) : Met l yX5_slip vsX5_slip rm_X5_slip (va_Pc [.ref (xB G + p0), .int (iI i0)] (xPre G S)) (xQi G r S') 0 0 (xA G) := by
  refine kx_met (ret := (some .int)) RX5 [(0, .ref (xB G + p0)), (1, .int (iI i0))] (by decide) rfl rfl (Nat.le_of_ble_eq_true rfl) rfl (fun p e s m below meth c ls C hin I hl => ?_)
  unfold f_X5_slip at hf
  refine kx_aload_n 0 C dX5_slip_0 (lv_at hl 0 rfl) ?_
  refine kx_iload_n 1 C dX5_slip_1 (lv_at hl 1 rfl) ?_
  obtain ⟨h4, hf⟩ := ift hf
  obtain ⟨x3, S1, h2, hf⟩ := ob2 hf
  refine kx_callVi 2 C hl I (ci := 4) (As := [.int (iI i0)]) (rest := []) (c_X5_isNoBox G l fu _ _ _ _ _ h2) (cwV 1 C.ts gX5_slip_X5_isNoBox rfl rfl rfl nyV_X5_isNoBox ⟨Nat.le_of_ble_eq_true rfl, Nat.le_of_ble_eq_true rfl⟩) rfl h4 rfl rfl (Nat.le_of_ble_eq_true rfl) dX5_slip_2 ⟨Nat.le_of_ble_eq_true rfl, Nat.le_of_ble_eq_true rfl⟩ (fun H locs I => ?_)
  refine kx_if_eq 5 13 C dX5_slip_5 (by decide) (fun c5 => ?_) (fun c5 => ?_)
  · have hf := ifp c5 hf
    refine kx_aload_n 13 C dX5_slip_13 (lv_at hl 0 rfl) ?_
    obtain ⟨q7, h6, hf⟩ := ob hf
    refine kx_getp 14 C I fl_X5_slip_10 h6 dX5_slip_14 ?_
    obtain ⟨q9, h8, hf⟩ := ob hf
    refine kx_getp 17 C I fl_X5_slip_96 h8 dX5_slip_17 ?_
    refine kx_iload_n 20 C dX5_slip_20 (lv_at hl 1 rfl) ?_
    obtain ⟨x10, h11, hf⟩ := ob hf
    refine kx_iald 21 C I h11 dX5_slip_21 ?_
    exact kx_iret 22 C I hf dX5_slip_22
  · have hf := ifn c5 hf
    refine kx_aload_n 8 C dX5_slip_8 (lv_at hl 0 rfl) ?_
    obtain ⟨h15, hf⟩ := ift hf
    obtain ⟨x14, S12, h13, hf⟩ := ob2 hf
    refine kx_callVi 9 C hl I (ci := 4) (As := []) (rest := []) (c_X5_refuseBad G l fu _ _ _ _ h13) (cwV 0 C.ts gX5_slip_X5_refuseBad rfl rfl rfl nyV_X5_refuseBad ⟨Nat.le_of_ble_eq_true rfl, Nat.le_of_ble_eq_true rfl⟩) rfl h15 rfl rfl (Nat.le_of_ble_eq_true rfl) dX5_slip_9 ⟨Nat.le_of_ble_eq_true rfl, Nat.le_of_ble_eq_true rfl⟩ (fun H locs I => ?_)
    exact kx_iret 12 C I hf dX5_slip_12
def rm_X5_rank : Room := { frames := 3, cells := 0, slots := 0, locals := 65 }
theorem hin_X5_rank_RX5 : ∀ w ∈ wsX50, w ∈ vsX5_rank := fun w h => inM (inlX5 w h)
theorem fl_X5_rank_10 : xFl vsX5_rank RX5 10 4 0 := ⟨RX5, TX5, 13, rfl, by decide, hin_X5_rank_RX5, inM mq_1_15, rfl⟩
theorem nyS_X5_rank : yX5_rank.cls ≠ "java/lang/invoke/MethodHandle" ∧ yX5_rank.cls ≠ "java/lang/invoke/VarHandle" ∧ (parseMethodDescriptor yX5_rank.desc).map (fun d => d.parameters.length) = some 0 := by decide +kernel
theorem nyV_X5_rank : yX5_rank.cls = RX5 ∧ yX5_rank.cls ≠ "java/lang/invoke/MethodHandle" ∧ yX5_rank.cls ≠ "java/lang/invoke/VarHandle" ∧ (parseMethodDescriptor yX5_rank.desc).map (fun d => d.parameters.length) = some 0 := by decide +kernel
set_option maxHeartbeats 4000000 in
set_option maxRecDepth 100000 in
theorem c_X5_rank (G : xG) (l : Launch) (fu : Nat) (S S' : xS) (p0 : Nat) (r : Int) (hf : f_X5_rank fu S p0 = some (r, S')) : Met l yX5_rank vsX5_rank rm_X5_rank (va_Pc [.ref (xB G + p0)] (xPre G S)) (xQi G r S') 0 0 (xA G) := by
  refine kx_met (ret := (some .int)) RX5 [(0, .ref (xB G + p0))] (by decide) rfl rfl (Nat.le_of_ble_eq_true rfl) rfl (fun p e s m below meth c ls C hin I hl => ?_)
  unfold f_X5_rank at hf
  refine kx_aload_n 0 C dX5_rank_0 (lv_at hl 0 rfl) ?_
  obtain ⟨q2, h1, hf⟩ := ob hf
  refine kx_getp 1 C I fl_X5_rank_10 h1 dX5_rank_1 ?_
  obtain ⟨h6, hf⟩ := ift hf
  obtain ⟨x5, S3, h4, hf⟩ := ob2 hf
  refine kx_callVi 4 C hl I (ci := 1) (As := []) (rest := []) (c_X1_rankNow G l fu _ _ _ _ h4) (cwV 0 C.ts gX5_rank_X1_rankNow rfl rfl rfl nyV_X1_rankNow ⟨Nat.le_of_ble_eq_true rfl, Nat.le_of_ble_eq_true rfl⟩) rfl h6 rfl rfl (Nat.le_of_ble_eq_true rfl) dX5_rank_4 ⟨Nat.le_of_ble_eq_true rfl, Nat.le_of_ble_eq_true rfl⟩ (fun H locs I => ?_)
  exact kx_iret 7 C I hf dX5_rank_7
def rm_X5_refuseQuestion : Room := { frames := 0, cells := 0, slots := 0, locals := 0 }
theorem hin_X5_refuseQuestion_RX5 : ∀ w ∈ wsX50, w ∈ vsX5_refuseQuestion := fun w h => inM (inlX5 w h)
theorem fl_X5_refuseQuestion_55 : xFl vsX5_refuseQuestion RX5 55 4 10 := ⟨RX5, TX5, 13, rfl, by decide, hin_X5_refuseQuestion_RX5, inM mq_2_8, rfl⟩
theorem nyS_X5_refuseQuestion : yX5_refuseQuestion.cls ≠ "java/lang/invoke/MethodHandle" ∧ yX5_refuseQuestion.cls ≠ "java/lang/invoke/VarHandle" ∧ (parseMethodDescriptor yX5_refuseQuestion.desc).map (fun d => d.parameters.length) = some 0 := by decide +kernel
theorem nyV_X5_refuseQuestion : yX5_refuseQuestion.cls = RX5 ∧ yX5_refuseQuestion.cls ≠ "java/lang/invoke/MethodHandle" ∧ yX5_refuseQuestion.cls ≠ "java/lang/invoke/VarHandle" ∧ (parseMethodDescriptor yX5_refuseQuestion.desc).map (fun d => d.parameters.length) = some 0 := by decide +kernel
set_option maxHeartbeats 4000000 in
set_option maxRecDepth 100000 in
theorem c_X5_refuseQuestion (G : xG) (l : Launch) (fu : Nat) (S S' : xS) (p0 : Nat) (r : Int) (hf : f_X5_refuseQuestion fu S p0 = some (r, S')) : Met l yX5_refuseQuestion vsX5_refuseQuestion rm_X5_refuseQuestion (va_Pc [.ref (xB G + p0)] (xPre G S)) (xQi G r S') 0 0 (xA G) := by
  refine kx_met (ret := (some .int)) RX5 [(0, .ref (xB G + p0))] (by decide) rfl rfl (Nat.le_of_ble_eq_true rfl) rfl (fun p e s m below meth c ls C hin I hl => ?_)
  unfold f_X5_refuseQuestion at hf
  refine kx_aload_n 0 C dX5_refuseQuestion_0 (lv_at hl 0 rfl) ?_
  refine kx_dup 1 C dX5_refuseQuestion_1 rfl ?_
  obtain ⟨x2, h1, hf⟩ := ob hf
  refine kx_geti 2 C I fl_X5_refuseQuestion_55 h1 dX5_refuseQuestion_2 ?_
  refine kx_iconst 5 C dX5_refuseQuestion_5 ?_
  refine kx_iadd 6 C dX5_refuseQuestion_6 ?_
  obtain ⟨S4, h3, hf⟩ := ob hf
  refine kx_puti 7 C I fl_X5_refuseQuestion_55 fw_RX5_10 h3 dX5_refuseQuestion_7 (fun H locs I => ?_)
  refine kx_bipush 10 C dX5_refuseQuestion_10 (by decide) ?_
  exact kx_iret 12 C I hf dX5_refuseQuestion_12
def rm_X5_rings : Room := { frames := 1, cells := 0, slots := 0, locals := 26 }
theorem hin_X5_rings_RX1 : ∀ w ∈ wsX10, w ∈ vsX5_rings := fun w h => inM (inlX1 w h)
theorem hin_X5_rings_RX5 : ∀ w ∈ wsX50, w ∈ vsX5_rings := fun w h => inM (inlX5 w h)
theorem fl_X5_rings_10 : xFl vsX5_rings RX5 10 4 0 := ⟨RX5, TX5, 13, rfl, by decide, hin_X5_rings_RX5, inM mq_1_15, rfl⟩
theorem fl_X5_rings_69 : xFl vsX5_rings RX5 69 1 0 := ⟨RX1, TX1, 14, rfl, by decide, hin_X5_rings_RX1, inM mq_5_19, rfl⟩
theorem fl_X5_rings_96 : xFl vsX5_rings RX5 96 1 3 := ⟨RX1, TX1, 14, rfl, by decide, hin_X5_rings_RX1, inM mq_8_7, rfl⟩
theorem nyS_X5_rings : yX5_rings.cls ≠ "java/lang/invoke/MethodHandle" ∧ yX5_rings.cls ≠ "java/lang/invoke/VarHandle" ∧ (parseMethodDescriptor yX5_rings.desc).map (fun d => d.parameters.length) = some 1 := by decide +kernel
theorem nyV_X5_rings : yX5_rings.cls = RX5 ∧ yX5_rings.cls ≠ "java/lang/invoke/MethodHandle" ∧ yX5_rings.cls ≠ "java/lang/invoke/VarHandle" ∧ (parseMethodDescriptor yX5_rings.desc).map (fun d => d.parameters.length) = some 1 := by decide +kernel
set_option maxHeartbeats 4000000 in
set_option maxRecDepth 100000 in
theorem c_X5_rings (G : xG) (l : Launch) (fu : Nat) (S S' : xS) (p0 : Nat) (i0 : Int) (r : Int) (hf : f_X5_rings fu S p0 i0 = some (r, S')) : Met l yX5_rings vsX5_rings rm_X5_rings (va_Pc [.ref (xB G + p0), .int (iI i0)] (xPre G S)) (xQi G r S') 0 0 (xA G) := by
  refine kx_met (ret := (some .int)) RX5 [(0, .ref (xB G + p0)), (1, .int (iI i0))] (by decide) rfl rfl (Nat.le_of_ble_eq_true rfl) rfl (fun p e s m below meth c ls C hin I hl => ?_)
  unfold f_X5_rings at hf
  refine kx_iload_n 0 C dX5_rings_0 (lv_at hl 1 rfl) ?_
  refine kx_iconst 1 C dX5_rings_1 ?_
  refine kx_icmp_ne 2 23 C dX5_rings_2 (by decide) (fun c1 => ?_) (fun c1 => ?_)
  · have hf := ifn c1 hf
    refine kx_aload_n 23 C dX5_rings_23 (lv_at hl 0 rfl) ?_
    refine kx_iload_n 24 C dX5_rings_24 (lv_at hl 1 rfl) ?_
    obtain ⟨h5, hf⟩ := ift hf
    obtain ⟨x4, S2, h3, hf⟩ := ob2 hf
    refine kx_callVi 25 C hl I (ci := 4) (As := [.int (iI i0)]) (rest := []) (c_X5_isNoBox G l fu _ _ _ _ _ h3) (cwV 1 C.ts gX5_rings_X5_isNoBox rfl rfl rfl nyV_X5_isNoBox ⟨Nat.le_of_ble_eq_true rfl, Nat.le_of_ble_eq_true rfl⟩) rfl h5 rfl rfl (Nat.le_of_ble_eq_true rfl) dX5_rings_25 ⟨Nat.le_of_ble_eq_true rfl, Nat.le_of_ble_eq_true rfl⟩ (fun H locs I => ?_)
    refine kx_if_eq 28 36 C dX5_rings_28 (by decide) (fun c6 => ?_) (fun c6 => ?_)
    · have hf := ifp c6 hf
      refine kx_aload_n 36 C dX5_rings_36 (lv_at hl 0 rfl) ?_
      obtain ⟨q8, h7, hf⟩ := ob hf
      refine kx_getp 37 C I fl_X5_rings_10 h7 dX5_rings_37 ?_
      obtain ⟨q10, h9, hf⟩ := ob hf
      refine kx_getp 40 C I fl_X5_rings_96 h9 dX5_rings_40 ?_
      refine kx_aload_n 43 C dX5_rings_43 (lv_at hl 0 rfl) ?_
      obtain ⟨q12, h11, hf⟩ := ob hf
      refine kx_getp 44 C I fl_X5_rings_10 h11 dX5_rings_44 ?_
      obtain ⟨x14, h13, hf⟩ := ob hf
      refine kx_geti 47 C I fl_X5_rings_69 h13 dX5_rings_47 ?_
      refine kx_iload_n 50 C dX5_rings_50 (lv_at hl 1 rfl) ?_
      obtain ⟨x17, S15, h16, hf⟩ := ob2 hf
      refine kx_callSi 51 C hl I (As := [.ref (xB G + q10), .int (iI x14), .int (iI i0)]) (rest := []) (c_X4_ringLength G l fu _ _ _ _ _ _ h16) (va_cwS 3 C.ts gX5_rings_X4_ringLength rfl rfl rfl nyS_X4_ringLength ⟨Nat.le_of_ble_eq_true rfl, Nat.le_of_ble_eq_true rfl⟩) rfl rfl (Nat.le_of_ble_eq_true rfl) dX5_rings_51 ⟨Nat.le_of_ble_eq_true rfl, Nat.le_of_ble_eq_true rfl⟩ (fun H locs I => ?_)
      exact kx_iret 54 C I hf dX5_rings_54
    · have hf := ifn c6 hf
      refine kx_aload_n 31 C dX5_rings_31 (lv_at hl 0 rfl) ?_
      obtain ⟨h21, hf⟩ := ift hf
      obtain ⟨x20, S18, h19, hf⟩ := ob2 hf
      refine kx_callVi 32 C hl I (ci := 4) (As := []) (rest := []) (c_X5_refuseQuestion G l fu _ _ _ _ h19) (cwV 0 C.ts gX5_rings_X5_refuseQuestion rfl rfl rfl nyV_X5_refuseQuestion ⟨Nat.le_of_ble_eq_true rfl, Nat.le_of_ble_eq_true rfl⟩) rfl h21 rfl rfl (Nat.le_of_ble_eq_true rfl) dX5_rings_32 ⟨Nat.le_of_ble_eq_true rfl, Nat.le_of_ble_eq_true rfl⟩ (fun H locs I => ?_)
      exact kx_iret 35 C I hf dX5_rings_35
  · have hf := ifp c1 hf
    refine kx_aload_n 5 C dX5_rings_5 (lv_at hl 0 rfl) ?_
    obtain ⟨q23, h22, hf⟩ := ob hf
    refine kx_getp 6 C I fl_X5_rings_10 h22 dX5_rings_6 ?_
    obtain ⟨q25, h24, hf⟩ := ob hf
    refine kx_getp 9 C I fl_X5_rings_96 h24 dX5_rings_9 ?_
    refine kx_aload_n 12 C dX5_rings_12 (lv_at hl 0 rfl) ?_
    obtain ⟨q27, h26, hf⟩ := ob hf
    refine kx_getp 13 C I fl_X5_rings_10 h26 dX5_rings_13 ?_
    obtain ⟨x29, h28, hf⟩ := ob hf
    refine kx_geti 16 C I fl_X5_rings_69 h28 dX5_rings_16 ?_
    obtain ⟨x32, S30, h31, hf⟩ := ob2 hf
    refine kx_callSi 19 C hl I (As := [.ref (xB G + q25), .int (iI x29)]) (rest := []) (c_X4_ringCount G l fu _ _ _ _ _ h31) (va_cwS 2 C.ts gX5_rings_X4_ringCount rfl rfl rfl nyS_X4_ringCount ⟨Nat.le_of_ble_eq_true rfl, Nat.le_of_ble_eq_true rfl⟩) rfl rfl (Nat.le_of_ble_eq_true rfl) dX5_rings_19 ⟨Nat.le_of_ble_eq_true rfl, Nat.le_of_ble_eq_true rfl⟩ (fun H locs I => ?_)
    exact kx_iret 22 C I hf dX5_rings_22
