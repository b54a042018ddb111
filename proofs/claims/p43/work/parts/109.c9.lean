def rm_X6_workHand : Room := { frames := 1, cells := 0, slots := 0, locals := 20 }
theorem hin_X6_workHand_RX6 : ∀ w ∈ wsX60, w ∈ vsX6_workHand := fun w h => inM (inlX6 w h)
theorem fl_X6_workHand_7 : xFl vsX6_workHand RX6 7 5 0 := ⟨RX6, TX6, 30, rfl, by decide, hin_X6_workHand_RX6, inM mq_4_16, rfl⟩
theorem fl_X6_workHand_27 : xFl vsX6_workHand RX6 27 5 6 := ⟨RX6, TX6, 30, rfl, by decide, hin_X6_workHand_RX6, inM mq_4_22, rfl⟩
theorem nyS_X6_workHand : yX6_workHand.cls ≠ "java/lang/invoke/MethodHandle" ∧ yX6_workHand.cls ≠ "java/lang/invoke/VarHandle" ∧ (parseMethodDescriptor yX6_workHand.desc).map (fun d => d.parameters.length) = some 1 := by decide +kernel
theorem nyV_X6_workHand : yX6_workHand.cls = RX6 ∧ yX6_workHand.cls ≠ "java/lang/invoke/MethodHandle" ∧ yX6_workHand.cls ≠ "java/lang/invoke/VarHandle" ∧ (parseMethodDescriptor yX6_workHand.desc).map (fun d => d.parameters.length) = some 1 := by decide +kernel
set_option maxHeartbeats 4000000 in
set_option maxRecDepth 100000 in
theorem w_X6_workHand {G : xG} {p : Program} {l : Launch} {e : Env} {s : State} {m : MethodId} {args : Array Value} {below : List Frame} {meth : Method} {c : Code} (C : xK G p s m args meth c cX6_workHand 5 vsX6_workHand RX6 none) (r : Int) (S' : xS) : ∀ k : Nat,
  (∀ (S : xS) (p0 : Nat) (i0 i1 i2 i3 : Int) (H : Heap) (locs : List Loc) (ls : Array Slot), g_X6_workHand k 0 S p0 i0 i1 i2 i3 = some (r, S') → xI G S s H locs → lv_has ls 5 [(0, .ref (xB G + p0)), (1, .int (iI i0))] → W p l e rm_X6_workHand s m args below meth c H locs 0 0 (MQ below (xQv G S') args s 0 0 (xA G)) (F0 m 0 ls [])) ∧
  (∀ (S : xS) (p0 : Nat) (i0 i1 i2 i3 : Int) (H : Heap) (locs : List Loc) (ls : Array Slot), g_X6_workHand k 1 S p0 i0 i1 i2 i3 = some (r, S') → xI G S s H locs → lv_has ls 5 [(0, .ref (xB G + p0)), (1, .int (iI i0)), (2, .int (iI i1))] → W p l e rm_X6_workHand s m args below meth c H locs 0 0 (MQ below (xQv G S') args s 0 0 (xA G)) (F0 m 2 ls [])) ∧
  (∀ (S : xS) (p0 : Nat) (i0 i1 i2 i3 : Int) (H : Heap) (locs : List Loc) (ls : Array Slot), g_X6_workHand k 2 S p0 i0 i1 i2 i3 = some (r, S') → xI G S s H locs → lv_has ls 5 [(0, .ref (xB G + p0)), (1, .int (iI i0)), (2, .int (iI i1)), (3, .int (iI i2)), (4, .int (iI i3))] → W p l e rm_X6_workHand s m args below meth c H locs 0 0 (MQ below (xQv G S') args s 0 0 (xA G)) (F0 m 15 ls [])) := by
  intro k
  induction k with
  | zero => exact ⟨fun _ _ _ _ _ _ _ _ _ hf => (by cases hf), fun _ _ _ _ _ _ _ _ _ hf => (by cases hf), fun _ _ _ _ _ _ _ _ _ hf => (by cases hf)⟩
  | succ fu ih =>
    obtain ⟨ih0, ih1, ih2⟩ := ih
    refine ⟨?_, ?_, ?_⟩
    · intro S p0 i0 i1 i2 i3 H locs ls hf I hl
      replace hf : b_X6_workHand_0 (g_X6_workHand fu) fu S p0 i0 i1 i2 i3 = some (r, S') := hf
      unfold b_X6_workHand_0 at hf
      refine kx_iconst 0 C dX6_workHand_0 ?_
      refine kx_istore_n 1 C (lv' := [(2, .int (iI 0)), (0, .ref (xB G + p0)), (1, .int (iI i0))]) dX6_workHand_1 hl (by decide) rfl rfl (fun ls hl => ?_)
      exact ih1 _ _ _ _ _ _ _ _ _ hf I (lv_sub hl [1, 2, 0] rfl)
    · intro S p0 i0 i1 i2 i3 H locs ls hf I hl
      replace hf : b_X6_workHand_1 (g_X6_workHand fu) fu S p0 i0 i1 i2 i3 = some (r, S') := hf
      unfold b_X6_workHand_1 at hf
      refine kx_iload_n 2 C dX6_workHand_2 (lv_at hl 2 rfl) ?_
      refine kx_aload_n 3 C dX6_workHand_3 (lv_at hl 0 rfl) ?_
      obtain ⟨h4, hf⟩ := ift hf
      obtain ⟨x3, S1, h2, hf⟩ := ob2 hf
      refine kx_callVi 4 C hl I (ci := 5) (As := []) (rest := [.int (iI i1)]) (c_X6_n G l fu _ _ _ _ h2) (cwV 0 C.ts gX6_workHand_X6_n rfl rfl rfl nyV_X6_n ⟨Nat.le_of_ble_eq_true rfl, Nat.le_of_ble_eq_true rfl⟩) rfl h4 rfl rfl (Nat.le_of_ble_eq_true rfl) dX6_workHand_4 ⟨Nat.le_of_ble_eq_true rfl, Nat.le_of_ble_eq_true rfl⟩ (fun H locs I => ?_)
      refine kx_icmp_ge 7 49 C dX6_workHand_7 (by decide) (fun c5 => ?_) (fun c5 => ?_)
      · have hf := ifp c5 hf
        exact kx_vret 49 C I hf dX6_workHand_49
      · have hf := ifn c5 hf
        refine kx_iload_n 10 C dX6_workHand_10 (lv_at hl 2 rfl) ?_
        refine kx_istore_n 11 C (lv' := [(3, .int (iI i1)), (0, .ref (xB G + p0)), (1, .int (iI i0)), (2, .int (iI i1))]) dX6_workHand_11 hl (by decide) rfl rfl (fun ls hl => ?_)
        refine kx_iconst 12 C dX6_workHand_12 ?_
        refine kx_istore 13 C (lv' := [(4, .int (iI 0)), (3, .int (iI i1)), (0, .ref (xB G + p0)), (1, .int (iI i0)), (2, .int (iI i1))]) dX6_workHand_13 hl (by decide) rfl rfl (fun ls hl => ?_)
        exact ih2 _ _ _ _ _ _ _ _ _ hf I (lv_sub hl [2, 3, 4, 1, 0] rfl)
    · intro S p0 i0 i1 i2 i3 H locs ls hf I hl
      replace hf : b_X6_workHand_2 (g_X6_workHand fu) fu S p0 i0 i1 i2 i3 = some (r, S') := hf
      unfold b_X6_workHand_2 at hf
      refine kx_iload 15 C dX6_workHand_15 (lv_at hl 4 rfl) ?_
      refine kx_iload_n 17 C dX6_workHand_17 (lv_at hl 1 rfl) ?_
      refine kx_icmp_ge 18 36 C dX6_workHand_18 (by decide) (fun c6 => ?_) (fun c6 => ?_)
      · have hf := ifp c6 hf
        refine kx_aload_n 36 C dX6_workHand_36 (lv_at hl 0 rfl) ?_
        obtain ⟨q8, h7, hf⟩ := ob hf
        refine kx_getp 37 C I fl_X6_workHand_27 h7 dX6_workHand_37 ?_
        refine kx_iload_n 40 C dX6_workHand_40 (lv_at hl 2 rfl) ?_
        refine kx_iload_n 41 C dX6_workHand_41 (lv_at hl 3 rfl) ?_
        obtain ⟨S10, h9, hf⟩ := ob hf
        refine kx_iast 42 C I h9 dX6_workHand_42 (fun H locs I => ?_)
        obtain ⟨x11, e12, hf⟩ := nmx_e hf
        refine kx_iinc 43 C (lv' := [(2, .int (iI x11)), (0, .ref (xB G + p0)), (1, .int (iI i0)), (3, .int (iI i2)), (4, .int (iI i3))]) dX6_workHand_43 hl 2 rfl e12 (by decide) rfl (fun ls hl => ?_)
        refine kx_goto 46 2 C dX6_workHand_46 (by decide) ?_
        exact ih1 _ _ _ _ _ _ _ _ _ hf I (lv_sub hl [1, 2, 0] rfl)
      · have hf := ifn c6 hf
        refine kx_aload_n 21 C dX6_workHand_21 (lv_at hl 0 rfl) ?_
        obtain ⟨q14, h13, hf⟩ := ob hf
        refine kx_getp 22 C I fl_X6_workHand_7 h13 dX6_workHand_22 ?_
        refine kx_iconst 25 C dX6_workHand_25 ?_
        refine kx_iload_n 26 C dX6_workHand_26 (lv_at hl 3 rfl) ?_
        refine kx_iadd 27 C dX6_workHand_27 ?_
        obtain ⟨x15, h16, hf⟩ := ob hf
        refine kx_iald 28 C I h16 dX6_workHand_28 ?_
        refine kx_istore_n 29 C (lv' := [(3, .int (iI x15)), (0, .ref (xB G + p0)), (1, .int (iI i0)), (2, .int (iI i1)), (4, .int (iI i3))]) dX6_workHand_29 hl (by decide) rfl rfl (fun ls hl => ?_)
        obtain ⟨x17, e18, hf⟩ := nmx_e hf
        refine kx_iinc 30 C (lv' := [(4, .int (iI x17)), (3, .int (iI x15)), (0, .ref (xB G + p0)), (1, .int (iI i0)), (2, .int (iI i1))]) dX6_workHand_30 hl 4 rfl e18 (by decide) rfl (fun ls hl => ?_)
        refine kx_goto 33 15 C dX6_workHand_33 (by decide) ?_
        exact ih2 _ _ _ _ _ _ _ _ _ hf I (lv_sub hl [2, 3, 4, 1, 0] rfl)
set_option maxHeartbeats 4000000 in
set_option maxRecDepth 100000 in
theorem c_X6_workHand (G : xG) (l : Launch) (fu : Nat) (S S' : xS) (p0 : Nat) (i0 : Int) (r : Int) (hf : f_X6_workHand fu S p0 i0 = some (r, S')) : Met l yX6_workHand vsX6_workHand rm_X6_workHand (va_Pc [.ref (xB G + p0), .int (iI i0)] (xPre G S)) (xQv G S') 0 0 (xA G) := by
  refine kx_met (ret := none) RX6 [(0, .ref (xB G + p0)), (1, .int (iI i0))] (by decide) rfl rfl (Nat.le_of_ble_eq_true rfl) rfl (fun p e s m below meth c ls C hin I hl => ?_)
  exact (w_X6_workHand C r S' fu).1 S _ _ _ _ _ _ _ _ hf I hl
def rm_X6_worked : Room := { frames := 2, cells := 0, slots := 0, locals := 46 }
theorem mw_X6_worked_0 : Cond.constantLong RX6 174 (99) ∈ vsX6_worked := inM mq_28_17
theorem nyS_X6_worked : yX6_worked.cls ≠ "java/lang/invoke/MethodHandle" ∧ yX6_worked.cls ≠ "java/lang/invoke/VarHandle" ∧ (parseMethodDescriptor yX6_worked.desc).map (fun d => d.parameters.length) = some 1 := by decide +kernel
theorem nyV_X6_worked : yX6_worked.cls = RX6 ∧ yX6_worked.cls ≠ "java/lang/invoke/MethodHandle" ∧ yX6_worked.cls ≠ "java/lang/invoke/VarHandle" ∧ (parseMethodDescriptor yX6_worked.desc).map (fun d => d.parameters.length) = some 1 := by decide +kernel
set_option maxHeartbeats 4000000 in
set_option maxRecDepth 100000 in
theorem c_X6_worked (G : xG) (l : Launch) (fu : Nat) (S S' : xS) (p0 : Nat) (i0 : Int) (r : Int) (hf : f_X6_worked fu S p0 i0 = some (r, S')) : Met l yX6_worked vsX6_worked rm_X6_worked (va_Pc [.ref (xB G + p0), .int (iI i0)] (xPre G S)) (xQi G r S') 0 0 (xA G) := by
  refine kx_met (ret := (some .int)) RX6 [(0, .ref (xB G + p0)), (1, .int (iI i0))] (by decide) rfl rfl (Nat.le_of_ble_eq_true rfl) rfl (fun p e s m below meth c ls C hin I hl => ?_)
  unfold f_X6_worked at hf
  refine kx_iload_n 0 C dX6_worked_0 (lv_at hl 1 rfl) ?_
  refine kx_i2l 1 C dX6_worked_1 ?_
  refine kx_lconst 2 C (z := 0) dX6_worked_2 rfl ?_
  refine kx_ldc2 3 C (z := 99) mw_X6_worked_0 dX6_worked_3 (by decide) ?_
  obtain ⟨x3, S1, h2, hf⟩ := ob2 hf
  refine kx_callSi 6 C hl I (As := [.long (lI (wI i0)), .long (lI 0), .long (lI 99)]) (rest := []) (c_X6_in G l fu _ _ _ _ _ _ h2) (va_cwS 3 C.ts gX6_worked_X6_in rfl rfl rfl nyS_X6_in ⟨Nat.le_of_ble_eq_true rfl, Nat.le_of_ble_eq_true rfl⟩) rfl rfl (Nat.le_of_ble_eq_true rfl) dX6_worked_6 ⟨Nat.le_of_ble_eq_true rfl, Nat.le_of_ble_eq_true rfl⟩ (fun H locs I => ?_)
  refine kx_if_ne 9 19 C dX6_worked_9 (by decide) (fun c4 => ?_) (fun c4 => ?_)
  · have hf := ifn c4 hf
    refine kx_aload_n 19 C dX6_worked_19 (lv_at hl 0 rfl) ?_
    refine kx_iload_n 20 C dX6_worked_20 (lv_at hl 1 rfl) ?_
    obtain ⟨h8, hf⟩ := ift hf
    obtain ⟨z7, S5, h6, hf⟩ := ob2 hf
    refine kx_callVv 21 C hl I (ci := 5) (As := [.int (iI i0)]) (rest := []) (c_X6_workHand G l fu _ _ _ _ _ h6) (cwV 1 C.ts gX6_worked_X6_workHand rfl rfl rfl nyV_X6_workHand ⟨Nat.le_of_ble_eq_true rfl, Nat.le_of_ble_eq_true rfl⟩) rfl h8 rfl rfl (Nat.le_of_ble_eq_true rfl) dX6_worked_21 ⟨Nat.le_of_ble_eq_true rfl, Nat.le_of_ble_eq_true rfl⟩ (fun H locs I => ?_)
    refine kx_aload_n 24 C dX6_worked_24 (lv_at hl 0 rfl) ?_
    obtain ⟨h12, hf⟩ := ift hf
    obtain ⟨x11, S9, h10, hf⟩ := ob2 hf
    refine kx_callVi 25 C hl I (ci := 5) (As := []) (rest := []) (c_X6_rankOf G l fu _ _ _ _ h10) (cwV 0 C.ts gX6_worked_X6_rankOf rfl rfl rfl nyV_X6_rankOf ⟨Nat.le_of_ble_eq_true rfl, Nat.le_of_ble_eq_true rfl⟩) rfl h12 rfl rfl (Nat.le_of_ble_eq_true rfl) dX6_worked_25 ⟨Nat.le_of_ble_eq_true rfl, Nat.le_of_ble_eq_true rfl⟩ (fun H locs I => ?_)
    exact kx_iret 28 C I hf dX6_worked_28
  · have hf := ifp c4 hf
    refine kx_aload_n 12 C dX6_worked_12 (lv_at hl 0 rfl) ?_
    refine kx_bipush 13 C dX6_worked_13 (by decide) ?_
    obtain ⟨h16, hf⟩ := ift hf
    obtain ⟨x15, S13, h14, hf⟩ := ob2 hf
    refine kx_callVi 15 C hl I (ci := 5) (As := [.int (iI ((-2)))]) (rest := []) (c_X6_bad G l fu _ _ _ _ _ h14) (cwV 1 C.ts gX6_worked_X6_bad rfl rfl rfl nyV_X6_bad ⟨Nat.le_of_ble_eq_true rfl, Nat.le_of_ble_eq_true rfl⟩) rfl h16 rfl rfl (Nat.le_of_ble_eq_true rfl) dX6_worked_15 ⟨Nat.le_of_ble_eq_true rfl, Nat.le_of_ble_eq_true rfl⟩ (fun H locs I => ?_)
    exact kx_iret 18 C I hf dX6_worked_18
def rm_X6_back : Room := { frames := 2, cells := 0, slots := 0, locals := 46 }
theorem nyS_X6_back : yX6_back.cls ≠ "java/lang/invoke/MethodHandle" ∧ yX6_back.cls ≠ "java/lang/invoke/VarHandle" ∧ (parseMethodDescriptor yX6_back.desc).map (fun d => d.parameters.length) = some 0 := by decide +kernel
theorem nyV_X6_back : yX6_back.cls = RX6 ∧ yX6_back.cls ≠ "java/lang/invoke/MethodHandle" ∧ yX6_back.cls ≠ "java/lang/invoke/VarHandle" ∧ (parseMethodDescriptor yX6_back.desc).map (fun d => d.parameters.length) = some 0 := by decide +kernel
set_option maxHeartbeats 4000000 in
set_option maxRecDepth 100000 in
theorem w_X6_back {G : xG} {p : Program} {l : Launch} {e : Env} {s : State} {m : MethodId} {args : Array Value} {below : List Frame} {meth : Method} {c : Code} (C : xK G p s m args meth c cX6_back 2 vsX6_back RX6 (some .int)) (r : Int) (S' : xS) : ∀ k : Nat,
  (∀ (S : xS) (p0 : Nat) (i0 : Int) (H : Heap) (locs : List Loc) (ls : Array Slot), g_X6_back k 0 S p0 i0 = some (r, S') → xI G S s H locs → lv_has ls 2 [(0, .ref (xB G + p0))] → W p l e rm_X6_back s m args below meth c H locs 0 0 (MQ below (xQi G r S') args s 0 0 (xA G)) (F0 m 0 ls [])) ∧
  (∀ (S : xS) (p0 : Nat) (i0 : Int) (H : Heap) (locs : List Loc) (ls : Array Slot), g_X6_back k 1 S p0 i0 = some (r, S') → xI G S s H locs → lv_has ls 2 [(0, .ref (xB G + p0)), (1, .int (iI i0))] → W p l e rm_X6_back s m args below meth c H locs 0 0 (MQ below (xQi G r S') args s 0 0 (xA G)) (F0 m 7 ls [])) := by
  intro k
  induction k with
  | zero => exact ⟨fun _ _ _ _ _ _ hf => (by cases hf), fun _ _ _ _ _ _ hf => (by cases hf)⟩
  | succ fu ih =>
    obtain ⟨ih0, ih1⟩ := ih
    refine ⟨?_, ?_⟩
    · intro S p0 i0 H locs ls hf I hl
      replace hf : b_X6_back_0 (g_X6_back fu) fu S p0 i0 = some (r, S') := hf
      unfold b_X6_back_0 at hf
      refine kx_iconst 0 C dX6_back_0 ?_
      refine kx_istore_n 1 C (lv' := [(1, .int (iI 1)), (0, .ref (xB G + p0))]) dX6_back_1 hl (by decide) rfl rfl (fun ls hl => ?_)
      refine kx_aload_n 2 C dX6_back_2 (lv_at hl 1 rfl) ?_
      refine kx_iconst 3 C dX6_back_3 ?_
      obtain ⟨h4, hf⟩ := ift hf
      obtain ⟨z3, S1, h2, hf⟩ := ob2 hf
      refine kx_callVv 4 C hl I (ci := 5) (As := [.int (iI 1)]) (rest := []) (c_X6_workHand G l fu _ _ _ _ _ h2) (cwV 1 C.ts gX6_back_X6_workHand rfl rfl rfl nyV_X6_workHand ⟨Nat.le_of_ble_eq_true rfl, Nat.le_of_ble_eq_true rfl⟩) rfl h4 rfl rfl (Nat.le_of_ble_eq_true rfl) dX6_back_4 ⟨Nat.le_of_ble_eq_true rfl, Nat.le_of_ble_eq_true rfl⟩ (fun H locs I => ?_)
      exact ih1 _ _ _ _ _ _ hf I (lv_sub hl [1, 0] rfl)
    · intro S p0 i0 H locs ls hf I hl
      replace hf : b_X6_back_1 (g_X6_back fu) fu S p0 i0 = some (r, S') := hf
      unfold b_X6_back_1 at hf
      refine kx_aload_n 7 C dX6_back_7 (lv_at hl 0 rfl) ?_
      obtain ⟨h8, hf⟩ := ift hf
      obtain ⟨x7, S5, h6, hf⟩ := ob2 hf
      refine kx_callVi 8 C hl I (ci := 5) (As := []) (rest := []) (c_X6_rankOf G l fu _ _ _ _ h6) (cwV 0 C.ts gX6_back_X6_rankOf rfl rfl rfl nyV_X6_rankOf ⟨Nat.le_of_ble_eq_true rfl, Nat.le_of_ble_eq_true rfl⟩) rfl h8 rfl rfl (Nat.le_of_ble_eq_true rfl) dX6_back_8 ⟨Nat.le_of_ble_eq_true rfl, Nat.le_of_ble_eq_true rfl⟩ (fun H locs I => ?_)
      refine kx_if_eq 11 25 C dX6_back_11 (by decide) (fun c9 => ?_) (fun c9 => ?_)
      · have hf := ifp c9 hf
        refine kx_iload_n 25 C dX6_back_25 (lv_at hl 1 rfl) ?_
        exact kx_iret 26 C I hf dX6_back_26
      · have hf := ifn c9 hf
        obtain ⟨x10, e11, hf⟩ := nmx_e hf
        refine kx_iinc 14 C (lv' := [(1, .int (iI x10)), (0, .ref (xB G + p0))]) dX6_back_14 hl 1 rfl e11 (by decide) rfl (fun ls hl => ?_)
        refine kx_aload_n 17 C dX6_back_17 (lv_at hl 1 rfl) ?_
        refine kx_iload_n 18 C dX6_back_18 (lv_at hl 0 rfl) ?_
        obtain ⟨h15, hf⟩ := ift hf
        obtain ⟨z14, S12, h13, hf⟩ := ob2 hf
        refine kx_callVv 19 C hl I (ci := 5) (As := [.int (iI x10)]) (rest := []) (c_X6_workHand G l fu _ _ _ _ _ h13) (cwV 1 C.ts gX6_back_X6_workHand rfl rfl rfl nyV_X6_workHand ⟨Nat.le_of_ble_eq_true rfl, Nat.le_of_ble_eq_true rfl⟩) rfl h15 rfl rfl (Nat.le_of_ble_eq_true rfl) dX6_back_19 ⟨Nat.le_of_ble_eq_true rfl, Nat.le_of_ble_eq_true rfl⟩ (fun H locs I => ?_)
        refine kx_goto 22 7 C dX6_back_22 (by decide) ?_
        exact ih1 _ _ _ _ _ _ hf I (lv_sub hl [1, 0] rfl)
set_option maxHeartbeats 4000000 in
set_option maxRecDepth 100000 in
theorem c_X6_back (G : xG) (l : Launch) (fu : Nat) (S S' : xS) (p0 : Nat) (r : Int) (hf : f_X6_back fu S p0 = some (r, S')) : Met l yX6_back vsX6_back rm_X6_back (va_Pc [.ref (xB G + p0)] (xPre G S)) (xQi G r S') 0 0 (xA G) := by
  refine kx_met (ret := (some .int)) RX6 [(0, .ref (xB G + p0))] (by decide) rfl rfl (Nat.le_of_ble_eq_true rfl) rfl (fun p e s m below meth c ls C hin I hl => ?_)
  exact (w_X6_back C r S' fu).1 S _ _ _ _ _ hf I hl
def rm_X6_undoes : Room := { frames := 2, cells := 0, slots := 0, locals := 46 }
theorem hin_X6_undoes_RX6 : ∀ w ∈ wsX60, w ∈ vsX6_undoes := fun w h => inM (inlX6 w h)
theorem fl_X6_undoes_7 : xFl vsX6_undoes RX6 7 5 0 := ⟨RX6, TX6, 30, rfl, by decide, hin_X6_undoes_RX6, inM mq_4_16, rfl⟩
theorem fl_X6_undoes_27 : xFl vsX6_undoes RX6 27 5 6 := ⟨RX6, TX6, 30, rfl, by decide, hin_X6_undoes_RX6, inM mq_4_22, rfl⟩
theorem nyS_X6_undoes : yX6_undoes.cls ≠ "java/lang/invoke/MethodHandle" ∧ yX6_undoes.cls ≠ "java/lang/invoke/VarHandle" ∧ (parseMethodDescriptor yX6_undoes.desc).map (fun d => d.parameters.length) = some 0 := by decide +kernel
theorem nyV_X6_undoes : yX6_undoes.cls = RX6 ∧ yX6_undoes.cls ≠ "java/lang/invoke/MethodHandle" ∧ yX6_undoes.cls ≠ "java/lang/invoke/VarHandle" ∧ (parseMethodDescriptor yX6_undoes.desc).map (fun d => d.parameters.length) = some 0 := by decide +kernel
set_option maxHeartbeats 4000000 in
set_option maxRecDepth 100000 in
theorem w_X6_undoes {G : xG} {p : Program} {l : Launch} {e : Env} {s : State} {m : MethodId} {args : Array Value} {below : List Frame} {meth : Method} {c : Code} (C : xK G p s m args meth c cX6_undoes 2 vsX6_undoes RX6 (some .int)) (r : Int) (S' : xS) : ∀ k : Nat,
  (∀ (S : xS) (p0 : Nat) (i0 : Int) (H : Heap) (locs : List Loc) (ls : Array Slot), g_X6_undoes k 0 S p0 i0 = some (r, S') → xI G S s H locs → lv_has ls 2 [(0, .ref (xB G + p0))] → W p l e rm_X6_undoes s m args below meth c H locs 0 0 (MQ below (xQi G r S') args s 0 0 (xA G)) (F0 m 0 ls [])) ∧
  (∀ (S : xS) (p0 : Nat) (i0 : Int) (H : Heap) (locs : List Loc) (ls : Array Slot), g_X6_undoes k 1 S p0 i0 = some (r, S') → xI G S s H locs → lv_has ls 2 [(0, .ref (xB G + p0)), (1, .int (iI i0))] → W p l e rm_X6_undoes s m args below meth c H locs 0 0 (MQ below (xQi G r S') args s 0 0 (xA G)) (F0 m 2 ls [])) := by
  intro k
  induction k with
  | zero => exact ⟨fun _ _ _ _ _ _ hf => (by cases hf), fun _ _ _ _ _ _ hf => (by cases hf)⟩
  | succ fu ih =>
    obtain ⟨ih0, ih1⟩ := ih
    refine ⟨?_, ?_⟩
    · intro S p0 i0 H locs ls hf I hl
      replace hf : b_X6_undoes_0 (g_X6_undoes fu) fu S p0 i0 = some (r, S') := hf
      unfold b_X6_undoes_0 at hf
      refine kx_iconst 0 C dX6_undoes_0 ?_
      refine kx_istore_n 1 C (lv' := [(1, .int (iI 0)), (0, .ref (xB G + p0))]) dX6_undoes_1 hl (by decide) rfl rfl (fun ls hl => ?_)
      exact ih1 _ _ _ _ _ _ hf I (lv_sub hl [1, 0] rfl)
    · intro S p0 i0 H locs ls hf I hl
      replace hf : b_X6_undoes_1 (g_X6_undoes fu) fu S p0 i0 = some (r, S') := hf
      unfold b_X6_undoes_1 at hf
      refine kx_iload_n 2 C dX6_undoes_2 (lv_at hl 1 rfl) ?_
      refine kx_aload_n 3 C dX6_undoes_3 (lv_at hl 0 rfl) ?_
      obtain ⟨h4, hf⟩ := ift hf
      obtain ⟨x3, S1, h2, hf⟩ := ob2 hf
      refine kx_callVi 4 C hl I (ci := 5) (As := []) (rest := [.int (iI i0)]) (c_X6_n G l fu _ _ _ _ h2) (cwV 0 C.ts gX6_undoes_X6_n rfl rfl rfl nyV_X6_n ⟨Nat.le_of_ble_eq_true rfl, Nat.le_of_ble_eq_true rfl⟩) rfl h4 rfl rfl (Nat.le_of_ble_eq_true rfl) dX6_undoes_4 ⟨Nat.le_of_ble_eq_true rfl, Nat.le_of_ble_eq_true rfl⟩ (fun H locs I => ?_)
      refine kx_icmp_ge 7 30 C dX6_undoes_7 (by decide) (fun c5 => ?_) (fun c5 => ?_)
      · have hf := ifp c5 hf
        refine kx_aload_n 30 C dX6_undoes_30 (lv_at hl 0 rfl) ?_
        obtain ⟨h9, hf⟩ := ift hf
        obtain ⟨x8, S6, h7, hf⟩ := ob2 hf
        refine kx_callVi 31 C hl I (ci := 5) (As := []) (rest := []) (c_X6_rankOf G l fu _ _ _ _ h7) (cwV 0 C.ts gX6_undoes_X6_rankOf rfl rfl rfl nyV_X6_rankOf ⟨Nat.le_of_ble_eq_true rfl, Nat.le_of_ble_eq_true rfl⟩) rfl h9 rfl rfl (Nat.le_of_ble_eq_true rfl) dX6_undoes_31 ⟨Nat.le_of_ble_eq_true rfl, Nat.le_of_ble_eq_true rfl⟩ (fun H locs I => ?_)
        exact kx_iret 34 C I hf dX6_undoes_34
      · have hf := ifn c5 hf
        refine kx_aload_n 10 C dX6_undoes_10 (lv_at hl 0 rfl) ?_
        obtain ⟨q11, h10, hf⟩ := ob hf
        refine kx_getp 11 C I fl_X6_undoes_27 h10 dX6_undoes_11 ?_
        refine kx_aload_n 14 C dX6_undoes_14 (lv_at hl 0 rfl) ?_
        obtain ⟨q13, h12, hf⟩ := ob hf
        refine kx_getp 15 C I fl_X6_undoes_7 h12 dX6_undoes_15 ?_
        refine kx_iconst 18 C dX6_undoes_18 ?_
        refine kx_iload_n 19 C dX6_undoes_19 (lv_at hl 1 rfl) ?_
        refine kx_iadd 20 C dX6_undoes_20 ?_
        obtain ⟨x14, h15, hf⟩ := ob hf
        refine kx_iald 21 C I h15 dX6_undoes_21 ?_
        refine kx_iload_n 22 C dX6_undoes_22 (lv_at hl 1 rfl) ?_
        obtain ⟨S17, h16, hf⟩ := ob hf
        refine kx_iast 23 C I h16 dX6_undoes_23 (fun H locs I => ?_)
        obtain ⟨x18, e19, hf⟩ := nmx_e hf
        refine kx_iinc 24 C (lv' := [(1, .int (iI x18)), (0, .ref (xB G + p0))]) dX6_undoes_24 hl 1 rfl e19 (by decide) rfl (fun ls hl => ?_)
        refine kx_goto 27 2 C dX6_undoes_27 (by decide) ?_
        exact ih1 _ _ _ _ _ _ hf I (lv_sub hl [1, 0] rfl)
set_option maxHeartbeats 4000000 in
set_option maxRecDepth 100000 in
theorem c_X6_undoes (G : xG) (l : Launch) (fu : Nat) (S S' : xS) (p0 : Nat) (r : Int) (hf : f_X6_undoes fu S p0 = some (r, S')) : Met l yX6_undoes vsX6_undoes rm_X6_undoes (va_Pc [.ref (xB G + p0)] (xPre G S)) (xQi G r S') 0 0 (xA G) := by
  refine kx_met (ret := (some .int)) RX6 [(0, .ref (xB G + p0))] (by decide) rfl rfl (Nat.le_of_ble_eq_true rfl) rfl (fun p e s m below meth c ls C hin I hl => ?_)
  exact (w_X6_undoes C r S' fu).1 S _ _ _ _ _ hf I hl
def rm_X6_goes : Room := { frames := 2, cells := 0, slots := 0, locals := 49 }
theorem hin_X6_goes_RX6 : ∀ w ∈ wsX60, w ∈ vsX6_goes := fun w h => inM (inlX6 w h)
theorem fl_X6_goes_7 : xFl vsX6_goes RX6 7 5 0 := ⟨RX6, TX6, 30, rfl, by decide, hin_X6_goes_RX6, inM mq_4_16, rfl⟩
theorem fl_X6_goes_27 : xFl vsX6_goes RX6 27 5 6 := ⟨RX6, TX6, 30, rfl, by decide, hin_X6_goes_RX6, inM mq_4_22, rfl⟩
theorem nyS_X6_goes : yX6_goes.cls ≠ "java/lang/invoke/MethodHandle" ∧ yX6_goes.cls ≠ "java/lang/invoke/VarHandle" ∧ (parseMethodDescriptor yX6_goes.desc).map (fun d => d.parameters.length) = some 1 := by decide +kernel
theorem nyV_X6_goes : yX6_goes.cls = RX6 ∧ yX6_goes.cls ≠ "java/lang/invoke/MethodHandle" ∧ yX6_goes.cls ≠ "java/lang/invoke/VarHandle" ∧ (parseMethodDescriptor yX6_goes.desc).map (fun d => d.parameters.length) = some 1 := by decide +kernel
set_option maxHeartbeats 4000000 in
set_option maxRecDepth 100000 in
theorem w_X6_goes {G : xG} {p : Program} {l : Launch} {e : Env} {s : State} {m : MethodId} {args : Array Value} {below : List Frame} {meth : Method} {c : Code} (C : xK G p s m args meth c cX6_goes 4 vsX6_goes RX6 (some .boolean)) (r : Int) (S' : xS) : ∀ k : Nat,
  (∀ (S : xS) (p0 : Nat) (i0 i1 : Int) (H : Heap) (locs : List Loc) (ls : Array Slot), g_X6_goes k 0 S p0 i0 i1 = some (r, S') → xI G S s H locs → lv_has ls 4 [(0, .ref (xB G + p0)), (1, .int (iI i0))] → W p l e rm_X6_goes s m args below meth c H locs 0 0 (MQ below (xQi G r S') args s 0 0 (xA G)) (F0 m 0 ls [])) ∧
  (∀ (S : xS) (p0 : Nat) (i0 i1 : Int) (H : Heap) (locs : List Loc) (ls : Array Slot), g_X6_goes k 1 S p0 i0 i1 = some (r, S') → xI G S s H locs → lv_has ls 4 [(0, .ref (xB G + p0)), (2, .int (iI i0)), (3, .int (iI i1))] → W p l e rm_X6_goes s m args below meth c H locs 0 0 (MQ below (xQi G r S') args s 0 0 (xA G)) (F0 m 9 ls [])) ∧
  (∀ (S : xS) (p0 : Nat) (i0 i1 : Int) (H : Heap) (locs : List Loc) (ls : Array Slot), g_X6_goes k 2 S p0 i0 i1 = some (r, S') → xI G S s H locs → lv_has ls 4 [(0, .ref (xB G + p0)), (3, .int (iI i0))] → W p l e rm_X6_goes s m args below meth c H locs 0 0 (MQ below (xQi G r S') args s 0 0 (xA G)) (F0 m 54 ls [])) ∧
  (∀ (S : xS) (p0 : Nat) (i0 i1 : Int) (H : Heap) (locs : List Loc) (ls : Array Slot), g_X6_goes k 3 S p0 i0 i1 = some (r, S') → xI G S s H locs → lv_has ls 4 [(0, .ref (xB G + p0)), (3, .int (iI i0))] → W p l e rm_X6_goes s m args below meth c H locs 0 0 (MQ below (xQi G r S') args s 0 0 (xA G)) (F0 m 55 ls [.int (iI i1)])) := by
  intro k
  induction k with
  | zero => exact ⟨fun _ _ _ _ _ _ _ hf => (by cases hf), fun _ _ _ _ _ _ _ hf => (by cases hf), fun _ _ _ _ _ _ _ hf => (by cases hf), fun _ _ _ _ _ _ _ hf => (by cases hf)⟩
  | succ fu ih =>
    obtain ⟨ih0, ih1, ih2, ih3⟩ := ih
    refine ⟨?_, ?_, ?_, ?_⟩
    · intro S p0 i0 i1 H locs ls hf I hl
      replace hf : b_X6_goes_0 (g_X6_goes fu) fu S p0 i0 i1 = some (r, S') := hf
      unfold b_X6_goes_0 at hf
      refine kx_aload_n 0 C dX6_goes_0 (lv_at hl 0 rfl) ?_
      refine kx_iload_n 1 C dX6_goes_1 (lv_at hl 1 rfl) ?_
      obtain ⟨h4, hf⟩ := ift hf
      obtain ⟨z3, S1, h2, hf⟩ := ob2 hf
      refine kx_callVv 2 C hl I (ci := 5) (As := [.int (iI i0)]) (rest := []) (c_X6_takeRank G l fu _ _ _ _ _ h2) (cwV 1 C.ts gX6_goes_X6_takeRank rfl rfl rfl nyV_X6_takeRank ⟨Nat.le_of_ble_eq_true rfl, Nat.le_of_ble_eq_true rfl⟩) rfl h4 rfl rfl (Nat.le_of_ble_eq_true rfl) dX6_goes_2 ⟨Nat.le_of_ble_eq_true rfl, Nat.le_of_ble_eq_true rfl⟩ (fun H locs I => ?_)
      refine kx_iconst 5 C dX6_goes_5 ?_
      refine kx_istore_n 6 C (lv' := [(2, .int (iI 1)), (0, .ref (xB G + p0)), (1, .int (iI i0))]) dX6_goes_6 hl (by decide) rfl rfl (fun ls hl => ?_)
      refine kx_iconst 7 C dX6_goes_7 ?_
      refine kx_istore_n 8 C (lv' := [(3, .int (iI 0)), (2, .int (iI 1)), (0, .ref (xB G + p0)), (1, .int (iI i0))]) dX6_goes_8 hl (by decide) rfl rfl (fun ls hl => ?_)
      exact ih1 _ _ _ _ _ _ _ hf I (lv_sub hl [2, 1, 0] rfl)
    · intro S p0 i0 i1 H locs ls hf I hl
      replace hf : b_X6_goes_1 (g_X6_goes fu) fu S p0 i0 i1 = some (r, S') := hf
      unfold b_X6_goes_1 at hf
      refine kx_iload_n 9 C dX6_goes_9 (lv_at hl 2 rfl) ?_
      refine kx_aload_n 10 C dX6_goes_10 (lv_at hl 0 rfl) ?_
      obtain ⟨h8, hf⟩ := ift hf
      obtain ⟨x7, S5, h6, hf⟩ := ob2 hf
      refine kx_callVi 11 C hl I (ci := 5) (As := []) (rest := [.int (iI i1)]) (c_X6_n G l fu _ _ _ _ h6) (cwV 0 C.ts gX6_goes_X6_n rfl rfl rfl nyV_X6_n ⟨Nat.le_of_ble_eq_true rfl, Nat.le_of_ble_eq_true rfl⟩) rfl h8 rfl rfl (Nat.le_of_ble_eq_true rfl) dX6_goes_11 ⟨Nat.le_of_ble_eq_true rfl, Nat.le_of_ble_eq_true rfl⟩ (fun H locs I => ?_)
      refine kx_icmp_ge 14 62 C dX6_goes_14 (by decide) (fun c9 => ?_) (fun c9 => ?_)
      · have hf := ifp c9 hf
        refine kx_iload_n 62 C dX6_goes_62 (lv_at hl 1 rfl) ?_
        obtain ⟨h10, hf⟩ := ift hf
        exact kx_zret 63 C I h10 hf dX6_goes_63
      · have hf := ifn c9 hf
        refine kx_iload_n 17 C dX6_goes_17 (lv_at hl 1 rfl) ?_
        refine kx_if_eq 18 54 C dX6_goes_18 (by decide) (fun c11 => ?_) (fun c11 => ?_)
        · have hf := ifp c11 hf
          exact ih2 _ _ _ _ _ _ _ hf I (lv_sub hl [0, 2] rfl)
        · have hf := ifn c11 hf
          refine kx_aload_n 21 C dX6_goes_21 (lv_at hl 0 rfl) ?_
          obtain ⟨q13, h12, hf⟩ := ob hf
          refine kx_getp 22 C I fl_X6_goes_27 h12 dX6_goes_22 ?_
          refine kx_aload_n 25 C dX6_goes_25 (lv_at hl 0 rfl) ?_
          obtain ⟨q15, h14, hf⟩ := ob hf
          refine kx_getp 26 C I fl_X6_goes_7 h14 dX6_goes_26 ?_
          refine kx_iconst 29 C dX6_goes_29 ?_
          refine kx_iload_n 30 C dX6_goes_30 (lv_at hl 2 rfl) ?_
          refine kx_iadd 31 C dX6_goes_31 ?_
          obtain ⟨x16, h17, hf⟩ := ob hf
          refine kx_iald 32 C I h17 dX6_goes_32 ?_
          obtain ⟨x18, h19, hf⟩ := ob hf
          refine kx_iald 33 C I h19 dX6_goes_33 ?_
          refine kx_aload_n 34 C dX6_goes_34 (lv_at hl 0 rfl) ?_
          obtain ⟨q21, h20, hf⟩ := ob hf
          refine kx_getp 35 C I fl_X6_goes_7 h20 dX6_goes_35 ?_
          refine kx_iconst 38 C dX6_goes_38 ?_
          refine kx_aload_n 39 C dX6_goes_39 (lv_at hl 0 rfl) ?_
          obtain ⟨q23, h22, hf⟩ := ob hf
          refine kx_getp 40 C I fl_X6_goes_27 h22 dX6_goes_40 ?_
          refine kx_iload_n 43 C dX6_goes_43 (lv_at hl 2 rfl) ?_
          obtain ⟨x24, h25, hf⟩ := ob hf
          refine kx_iald 44 C I h25 dX6_goes_44 ?_
          refine kx_iadd 45 C dX6_goes_45 ?_
          obtain ⟨x26, h27, hf⟩ := ob hf
          refine kx_iald 46 C I h27 dX6_goes_46 ?_
          refine kx_icmp_ne 47 54 C dX6_goes_47 (by decide) (fun c28 => ?_) (fun c28 => ?_)
          · have hf := ifn c28 hf
            exact ih2 _ _ _ _ _ _ _ hf I (lv_sub hl [0, 2] rfl)
          · have hf := ifp c28 hf
            refine kx_iconst 50 C dX6_goes_50 ?_
            refine kx_goto 51 55 C dX6_goes_51 (by decide) ?_
            exact ih3 _ _ _ _ _ _ _ hf I (lv_sub hl [0, 2] rfl)
    · intro S p0 i0 i1 H locs ls hf I hl
      replace hf : b_X6_goes_2 (g_X6_goes fu) fu S p0 i0 i1 = some (r, S') := hf
      unfold b_X6_goes_2 at hf
      refine kx_iconst 54 C dX6_goes_54 ?_
      exact ih3 _ _ _ _ _ _ _ hf I (lv_sub hl [0, 1] rfl)
    · intro S p0 i0 i1 H locs ls hf I hl
      replace hf : b_X6_goes_3 (g_X6_goes fu) fu S p0 i0 i1 = some (r, S') := hf
      unfold b_X6_goes_3 at hf
      refine kx_istore_n 55 C (lv' := [(2, .int (iI i1)), (0, .ref (xB G + p0)), (3, .int (iI i0))]) dX6_goes_55 hl (by decide) rfl rfl (fun ls hl => ?_)
      obtain ⟨x29, e30, hf⟩ := nmx_e hf
      refine kx_iinc 56 C (lv' := [(3, .int (iI x29)), (2, .int (iI i1)), (0, .ref (xB G + p0))]) dX6_goes_56 hl 2 rfl e30 (by decide) rfl (fun ls hl => ?_)
      refine kx_goto 59 9 C dX6_goes_59 (by decide) ?_
      exact ih1 _ _ _ _ _ _ _ hf I (lv_sub hl [2, 1, 0] rfl)
set_option maxHeartbeats 4000000 in
set_option maxRecDepth 100000 in
theorem c_X6_goes (G : xG) (l : Launch) (fu : Nat) (S S' : xS) (p0 : Nat) (i0 : Int) (r : Int) (hf : f_X6_goes fu S p0 i0 = some (r, S')) : Met l yX6_goes vsX6_goes rm_X6_goes (va_Pc [.ref (xB G + p0), .int (iI i0)] (xPre G S)) (xQi G r S') 0 0 (xA G) := by
  refine kx_met (ret := (some .boolean)) RX6 [(0, .ref (xB G + p0)), (1, .int (iI i0))] (by decide) rfl rfl (Nat.le_of_ble_eq_true rfl) rfl (fun p e s m below meth c ls C hin I hl => ?_)
  exact (w_X6_goes C r S' fu).1 S _ _ _ _ _ _ hf I hl
def rm_X6_goesWith : Room := { frames := 3, cells := 0, slots := 0, locals := 72 }
theorem nyS_X6_goesWith : yX6_goesWith.cls ≠ "java/lang/invoke/MethodHandle" ∧ yX6_goesWith.cls ≠ "java/lang/invoke/VarHandle" ∧ (parseMethodDescriptor yX6_goesWith.desc).map (fun d => d.parameters.length) = some 0 := by decide +kernel
theorem nyV_X6_goesWith : yX6_goesWith.cls = RX6 ∧ yX6_goesWith.cls ≠ "java/lang/invoke/MethodHandle" ∧ yX6_goesWith.cls ≠ "java/lang/invoke/VarHandle" ∧ (parseMethodDescriptor yX6_goesWith.desc).map (fun d => d.parameters.length) = some 0 := by decide +kernel
set_option maxHeartbeats 4000000 in
set_option maxRecDepth 100000 in
theorem w_X6_goesWith {G : xG} {p : Program} {l : Launch} {e : Env} {s : State} {m : MethodId} {args : Array Value} {below : List Frame} {meth : Method} {c : Code} (C : xK G p s m args meth c cX6_goesWith 3 vsX6_goesWith RX6 (some .int)) (r : Int) (S' : xS) : ∀ k : Nat,
  (∀ (S : xS) (p0 : Nat) (i0 i1 i2 : Int) (H : Heap) (locs : List Loc) (ls : Array Slot), g_X6_goesWith k 0 S p0 i0 i1 i2 = some (r, S') → xI G S s H locs → lv_has ls 3 [(0, .ref (xB G + p0))] → W p l e rm_X6_goesWith s m args below meth c H locs 0 0 (MQ below (xQi G r S') args s 0 0 (xA G)) (F0 m 0 ls [])) ∧
  (∀ (S : xS) (p0 : Nat) (i0 i1 i2 : Int) (H : Heap) (locs : List Loc) (ls : Array Slot), g_X6_goesWith k 1 S p0 i0 i1 i2 = some (r, S') → xI G S s H locs → lv_has ls 3 [(0, .ref (xB G + p0)), (1, .int (iI i0)), (2, .int (iI i1))] → W p l e rm_X6_goesWith s m args below meth c H locs 0 0 (MQ below (xQi G r S') args s 0 0 (xA G)) (F0 m 4 ls [])) ∧
  (∀ (S : xS) (p0 : Nat) (i0 i1 i2 : Int) (H : Heap) (locs : List Loc) (ls : Array Slot), g_X6_goesWith k 2 S p0 i0 i1 i2 = some (r, S') → xI G S s H locs → lv_has ls 3 [(0, .ref (xB G + p0)), (2, .int (iI i0))] → W p l e rm_X6_goesWith s m args below meth c H locs 0 0 (MQ below (xQi G r S') args s 0 0 (xA G)) (F0 m 26 ls [.int (iI i2), .int (iI i1)])) := by
  intro k
  induction k with
  | zero => exact ⟨fun _ _ _ _ _ _ _ _ hf => (by cases hf), fun _ _ _ _ _ _ _ _ hf => (by cases hf), fun _ _ _ _ _ _ _ _ hf => (by cases hf)⟩
  | succ fu ih =>
    obtain ⟨ih0, ih1, ih2⟩ := ih
    refine ⟨?_, ?_, ?_⟩
    · intro S p0 i0 i1 i2 H locs ls hf I hl
      replace hf : b_X6_goesWith_0 (g_X6_goesWith fu) fu S p0 i0 i1 i2 = some (r, S') := hf
      unfold b_X6_goesWith_0 at hf
      refine kx_iconst 0 C dX6_goesWith_0 ?_
      refine kx_istore_n 1 C (lv' := [(1, .int (iI 0)), (0, .ref (xB G + p0))]) dX6_goesWith_1 hl (by decide) rfl rfl (fun ls hl => ?_)
      refine kx_iconst 2 C dX6_goesWith_2 ?_
      refine kx_istore_n 3 C (lv' := [(2, .int (iI 0)), (1, .int (iI 0)), (0, .ref (xB G + p0))]) dX6_goesWith_3 hl (by decide) rfl rfl (fun ls hl => ?_)
      exact ih1 _ _ _ _ _ _ _ _ hf I (lv_sub hl [2, 1, 0] rfl)
    · intro S p0 i0 i1 i2 H locs ls hf I hl
      replace hf : b_X6_goesWith_1 (g_X6_goesWith fu) fu S p0 i0 i1 i2 = some (r, S') := hf
      unfold b_X6_goesWith_1 at hf
      refine kx_iload_n 4 C dX6_goesWith_4 (lv_at hl 2 rfl) ?_
      refine kx_aload_n 5 C dX6_goesWith_5 (lv_at hl 0 rfl) ?_
      obtain ⟨h4, hf⟩ := ift hf
      obtain ⟨x3, S1, h2, hf⟩ := ob2 hf
      refine kx_callVi 6 C hl I (ci := 5) (As := []) (rest := [.int (iI i1)]) (c_X6_ways G l fu _ _ _ _ h2) (cwV 0 C.ts gX6_goesWith_X6_ways rfl rfl rfl nyV_X6_ways ⟨Nat.le_of_ble_eq_true rfl, Nat.le_of_ble_eq_true rfl⟩) rfl h4 rfl rfl (Nat.le_of_ble_eq_true rfl) dX6_goesWith_6 ⟨Nat.le_of_ble_eq_true rfl, Nat.le_of_ble_eq_true rfl⟩ (fun H locs I => ?_)
      refine kx_icmp_ge 9 34 C dX6_goesWith_9 (by decide) (fun c5 => ?_) (fun c5 => ?_)
      · have hf := ifp c5 hf
        refine kx_iload_n 34 C dX6_goesWith_34 (lv_at hl 1 rfl) ?_
        exact kx_iret 35 C I hf dX6_goesWith_35
      · have hf := ifn c5 hf
        refine kx_iload_n 12 C dX6_goesWith_12 (lv_at hl 1 rfl) ?_
        refine kx_aload_n 13 C dX6_goesWith_13 (lv_at hl 0 rfl) ?_
        refine kx_iload_n 14 C dX6_goesWith_14 (lv_at hl 2 rfl) ?_
        obtain ⟨h9, hf⟩ := ift hf
        obtain ⟨x8, S6, h7, hf⟩ := ob2 hf
        refine kx_callVi 15 C hl I (ci := 5) (As := [.int (iI i1)]) (rest := [.int (iI i0)]) (c_X6_goes G l fu _ _ _ _ _ h7) (cwV 1 C.ts gX6_goesWith_X6_goes rfl rfl rfl nyV_X6_goes ⟨Nat.le_of_ble_eq_true rfl, Nat.le_of_ble_eq_true rfl⟩) rfl h9 rfl rfl (Nat.le_of_ble_eq_true rfl) dX6_goesWith_15 ⟨Nat.le_of_ble_eq_true rfl, Nat.le_of_ble_eq_true rfl⟩ (fun H locs I => ?_)
        refine kx_if_eq 18 25 C dX6_goesWith_18 (by decide) (fun c10 => ?_) (fun c10 => ?_)
        · have hf := ifp c10 hf
          refine kx_iconst 25 C dX6_goesWith_25 ?_
          exact ih2 _ _ _ _ _ _ _ _ hf I (lv_sub hl [0, 2] rfl)
        · have hf := ifn c10 hf
          refine kx_iconst 21 C dX6_goesWith_21 ?_
          refine kx_goto 22 26 C dX6_goesWith_22 (by decide) ?_
          exact ih2 _ _ _ _ _ _ _ _ hf I (lv_sub hl [0, 2] rfl)
    · intro S p0 i0 i1 i2 H locs ls hf I hl
      replace hf : b_X6_goesWith_2 (g_X6_goesWith fu) fu S p0 i0 i1 i2 = some (r, S') := hf
      unfold b_X6_goesWith_2 at hf
      refine kx_iadd 26 C dX6_goesWith_26 ?_
      obtain ⟨x11, e12, hf⟩ := nmx_e hf
      refine kx_istore_n 27 C (lv' := [(1, .int (iI x11)), (0, .ref (xB G + p0)), (2, .int (iI i0))]) dX6_goesWith_27 hl (by decide) e12 rfl (fun ls hl => ?_)
      obtain ⟨x13, e14, hf⟩ := nmx_e hf
      refine kx_iinc 28 C (lv' := [(2, .int (iI x13)), (1, .int (iI x11)), (0, .ref (xB G + p0))]) dX6_goesWith_28 hl 2 rfl e14 (by decide) rfl (fun ls hl => ?_)
      refine kx_goto 31 4 C dX6_goesWith_31 (by decide) ?_
      exact ih1 _ _ _ _ _ _ _ _ hf I (lv_sub hl [2, 1, 0] rfl)
set_option maxHeartbeats 4000000 in
set_option maxRecDepth 100000 in
theorem c_X6_goesWith (G : xG) (l : Launch) (fu : Nat) (S S' : xS) (p0 : Nat) (r : Int) (hf : f_X6_goesWith fu S p0 = some (r, S')) : Met l yX6_goesWith vsX6_goesWith rm_X6_goesWith (va_Pc [.ref (xB G + p0)] (xPre G S)) (xQi G r S') 0 0 (xA G) := by
  refine kx_met (ret := (some .int)) RX6 [(0, .ref (xB G + p0))] (by decide) rfl rfl (Nat.le_of_ble_eq_true rfl) rfl (fun p e s m below meth c ls C hin I hl => ?_)
  exact (w_X6_goesWith C r S' fu).1 S _ _ _ _ _ _ _ hf I hl
def rm_X6_isRoot : Room := { frames := 2, cells := 0, slots := 0, locals := 49 }
theorem hin_X6_isRoot_RX6 : ∀ w ∈ wsX60, w ∈ vsX6_isRoot := fun w h => inM (inlX6 w h)
theorem fl_X6_isRoot_7 : xFl vsX6_isRoot RX6 7 5 0 := ⟨RX6, TX6, 30, rfl, by decide, hin_X6_isRoot_RX6, inM mq_4_16, rfl⟩
theorem fl_X6_isRoot_27 : xFl vsX6_isRoot RX6 27 5 6 := ⟨RX6, TX6, 30, rfl, by decide, hin_X6_isRoot_RX6, inM mq_4_22, rfl⟩
theorem nyS_X6_isRoot : yX6_isRoot.cls ≠ "java/lang/invoke/MethodHandle" ∧ yX6_isRoot.cls ≠ "java/lang/invoke/VarHandle" ∧ (parseMethodDescriptor yX6_isRoot.desc).map (fun d => d.parameters.length) = some 2 := by decide +kernel
theorem nyV_X6_isRoot : yX6_isRoot.cls = RX6 ∧ yX6_isRoot.cls ≠ "java/lang/invoke/MethodHandle" ∧ yX6_isRoot.cls ≠ "java/lang/invoke/VarHandle" ∧ (parseMethodDescriptor yX6_isRoot.desc).map (fun d => d.parameters.length) = some 2 := by decide +kernel
set_option maxHeartbeats 4000000 in
set_option maxRecDepth 100000 in
theorem w_X6_isRoot {G : xG} {p : Program} {l : Launch} {e : Env} {s : State} {m : MethodId} {args : Array Value} {below : List Frame} {meth : Method} {c : Code} (C : xK G p s m args meth c cX6_isRoot 7 vsX6_isRoot RX6 (some .boolean)) (r : Int) (S' : xS) : ∀ k : Nat,
  (∀ (S : xS) (p0 : Nat) (i0 i1 i2 i3 : Int) (H : Heap) (locs : List Loc) (ls : Array Slot), g_X6_isRoot k 0 S p0 i0 i1 i2 i3 = some (r, S') → xI G S s H locs → lv_has ls 7 [(0, .ref (xB G + p0)), (1, .int (iI i0)), (2, .int (iI i1))] → W p l e rm_X6_isRoot s m args below meth c H locs 0 0 (MQ below (xQi G r S') args s 0 0 (xA G)) (F0 m 0 ls [])) ∧
  (∀ (S : xS) (p0 : Nat) (i0 i1 i2 i3 : Int) (H : Heap) (locs : List Loc) (ls : Array Slot), g_X6_isRoot k 1 S p0 i0 i1 i2 i3 = some (r, S') → xI G S s H locs → lv_has ls 7 [(0, .ref (xB G + p0)), (2, .int (iI i0)), (3, .int (iI i1)), (4, .int (iI i2))] → W p l e rm_X6_isRoot s m args below meth c H locs 0 0 (MQ below (xQi G r S') args s 0 0 (xA G)) (F0 m 10 ls [])) ∧
  (∀ (S : xS) (p0 : Nat) (i0 i1 i2 i3 : Int) (H : Heap) (locs : List Loc) (ls : Array Slot), g_X6_isRoot k 2 S p0 i0 i1 i2 i3 = some (r, S') → xI G S s H locs → lv_has ls 7 [(0, .ref (xB G + p0)), (2, .int (iI i0)), (4, .int (iI i1)), (5, .int (iI i2)), (6, .int (iI i3))] → W p l e rm_X6_isRoot s m args below meth c H locs 0 0 (MQ below (xQi G r S') args s 0 0 (xA G)) (F0 m 30 ls [])) ∧
  (∀ (S : xS) (p0 : Nat) (i0 i1 i2 i3 : Int) (H : Heap) (locs : List Loc) (ls : Array Slot), g_X6_isRoot k 3 S p0 i0 i1 i2 i3 = some (r, S') → xI G S s H locs → lv_has ls 7 [(0, .ref (xB G + p0)), (2, .int (iI i0)), (4, .int (iI i1))] → W p l e rm_X6_isRoot s m args below meth c H locs 0 0 (MQ below (xQi G r S') args s 0 0 (xA G)) (F0 m 70 ls [.int (iI i2)])) := by
  intro k
  induction k with
  | zero => exact ⟨fun _ _ _ _ _ _ _ _ _ hf => (by cases hf), fun _ _ _ _ _ _ _ _ _ hf => (by cases hf), fun _ _ _ _ _ _ _ _ _ hf => (by cases hf), fun _ _ _ _ _ _ _ _ _ hf => (by cases hf)⟩
  | succ fu ih =>
    obtain ⟨ih0, ih1, ih2, ih3⟩ := ih
    refine ⟨?_, ?_, ?_, ?_⟩
    · intro S p0 i0 i1 i2 i3 H locs ls hf I hl
      replace hf : b_X6_isRoot_0 (g_X6_isRoot fu) fu S p0 i0 i1 i2 i3 = some (r, S') := hf
      unfold b_X6_isRoot_0 at hf
      refine kx_aload_n 0 C dX6_isRoot_0 (lv_at hl 0 rfl) ?_
      refine kx_iload_n 1 C dX6_isRoot_1 (lv_at hl 1 rfl) ?_
      obtain ⟨h4, hf⟩ := ift hf
      obtain ⟨z3, S1, h2, hf⟩ := ob2 hf
      refine kx_callVv 2 C hl I (ci := 5) (As := [.int (iI i0)]) (rest := []) (c_X6_takeRank G l fu _ _ _ _ _ h2) (cwV 1 C.ts gX6_isRoot_X6_takeRank rfl rfl rfl nyV_X6_takeRank ⟨Nat.le_of_ble_eq_true rfl, Nat.le_of_ble_eq_true rfl⟩) rfl h4 rfl rfl (Nat.le_of_ble_eq_true rfl) dX6_isRoot_2 ⟨Nat.le_of_ble_eq_true rfl, Nat.le_of_ble_eq_true rfl⟩ (fun H locs I => ?_)
      refine kx_iconst 5 C dX6_isRoot_5 ?_
      refine kx_istore_n 6 C (lv' := [(3, .int (iI 1)), (0, .ref (xB G + p0)), (1, .int (iI i0)), (2, .int (iI i1))]) dX6_isRoot_6 hl (by decide) rfl rfl (fun ls hl => ?_)
      refine kx_iconst 7 C dX6_isRoot_7 ?_
      refine kx_istore 8 C (lv' := [(4, .int (iI 0)), (3, .int (iI 1)), (0, .ref (xB G + p0)), (1, .int (iI i0)), (2, .int (iI i1))]) dX6_isRoot_8 hl (by decide) rfl rfl (fun ls hl => ?_)
      exact ih1 _ _ _ _ _ _ _ _ _ hf I (lv_sub hl [2, 4, 1, 0] rfl)
    · intro S p0 i0 i1 i2 i3 H locs ls hf I hl
      replace hf : b_X6_isRoot_1 (g_X6_isRoot fu) fu S p0 i0 i1 i2 i3 = some (r, S') := hf
      unfold b_X6_isRoot_1 at hf
      refine kx_iload 10 C dX6_isRoot_10 (lv_at hl 3 rfl) ?_
      refine kx_aload_n 12 C dX6_isRoot_12 (lv_at hl 0 rfl) ?_
      obtain ⟨h8, hf⟩ := ift hf
      obtain ⟨x7, S5, h6, hf⟩ := ob2 hf
      refine kx_callVi 13 C hl I (ci := 5) (As := []) (rest := [.int (iI i2)]) (c_X6_n G l fu _ _ _ _ h6) (cwV 0 C.ts gX6_isRoot_X6_n rfl rfl rfl nyV_X6_n ⟨Nat.le_of_ble_eq_true rfl, Nat.le_of_ble_eq_true rfl⟩) rfl h8 rfl rfl (Nat.le_of_ble_eq_true rfl) dX6_isRoot_13 ⟨Nat.le_of_ble_eq_true rfl, Nat.le_of_ble_eq_true rfl⟩ (fun H locs I => ?_)
      refine kx_icmp_ge 16 77 C dX6_isRoot_16 (by decide) (fun c9 => ?_) (fun c9 => ?_)
      · have hf := ifp c9 hf
        refine kx_iload_n 77 C dX6_isRoot_77 (lv_at hl 2 rfl) ?_
        obtain ⟨h10, hf⟩ := ift hf
        exact kx_zret 78 C I h10 hf dX6_isRoot_78
      · have hf := ifn c9 hf
        refine kx_iload_n 19 C dX6_isRoot_19 (lv_at hl 2 rfl) ?_
        refine kx_if_eq 20 77 C dX6_isRoot_20 (by decide) (fun c11 => ?_) (fun c11 => ?_)
        · have hf := ifp c11 hf
          refine kx_iload_n 77 C dX6_isRoot_77 (lv_at hl 2 rfl) ?_
          obtain ⟨h12, hf⟩ := ift hf
          exact kx_zret 78 C I h12 hf dX6_isRoot_78
        · have hf := ifn c11 hf
          refine kx_iload 23 C dX6_isRoot_23 (lv_at hl 3 rfl) ?_
          refine kx_istore 25 C (lv' := [(5, .int (iI i2)), (0, .ref (xB G + p0)), (2, .int (iI i0)), (3, .int (iI i1)), (4, .int (iI i2))]) dX6_isRoot_25 hl (by decide) rfl rfl (fun ls hl => ?_)
          refine kx_iconst 27 C dX6_isRoot_27 ?_
          refine kx_istore 28 C (lv' := [(6, .int (iI 0)), (5, .int (iI i2)), (0, .ref (xB G + p0)), (2, .int (iI i0)), (3, .int (iI i1)), (4, .int (iI i2))]) dX6_isRoot_28 hl (by decide) rfl rfl (fun ls hl => ?_)
          exact ih2 _ _ _ _ _ _ _ _ _ hf I (lv_sub hl [2, 3, 5, 1, 0] rfl)
    · intro S p0 i0 i1 i2 i3 H locs ls hf I hl
      replace hf : b_X6_isRoot_2 (g_X6_isRoot fu) fu S p0 i0 i1 i2 i3 = some (r, S') := hf
      unfold b_X6_isRoot_2 at hf
      refine kx_iload 30 C dX6_isRoot_30 (lv_at hl 4 rfl) ?_
      refine kx_iload_n 32 C dX6_isRoot_32 (lv_at hl 1 rfl) ?_
      refine kx_icmp_ge 33 51 C dX6_isRoot_33 (by decide) (fun c13 => ?_) (fun c13 => ?_)
      · have hf := ifp c13 hf
        refine kx_iload 51 C dX6_isRoot_51 (lv_at hl 3 rfl) ?_
        refine kx_aload_n 53 C dX6_isRoot_53 (lv_at hl 0 rfl) ?_
        obtain ⟨q15, h14, hf⟩ := ob hf
        refine kx_getp 54 C I fl_X6_isRoot_7 h14 dX6_isRoot_54 ?_
        refine kx_iconst 57 C dX6_isRoot_57 ?_
        refine kx_iload 58 C dX6_isRoot_58 (lv_at hl 2 rfl) ?_
        refine kx_iadd 60 C dX6_isRoot_60 ?_
        obtain ⟨x16, h17, hf⟩ := ob hf
        refine kx_iald 61 C I h17 dX6_isRoot_61 ?_
        refine kx_icmp_ne 62 69 C dX6_isRoot_62 (by decide) (fun c18 => ?_) (fun c18 => ?_)
        · have hf := ifn c18 hf
          refine kx_iconst 69 C dX6_isRoot_69 ?_
          exact ih3 _ _ _ _ _ _ _ _ _ hf I (lv_sub hl [0, 1, 2] rfl)
        · have hf := ifp c18 hf
          refine kx_iconst 65 C dX6_isRoot_65 ?_
          refine kx_goto 66 70 C dX6_isRoot_66 (by decide) ?_
          exact ih3 _ _ _ _ _ _ _ _ _ hf I (lv_sub hl [0, 1, 2] rfl)
      · have hf := ifn c13 hf
        refine kx_aload_n 36 C dX6_isRoot_36 (lv_at hl 0 rfl) ?_
        obtain ⟨q20, h19, hf⟩ := ob hf
        refine kx_getp 37 C I fl_X6_isRoot_27 h19 dX6_isRoot_37 ?_
        refine kx_iload 40 C dX6_isRoot_40 (lv_at hl 3 rfl) ?_
        obtain ⟨x21, h22, hf⟩ := ob hf
        refine kx_iald 42 C I h22 dX6_isRoot_42 ?_
        refine kx_istore 43 C (lv' := [(5, .int (iI x21)), (0, .ref (xB G + p0)), (2, .int (iI i0)), (4, .int (iI i1)), (6, .int (iI i3))]) dX6_isRoot_43 hl (by decide) rfl rfl (fun ls hl => ?_)
        obtain ⟨x23, e24, hf⟩ := nmx_e hf
        refine kx_iinc 45 C (lv' := [(6, .int (iI x23)), (5, .int (iI x21)), (0, .ref (xB G + p0)), (2, .int (iI i0)), (4, .int (iI i1))]) dX6_isRoot_45 hl 4 rfl e24 (by decide) rfl (fun ls hl => ?_)
        refine kx_goto 48 30 C dX6_isRoot_48 (by decide) ?_
        exact ih2 _ _ _ _ _ _ _ _ _ hf I (lv_sub hl [2, 3, 4, 1, 0] rfl)
    · intro S p0 i0 i1 i2 i3 H locs ls hf I hl
      replace hf : b_X6_isRoot_3 (g_X6_isRoot fu) fu S p0 i0 i1 i2 i3 = some (r, S') := hf
      unfold b_X6_isRoot_3 at hf
      refine kx_istore_n 70 C (lv' := [(3, .int (iI i2)), (0, .ref (xB G + p0)), (2, .int (iI i0)), (4, .int (iI i1))]) dX6_isRoot_70 hl (by decide) rfl rfl (fun ls hl => ?_)
      obtain ⟨x25, e26, hf⟩ := nmx_e hf
      refine kx_iinc 71 C (lv' := [(4, .int (iI x25)), (3, .int (iI i2)), (0, .ref (xB G + p0)), (2, .int (iI i0))]) dX6_isRoot_71 hl 3 rfl e26 (by decide) rfl (fun ls hl => ?_)
      refine kx_goto 74 10 C dX6_isRoot_74 (by decide) ?_
      exact ih1 _ _ _ _ _ _ _ _ _ hf I (lv_sub hl [2, 3, 1, 0] rfl)
set_option maxHeartbeats 4000000 in
set_option maxRecDepth 100000 in
theorem c_X6_isRoot (G : xG) (l : Launch) (fu : Nat) (S S' : xS) (p0 : Nat) (i0 : Int) (i1 : Int) (r : Int) (hf : f_X6_isRoot fu S p0 i0 i1 = some (r, S')) : Met l yX6_isRoot vsX6_isRoot rm_X6_isRoot (va_Pc [.ref (xB G + p0), .int (iI i0), .int (iI i1)] (xPre G S)) (xQi G r S') 0 0 (xA G) := by
  refine kx_met (ret := (some .boolean)) RX6 [(0, .ref (xB G + p0)), (1, .int (iI i0)), (2, .int (iI i1))] (by decide) rfl rfl (Nat.le_of_ble_eq_true rfl) rfl (fun p e s m below meth c ls C hin I hl => ?_)
  exact (w_X6_isRoot C r S' fu).1 S _ _ _ _ _ _ _ _ hf I hl
def rm_X6_roots : Room := { frames := 3, cells := 0, slots := 0, locals := 75 }
theorem mw_X6_roots_0 : Cond.constantLong RX6 81 (2) ∈ vsX6_roots := inM mq_6_5
theorem mw_X6_roots_1 : Cond.constantLong RX6 182 (9) ∈ vsX6_roots := inM mq_31_4
theorem nyS_X6_roots : yX6_roots.cls ≠ "java/lang/invoke/MethodHandle" ∧ yX6_roots.cls ≠ "java/lang/invoke/VarHandle" ∧ (parseMethodDescriptor yX6_roots.desc).map (fun d => d.parameters.length) = some 1 := by decide +kernel
theorem nyV_X6_roots : yX6_roots.cls = RX6 ∧ yX6_roots.cls ≠ "java/lang/invoke/MethodHandle" ∧ yX6_roots.cls ≠ "java/lang/invoke/VarHandle" ∧ (parseMethodDescriptor yX6_roots.desc).map (fun d => d.parameters.length) = some 1 := by decide +kernel
set_option maxHeartbeats 4000000 in
set_option maxRecDepth 100000 in
theorem w_X6_roots {G : xG} {p : Program} {l : Launch} {e : Env} {s : State} {m : MethodId} {args : Array Value} {below : List Frame} {meth : Method} {c : Code} (C : xK G p s m args meth c cX6_roots 4 vsX6_roots RX6 (some .int)) (r : Int) (S' : xS) : ∀ k : Nat,
  (∀ (S : xS) (p0 : Nat) (i0 i1 i2 i3 : Int) (H : Heap) (locs : List Loc) (ls : Array Slot), g_X6_roots k 0 S p0 i0 i1 i2 i3 = some (r, S') → xI G S s H locs → lv_has ls 4 [(0, .ref (xB G + p0)), (1, .int (iI i0))] → W p l e rm_X6_roots s m args below meth c H locs 0 0 (MQ below (xQi G r S') args s 0 0 (xA G)) (F0 m 0 ls [])) ∧
  (∀ (S : xS) (p0 : Nat) (i0 i1 i2 i3 : Int) (H : Heap) (locs : List Loc) (ls : Array Slot), g_X6_roots k 1 S p0 i0 i1 i2 i3 = some (r, S') → xI G S s H locs → lv_has ls 4 [(0, .ref (xB G + p0)), (1, .int (iI i0)), (2, .int (iI i1)), (3, .int (iI i2))] → W p l e rm_X6_roots s m args below meth c H locs 0 0 (MQ below (xQi G r S') args s 0 0 (xA G)) (F0 m 25 ls [])) ∧
  (∀ (S : xS) (p0 : Nat) (i0 i1 i2 i3 : Int) (H : Heap) (locs : List Loc) (ls : Array Slot), g_X6_roots k 2 S p0 i0 i1 i2 i3 = some (r, S') → xI G S s H locs → lv_has ls 4 [(0, .ref (xB G + p0)), (1, .int (iI i0)), (3, .int (iI i1))] → W p l e rm_X6_roots s m args below meth c H locs 0 0 (MQ below (xQi G r S') args s 0 0 (xA G)) (F0 m 48 ls [.int (iI i3), .int (iI i2)])) := by
  intro k
  induction k with
  | zero => exact ⟨fun _ _ _ _ _ _ _ _ _ hf => (by cases hf), fun _ _ _ _ _ _ _ _ _ hf => (by cases hf), fun _ _ _ _ _ _ _ _ _ hf => (by cases hf)⟩
  | succ fu ih =>
    obtain ⟨ih0, ih1, ih2⟩ := ih
    refine ⟨?_, ?_, ?_⟩
    · intro S p0 i0 i1 i2 i3 H locs ls hf I hl
      replace hf : b_X6_roots_0 (g_X6_roots fu) fu S p0 i0 i1 i2 i3 = some (r, S') := hf
      unfold b_X6_roots_0 at hf
      refine kx_iload_n 0 C dX6_roots_0 (lv_at hl 1 rfl) ?_
      refine kx_i2l 1 C dX6_roots_1 ?_
      refine kx_ldc2 2 C (z := 2) mw_X6_roots_0 dX6_roots_2 (by decide) ?_
      refine kx_ldc2 5 C (z := 9) mw_X6_roots_1 dX6_roots_5 (by decide) ?_
      obtain ⟨x3, S1, h2, hf⟩ := ob2 hf
      refine kx_callSi 8 C hl I (As := [.long (lI (wI i0)), .long (lI 2), .long (lI 9)]) (rest := []) (c_X6_in G l fu _ _ _ _ _ _ h2) (va_cwS 3 C.ts gX6_roots_X6_in rfl rfl rfl nyS_X6_in ⟨Nat.le_of_ble_eq_true rfl, Nat.le_of_ble_eq_true rfl⟩) rfl rfl (Nat.le_of_ble_eq_true rfl) dX6_roots_8 ⟨Nat.le_of_ble_eq_true rfl, Nat.le_of_ble_eq_true rfl⟩ (fun H locs I => ?_)
      refine kx_if_ne 11 21 C dX6_roots_11 (by decide) (fun c4 => ?_) (fun c4 => ?_)
      · have hf := ifn c4 hf
        refine kx_iconst 21 C dX6_roots_21 ?_
        refine kx_istore_n 22 C (lv' := [(2, .int (iI 0)), (0, .ref (xB G + p0)), (1, .int (iI i0))]) dX6_roots_22 hl (by decide) rfl rfl (fun ls hl => ?_)
        refine kx_iconst 23 C dX6_roots_23 ?_
        refine kx_istore_n 24 C (lv' := [(3, .int (iI 0)), (2, .int (iI 0)), (0, .ref (xB G + p0)), (1, .int (iI i0))]) dX6_roots_24 hl (by decide) rfl rfl (fun ls hl => ?_)
        exact ih1 _ _ _ _ _ _ _ _ _ hf I (lv_sub hl [2, 3, 1, 0] rfl)
      · have hf := ifp c4 hf
        refine kx_aload_n 14 C dX6_roots_14 (lv_at hl 0 rfl) ?_
        refine kx_bipush 15 C dX6_roots_15 (by decide) ?_
        obtain ⟨h8, hf⟩ := ift hf
        obtain ⟨x7, S5, h6, hf⟩ := ob2 hf
        refine kx_callVi 17 C hl I (ci := 5) (As := [.int (iI ((-2)))]) (rest := []) (c_X6_bad G l fu _ _ _ _ _ h6) (cwV 1 C.ts gX6_roots_X6_bad rfl rfl rfl nyV_X6_bad ⟨Nat.le_of_ble_eq_true rfl, Nat.le_of_ble_eq_true rfl⟩) rfl h8 rfl rfl (Nat.le_of_ble_eq_true rfl) dX6_roots_17 ⟨Nat.le_of_ble_eq_true rfl, Nat.le_of_ble_eq_true rfl⟩ (fun H locs I => ?_)
        exact kx_iret 20 C I hf dX6_roots_20
    · intro S p0 i0 i1 i2 i3 H locs ls hf I hl
      replace hf : b_X6_roots_1 (g_X6_roots fu) fu S p0 i0 i1 i2 i3 = some (r, S') := hf
      unfold b_X6_roots_1 at hf
      refine kx_iload_n 25 C dX6_roots_25 (lv_at hl 3 rfl) ?_
      refine kx_aload_n 26 C dX6_roots_26 (lv_at hl 0 rfl) ?_
      obtain ⟨h12, hf⟩ := ift hf
      obtain ⟨x11, S9, h10, hf⟩ := ob2 hf
      refine kx_callVi 27 C hl I (ci := 5) (As := []) (rest := [.int (iI i2)]) (c_X6_ways G l fu _ _ _ _ h10) (cwV 0 C.ts gX6_roots_X6_ways rfl rfl rfl nyV_X6_ways ⟨Nat.le_of_ble_eq_true rfl, Nat.le_of_ble_eq_true rfl⟩) rfl h12 rfl rfl (Nat.le_of_ble_eq_true rfl) dX6_roots_27 ⟨Nat.le_of_ble_eq_true rfl, Nat.le_of_ble_eq_true rfl⟩ (fun H locs I => ?_)
      refine kx_icmp_ge 30 56 C dX6_roots_30 (by decide) (fun c13 => ?_) (fun c13 => ?_)
      · have hf := ifp c13 hf
        refine kx_iload_n 56 C dX6_roots_56 (lv_at hl 2 rfl) ?_
        exact kx_iret 57 C I hf dX6_roots_57
      · have hf := ifn c13 hf
        refine kx_iload_n 33 C dX6_roots_33 (lv_at hl 2 rfl) ?_
        refine kx_aload_n 34 C dX6_roots_34 (lv_at hl 0 rfl) ?_
        refine kx_iload_n 35 C dX6_roots_35 (lv_at hl 3 rfl) ?_
        refine kx_iload_n 36 C dX6_roots_36 (lv_at hl 1 rfl) ?_
        obtain ⟨h17, hf⟩ := ift hf
        obtain ⟨x16, S14, h15, hf⟩ := ob2 hf
        refine kx_callVi 37 C hl I (ci := 5) (As := [.int (iI i2), .int (iI i0)]) (rest := [.int (iI i1)]) (c_X6_isRoot G l fu _ _ _ _ _ _ h15) (cwV 2 C.ts gX6_roots_X6_isRoot rfl rfl rfl nyV_X6_isRoot ⟨Nat.le_of_ble_eq_true rfl, Nat.le_of_ble_eq_true rfl⟩) rfl h17 rfl rfl (Nat.le_of_ble_eq_true rfl) dX6_roots_37 ⟨Nat.le_of_ble_eq_true rfl, Nat.le_of_ble_eq_true rfl⟩ (fun H locs I => ?_)
        refine kx_if_eq 40 47 C dX6_roots_40 (by decide) (fun c18 => ?_) (fun c18 => ?_)
        · have hf := ifp c18 hf
          refine kx_iconst 47 C dX6_roots_47 ?_
          exact ih2 _ _ _ _ _ _ _ _ _ hf I (lv_sub hl [0, 1, 3] rfl)
        · have hf := ifn c18 hf
          refine kx_iconst 43 C dX6_roots_43 ?_
          refine kx_goto 44 48 C dX6_roots_44 (by decide) ?_
          exact ih2 _ _ _ _ _ _ _ _ _ hf I (lv_sub hl [0, 1, 3] rfl)
    · intro S p0 i0 i1 i2 i3 H locs ls hf I hl
      replace hf : b_X6_roots_2 (g_X6_roots fu) fu S p0 i0 i1 i2 i3 = some (r, S') := hf
      unfold b_X6_roots_2 at hf
      refine kx_iadd 48 C dX6_roots_48 ?_
      obtain ⟨x19, e20, hf⟩ := nmx_e hf
      refine kx_istore_n 49 C (lv' := [(2, .int (iI x19)), (0, .ref (xB G + p0)), (1, .int (iI i0)), (3, .int (iI i1))]) dX6_roots_49 hl (by decide) e20 rfl (fun ls hl => ?_)
      obtain ⟨x21, e22, hf⟩ := nmx_e hf
      refine kx_iinc 50 C (lv' := [(3, .int (iI x21)), (2, .int (iI x19)), (0, .ref (xB G + p0)), (1, .int (iI i0))]) dX6_roots_50 hl 3 rfl e22 (by decide) rfl (fun ls hl => ?_)
      refine kx_goto 53 25 C dX6_roots_53 (by decide) ?_
      exact ih1 _ _ _ _ _ _ _ _ _ hf I (lv_sub hl [2, 3, 1, 0] rfl)
set_option maxHeartbeats 4000000 in
set_option maxRecDepth 100000 in
theorem c_X6_roots (G : xG) (l : Launch) (fu : Nat) (S S' : xS) (p0 : Nat) (i0 : Int) (r : Int) (hf : f_X6_roots fu S p0 i0 = some (r, S')) : Met l yX6_roots vsX6_roots rm_X6_roots (va_Pc [.ref (xB G + p0), .int (iI i0)] (xPre G S)) (xQi G r S') 0 0 (xA G) := by
  refine kx_met (ret := (some .int)) RX6 [(0, .ref (xB G + p0)), (1, .int (iI i0))] (by decide) rfl rfl (Nat.le_of_ble_eq_true rfl) rfl (fun p e s m below meth c ls C hin I hl => ?_)
  exact (w_X6_roots C r S' fu).1 S _ _ _ _ _ _ _ _ hf I hl
def rm_X6_lengths : Room := { frames := 1, cells := 0, slots := 0, locals := 23 }
theorem nyS_X6_lengths : yX6_lengths.cls ≠ "java/lang/invoke/MethodHandle" ∧ yX6_lengths.cls ≠ "java/lang/invoke/VarHandle" ∧ (parseMethodDescriptor yX6_lengths.desc).map (fun d => d.parameters.length) = some 0 := by decide +kernel
theorem nyV_X6_lengths : yX6_lengths.cls = RX6 ∧ yX6_lengths.cls ≠ "java/lang/invoke/MethodHandle" ∧ yX6_lengths.cls ≠ "java/lang/invoke/VarHandle" ∧ (parseMethodDescriptor yX6_lengths.desc).map (fun d => d.parameters.length) = some 0 := by decide +kernel
set_option maxHeartbeats 4000000 in
set_option maxRecDepth 100000 in
theorem w_X6_lengths {G : xG} {p : Program} {l : Launch} {e : Env} {s : State} {m : MethodId} {args : Array Value} {below : List Frame} {meth : Method} {c : Code} (C : xK G p s m args meth c cX6_lengths 3 vsX6_lengths RX6 (some .int)) (r : Int) (S' : xS) : ∀ k : Nat,
  (∀ (S : xS) (p0 : Nat) (i0 i1 : Int) (H : Heap) (locs : List Loc) (ls : Array Slot), g_X6_lengths k 0 S p0 i0 i1 = some (r, S') → xI G S s H locs → lv_has ls 3 [(0, .ref (xB G + p0))] → W p l e rm_X6_lengths s m args below meth c H locs 0 0 (MQ below (xQi G r S') args s 0 0 (xA G)) (F0 m 0 ls [])) ∧
  (∀ (S : xS) (p0 : Nat) (i0 i1 : Int) (H : Heap) (locs : List Loc) (ls : Array Slot), g_X6_lengths k 1 S p0 i0 i1 = some (r, S') → xI G S s H locs → lv_has ls 3 [(0, .ref (xB G + p0)), (1, .int (iI i0)), (2, .int (iI i1))] → W p l e rm_X6_lengths s m args below meth c H locs 0 0 (MQ below (xQi G r S') args s 0 0 (xA G)) (F0 m 4 ls [])) := by
  intro k
  induction k with
  | zero => exact ⟨fun _ _ _ _ _ _ _ hf => (by cases hf), fun _ _ _ _ _ _ _ hf => (by cases hf)⟩
  | succ fu ih =>
    obtain ⟨ih0, ih1⟩ := ih
    refine ⟨?_, ?_⟩
    · intro S p0 i0 i1 H locs ls hf I hl
      replace hf : b_X6_lengths_0 (g_X6_lengths fu) fu S p0 i0 i1 = some (r, S') := hf
      unfold b_X6_lengths_0 at hf
      refine kx_iconst 0 C dX6_lengths_0 ?_
      refine kx_istore_n 1 C (lv' := [(1, .int (iI 0)), (0, .ref (xB G + p0))]) dX6_lengths_1 hl (by decide) rfl rfl (fun ls hl => ?_)
      refine kx_iconst 2 C dX6_lengths_2 ?_
      refine kx_istore_n 3 C (lv' := [(2, .int (iI 0)), (1, .int (iI 0)), (0, .ref (xB G + p0))]) dX6_lengths_3 hl (by decide) rfl rfl (fun ls hl => ?_)
      exact ih1 _ _ _ _ _ _ _ hf I (lv_sub hl [2, 1, 0] rfl)
    · intro S p0 i0 i1 H locs ls hf I hl
      replace hf : b_X6_lengths_1 (g_X6_lengths fu) fu S p0 i0 i1 = some (r, S') := hf
      unfold b_X6_lengths_1 at hf
      refine kx_iload_n 4 C dX6_lengths_4 (lv_at hl 2 rfl) ?_
      refine kx_aload_n 5 C dX6_lengths_5 (lv_at hl 0 rfl) ?_
      obtain ⟨h4, hf⟩ := ift hf
      obtain ⟨x3, S1, h2, hf⟩ := ob2 hf
      refine kx_callVi 6 C hl I (ci := 5) (As := []) (rest := [.int (iI i1)]) (c_X6_n G l fu _ _ _ _ h2) (cwV 0 C.ts gX6_lengths_X6_n rfl rfl rfl nyV_X6_n ⟨Nat.le_of_ble_eq_true rfl, Nat.le_of_ble_eq_true rfl⟩) rfl h4 rfl rfl (Nat.le_of_ble_eq_true rfl) dX6_lengths_6 ⟨Nat.le_of_ble_eq_true rfl, Nat.le_of_ble_eq_true rfl⟩ (fun H locs I => ?_)
      refine kx_icmp_ge 9 32 C dX6_lengths_9 (by decide) (fun c5 => ?_) (fun c5 => ?_)
      · have hf := ifp c5 hf
        refine kx_iload_n 32 C dX6_lengths_32 (lv_at hl 1 rfl) ?_
        exact kx_iret 33 C I hf dX6_lengths_33
      · have hf := ifn c5 hf
        refine kx_iload_n 12 C dX6_lengths_12 (lv_at hl 1 rfl) ?_
        refine kx_iconst 13 C dX6_lengths_13 ?_
        refine kx_iconst 14 C dX6_lengths_14 ?_
        refine kx_aload_n 15 C dX6_lengths_15 (lv_at hl 0 rfl) ?_
        refine kx_iload_n 16 C dX6_lengths_16 (lv_at hl 2 rfl) ?_
        obtain ⟨h9, hf⟩ := ift hf
        obtain ⟨x8, S6, h7, hf⟩ := ob2 hf
        refine kx_callVi 17 C hl I (ci := 5) (As := [.int (iI i1)]) (rest := [.int (iI 3), .int (iI 1), .int (iI i0)]) (c_X6_ringOf G l fu _ _ _ _ _ h7) (cwV 1 C.ts gX6_lengths_X6_ringOf rfl rfl rfl nyV_X6_ringOf ⟨Nat.le_of_ble_eq_true rfl, Nat.le_of_ble_eq_true rfl⟩) rfl h9 rfl rfl (Nat.le_of_ble_eq_true rfl) dX6_lengths_17 ⟨Nat.le_of_ble_eq_true rfl, Nat.le_of_ble_eq_true rfl⟩ (fun H locs I => ?_)
        refine kx_iconst 20 C dX6_lengths_20 ?_
        refine kx_isub 21 C dX6_lengths_21 ?_
        refine kx_imul 22 C dX6_lengths_22 ?_
        refine kx_ishl 23 C dX6_lengths_23 ?_
        refine kx_iadd 24 C dX6_lengths_24 ?_
        obtain ⟨x10, e11, hf⟩ := nmx_e hf
        refine kx_istore_n 25 C (lv' := [(1, .int (iI x10)), (0, .ref (xB G + p0)), (2, .int (iI i1))]) dX6_lengths_25 hl (by decide) e11 rfl (fun ls hl => ?_)
        obtain ⟨x12, e13, hf⟩ := nmx_e hf
        refine kx_iinc 26 C (lv' := [(2, .int (iI x12)), (1, .int (iI x10)), (0, .ref (xB G + p0))]) dX6_lengths_26 hl 2 rfl e13 (by decide) rfl (fun ls hl => ?_)
        refine kx_goto 29 4 C dX6_lengths_29 (by decide) ?_
        exact ih1 _ _ _ _ _ _ _ hf I (lv_sub hl [2, 1, 0] rfl)
set_option maxHeartbeats 4000000 in
set_option maxRecDepth 100000 in
theorem c_X6_lengths (G : xG) (l : Launch) (fu : Nat) (S S' : xS) (p0 : Nat) (r : Int) (hf : f_X6_lengths fu S p0 = some (r, S')) : Met l yX6_lengths vsX6_lengths rm_X6_lengths (va_Pc [.ref (xB G + p0)] (xPre G S)) (xQi G r S') 0 0 (xA G) := by
  refine kx_met (ret := (some .int)) RX6 [(0, .ref (xB G + p0))] (by decide) rfl rfl (Nat.le_of_ble_eq_true rfl) rfl (fun p e s m below meth c ls C hin I hl => ?_)
  exact (w_X6_lengths C r S' fu).1 S _ _ _ _ _ _ hf I hl
def rm_X6_isRank : Room := { frames := 2, cells := 0, slots := 0, locals := 42 }
theorem nyS_X6_isRank : yX6_isRank.cls ≠ "java/lang/invoke/MethodHandle" ∧ yX6_isRank.cls ≠ "java/lang/invoke/VarHandle" ∧ (parseMethodDescriptor yX6_isRank.desc).map (fun d => d.parameters.length) = some 1 := by decide +kernel
theorem nyV_X6_isRank : yX6_isRank.cls = RX6 ∧ yX6_isRank.cls ≠ "java/lang/invoke/MethodHandle" ∧ yX6_isRank.cls ≠ "java/lang/invoke/VarHandle" ∧ (parseMethodDescriptor yX6_isRank.desc).map (fun d => d.parameters.length) = some 1 := by decide +kernel
set_option maxHeartbeats 4000000 in
set_option maxRecDepth 100000 in
theorem c_X6_isRank (G : xG) (l : Launch) (fu : Nat) (S S' : xS) (p0 : Nat) (i0 : Int) (r : Int) (hf : f_X6_isRank fu S p0 i0 = some (r, S')) : Met l yX6_isRank vsX6_isRank rm_X6_isRank (va_Pc [.ref (xB G + p0), .int (iI i0)] (xPre G S)) (xQi G r S') 0 0 (xA G) := by
  refine kx_met (ret := (some .boolean)) RX6 [(0, .ref (xB G + p0)), (1, .int (iI i0))] (by decide) rfl rfl (Nat.le_of_ble_eq_true rfl) rfl (fun p e s m below meth c ls C hin I hl => ?_)
  unfold f_X6_isRank at hf
  refine kx_iload_n 0 C dX6_isRank_0 (lv_at hl 1 rfl) ?_
  refine kx_i2l 1 C dX6_isRank_1 ?_
  refine kx_lconst 2 C (z := 0) dX6_isRank_2 rfl ?_
  refine kx_aload_n 3 C dX6_isRank_3 (lv_at hl 0 rfl) ?_
  obtain ⟨h4, hf⟩ := ift hf
  obtain ⟨x3, S1, h2, hf⟩ := ob2 hf
  refine kx_callVi 4 C hl I (ci := 5) (As := []) (rest := [.long (lI 0), .long (lI (wI i0))]) (c_X6_ways G l fu _ _ _ _ h2) (cwV 0 C.ts gX6_isRank_X6_ways rfl rfl rfl nyV_X6_ways ⟨Nat.le_of_ble_eq_true rfl, Nat.le_of_ble_eq_true rfl⟩) rfl h4 rfl rfl (Nat.le_of_ble_eq_true rfl) dX6_isRank_4 ⟨Nat.le_of_ble_eq_true rfl, Nat.le_of_ble_eq_true rfl⟩ (fun H locs I => ?_)
  refine kx_iconst 7 C dX6_isRank_7 ?_
  refine kx_isub 8 C dX6_isRank_8 ?_
  refine kx_i2l 9 C dX6_isRank_9 ?_
  obtain ⟨x7, S5, h6, hf⟩ := ob2 hf
  refine kx_callSi 10 C hl I (As := [.long (lI (wI i0)), .long (lI 0), .long (lI (wI (x3 - 1)))]) (rest := []) (c_X6_in G l fu _ _ _ _ _ _ h6) (va_cwS 3 C.ts gX6_isRank_X6_in rfl rfl rfl nyS_X6_in ⟨Nat.le_of_ble_eq_true rfl, Nat.le_of_ble_eq_true rfl⟩) rfl rfl (Nat.le_of_ble_eq_true rfl) dX6_isRank_10 ⟨Nat.le_of_ble_eq_true rfl, Nat.le_of_ble_eq_true rfl⟩ (fun H locs I => ?_)
  obtain ⟨h8, hf⟩ := ift hf
  exact kx_zret 13 C I h8 hf dX6_isRank_13
def rm_X6_alike : Room := { frames := 3, cells := 0, slots := 0, locals := 63 }
theorem nyS_X6_alike : yX6_alike.cls ≠ "java/lang/invoke/MethodHandle" ∧ yX6_alike.cls ≠ "java/lang/invoke/VarHandle" ∧ (parseMethodDescriptor yX6_alike.desc).map (fun d => d.parameters.length) = some 1 := by decide +kernel
theorem nyV_X6_alike : yX6_alike.cls = RX6 ∧ yX6_alike.cls ≠ "java/lang/invoke/MethodHandle" ∧ yX6_alike.cls ≠ "java/lang/invoke/VarHandle" ∧ (parseMethodDescriptor yX6_alike.desc).map (fun d => d.parameters.length) = some 1 := by decide +kernel
set_option maxHeartbeats 4000000 in
set_option maxRecDepth 100000 in
theorem c_X6_alike (G : xG) (l : Launch) (fu : Nat) (S S' : xS) (p0 : Nat) (i0 : Int) (r : Int) (hf : f_X6_alike fu S p0 i0 = some (r, S')) : Met l yX6_alike vsX6_alike rm_X6_alike (va_Pc [.ref (xB G + p0), .int (iI i0)] (xPre G S)) (xQi G r S') 0 0 (xA G) := by
  refine kx_met (ret := (some .int)) RX6 [(0, .ref (xB G + p0)), (1, .int (iI i0))] (by decide) rfl rfl (Nat.le_of_ble_eq_true rfl) rfl (fun p e s m below meth c ls C hin I hl => ?_)
  unfold f_X6_alike at hf
  refine kx_aload_n 0 C dX6_alike_0 (lv_at hl 0 rfl) ?_
  refine kx_iload_n 1 C dX6_alike_1 (lv_at hl 1 rfl) ?_
  obtain ⟨h4, hf⟩ := ift hf
  obtain ⟨x3, S1, h2, hf⟩ := ob2 hf
  refine kx_callVi 2 C hl I (ci := 5) (As := [.int (iI i0)]) (rest := []) (c_X6_isRank G l fu _ _ _ _ _ h2) (cwV 1 C.ts gX6_alike_X6_isRank rfl rfl rfl nyV_X6_isRank ⟨Nat.le_of_ble_eq_true rfl, Nat.le_of_ble_eq_true rfl⟩) rfl h4 rfl rfl (Nat.le_of_ble_eq_true rfl) dX6_alike_2 ⟨Nat.le_of_ble_eq_true rfl, Nat.le_of_ble_eq_true rfl⟩ (fun H locs I => ?_)
  refine kx_if_ne 5 15 C dX6_alike_5 (by decide) (fun c5 => ?_) (fun c5 => ?_)
  · have hf := ifn c5 hf
    refine kx_aload_n 15 C dX6_alike_15 (lv_at hl 0 rfl) ?_
    obtain ⟨h9, hf⟩ := ift hf
    obtain ⟨z8, S6, h7, hf⟩ := ob2 hf
    refine kx_callVv 16 C hl I (ci := 5) (As := []) (rest := []) (c_X6_takeNow G l fu _ _ _ _ h7) (cwV 0 C.ts gX6_alike_X6_takeNow rfl rfl rfl nyV_X6_takeNow ⟨Nat.le_of_ble_eq_true rfl, Nat.le_of_ble_eq_true rfl⟩) rfl h9 rfl rfl (Nat.le_of_ble_eq_true rfl) dX6_alike_16 ⟨Nat.le_of_ble_eq_true rfl, Nat.le_of_ble_eq_true rfl⟩ (fun H locs I => ?_)
    refine kx_aload_n 19 C dX6_alike_19 (lv_at hl 0 rfl) ?_
    obtain ⟨h13, hf⟩ := ift hf
    obtain ⟨x12, S10, h11, hf⟩ := ob2 hf
    refine kx_callVi 20 C hl I (ci := 5) (As := []) (rest := []) (c_X6_lengths G l fu _ _ _ _ h11) (cwV 0 C.ts gX6_alike_X6_lengths rfl rfl rfl nyV_X6_lengths ⟨Nat.le_of_ble_eq_true rfl, Nat.le_of_ble_eq_true rfl⟩) rfl h13 rfl rfl (Nat.le_of_ble_eq_true rfl) dX6_alike_20 ⟨Nat.le_of_ble_eq_true rfl, Nat.le_of_ble_eq_true rfl⟩ (fun H locs I => ?_)
    refine kx_istore_n 23 C (lv' := [(2, .int (iI x12)), (0, .ref (xB G + p0)), (1, .int (iI i0))]) dX6_alike_23 hl (by decide) rfl rfl (fun ls hl => ?_)
    refine kx_aload_n 24 C dX6_alike_24 (lv_at hl 1 rfl) ?_
    refine kx_iload_n 25 C dX6_alike_25 (lv_at hl 2 rfl) ?_
    obtain ⟨h17, hf⟩ := ift hf
    obtain ⟨z16, S14, h15, hf⟩ := ob2 hf
    refine kx_callVv 26 C hl I (ci := 5) (As := [.int (iI i0)]) (rest := []) (c_X6_takeRank G l fu _ _ _ _ _ h15) (cwV 1 C.ts gX6_alike_X6_takeRank rfl rfl rfl nyV_X6_takeRank ⟨Nat.le_of_ble_eq_true rfl, Nat.le_of_ble_eq_true rfl⟩) rfl h17 rfl rfl (Nat.le_of_ble_eq_true rfl) dX6_alike_26 ⟨Nat.le_of_ble_eq_true rfl, Nat.le_of_ble_eq_true rfl⟩ (fun H locs I => ?_)
    refine kx_aload_n 29 C dX6_alike_29 (lv_at hl 1 rfl) ?_
    obtain ⟨h21, hf⟩ := ift hf
    obtain ⟨x20, S18, h19, hf⟩ := ob2 hf
    refine kx_callVi 30 C hl I (ci := 5) (As := []) (rest := []) (c_X6_lengths G l fu _ _ _ _ h19) (cwV 0 C.ts gX6_alike_X6_lengths rfl rfl rfl nyV_X6_lengths ⟨Nat.le_of_ble_eq_true rfl, Nat.le_of_ble_eq_true rfl⟩) rfl h21 rfl rfl (Nat.le_of_ble_eq_true rfl) dX6_alike_30 ⟨Nat.le_of_ble_eq_true rfl, Nat.le_of_ble_eq_true rfl⟩ (fun H locs I => ?_)
    refine kx_iload_n 33 C dX6_alike_33 (lv_at hl 0 rfl) ?_
    refine kx_icmp_ne 34 41 C dX6_alike_34 (by decide) (fun c22 => ?_) (fun c22 => ?_)
    · have hf := ifn c22 hf
      refine kx_iconst 41 C dX6_alike_41 ?_
      exact kx_iret 42 C I hf dX6_alike_42
    · have hf := ifp c22 hf
      refine kx_iconst 37 C dX6_alike_37 ?_
      refine kx_goto 38 42 C dX6_alike_38 (by decide) ?_
      exact kx_iret 42 C I hf dX6_alike_42
  · have hf := ifp c5 hf
    refine kx_aload_n 8 C dX6_alike_8 (lv_at hl 0 rfl) ?_
    refine kx_bipush 9 C dX6_alike_9 (by decide) ?_
    obtain ⟨h26, hf⟩ := ift hf
    obtain ⟨x25, S23, h24, hf⟩ := ob2 hf
    refine kx_callVi 11 C hl I (ci := 5) (As := [.int (iI ((-2)))]) (rest := []) (c_X6_bad G l fu _ _ _ _ _ h24) (cwV 1 C.ts gX6_alike_X6_bad rfl rfl rfl nyV_X6_bad ⟨Nat.le_of_ble_eq_true rfl, Nat.le_of_ble_eq_true rfl⟩) rfl h26 rfl rfl (Nat.le_of_ble_eq_true rfl) dX6_alike_11 ⟨Nat.le_of_ble_eq_true rfl, Nat.le_of_ble_eq_true rfl⟩ (fun H locs I => ?_)
    exact kx_iret 14 C I hf dX6_alike_14
def rm_X6_even : Room := { frames := 2, cells := 0, slots := 0, locals := 44 }
theorem nyS_X6_even : yX6_even.cls ≠ "java/lang/invoke/MethodHandle" ∧ yX6_even.cls ≠ "java/lang/invoke/VarHandle" ∧ (parseMethodDescriptor yX6_even.desc).map (fun d => d.parameters.length) = some 0 := by decide +kernel
theorem nyV_X6_even : yX6_even.cls = RX6 ∧ yX6_even.cls ≠ "java/lang/invoke/MethodHandle" ∧ yX6_even.cls ≠ "java/lang/invoke/VarHandle" ∧ (parseMethodDescriptor yX6_even.desc).map (fun d => d.parameters.length) = some 0 := by decide +kernel
set_option maxHeartbeats 4000000 in
set_option maxRecDepth 100000 in
theorem c_X6_even (G : xG) (l : Launch) (fu : Nat) (S S' : xS) (p0 : Nat) (r : Int) (hf : f_X6_even fu S p0 = some (r, S')) : Met l yX6_even vsX6_even rm_X6_even (va_Pc [.ref (xB G + p0)] (xPre G S)) (xQi G r S') 0 0 (xA G) := by
  refine kx_met (ret := (some .int)) RX6 [(0, .ref (xB G + p0))] (by decide) rfl rfl (Nat.le_of_ble_eq_true rfl) rfl (fun p e s m below meth c ls C hin I hl => ?_)
  unfold f_X6_even at hf
  refine kx_aload_n 0 C dX6_even_0 (lv_at hl 0 rfl) ?_
  obtain ⟨h4, hf⟩ := ift hf
  obtain ⟨z3, S1, h2, hf⟩ := ob2 hf
  refine kx_callVv 1 C hl I (ci := 5) (As := []) (rest := []) (c_X6_takeNow G l fu _ _ _ _ h2) (cwV 0 C.ts gX6_even_X6_takeNow rfl rfl rfl nyV_X6_takeNow ⟨Nat.le_of_ble_eq_true rfl, Nat.le_of_ble_eq_true rfl⟩) rfl h4 rfl rfl (Nat.le_of_ble_eq_true rfl) dX6_even_1 ⟨Nat.le_of_ble_eq_true rfl, Nat.le_of_ble_eq_true rfl⟩ (fun H locs I => ?_)
  refine kx_aload_n 4 C dX6_even_4 (lv_at hl 0 rfl) ?_
  obtain ⟨h8, hf⟩ := ift hf
  obtain ⟨x7, S5, h6, hf⟩ := ob2 hf
  refine kx_callVi 5 C hl I (ci := 5) (As := []) (rest := []) (c_X6_n G l fu _ _ _ _ h6) (cwV 0 C.ts gX6_even_X6_n rfl rfl rfl nyV_X6_n ⟨Nat.le_of_ble_eq_true rfl, Nat.le_of_ble_eq_true rfl⟩) rfl h8 rfl rfl (Nat.le_of_ble_eq_true rfl) dX6_even_5 ⟨Nat.le_of_ble_eq_true rfl, Nat.le_of_ble_eq_true rfl⟩ (fun H locs I => ?_)
  refine kx_aload_n 8 C dX6_even_8 (lv_at hl 0 rfl) ?_
  obtain ⟨h12, hf⟩ := ift hf
  obtain ⟨x11, S9, h10, hf⟩ := ob2 hf
  refine kx_callVi 9 C hl I (ci := 5) (As := []) (rest := [.int (iI x7)]) (c_X6_ringsHand G l fu _ _ _ _ h10) (cwV 0 C.ts gX6_even_X6_ringsHand rfl rfl rfl nyV_X6_ringsHand ⟨Nat.le_of_ble_eq_true rfl, Nat.le_of_ble_eq_true rfl⟩) rfl h12 rfl rfl (Nat.le_of_ble_eq_true rfl) dX6_even_9 ⟨Nat.le_of_ble_eq_true rfl, Nat.le_of_ble_eq_true rfl⟩ (fun H locs I => ?_)
  refine kx_isub 12 C dX6_even_12 ?_
  refine kx_iconst 13 C dX6_even_13 ?_
  obtain ⟨h13, hf⟩ := ifz hf
  refine kx_irem 14 C dX6_even_14 h13 ?_
  refine kx_if_ne 15 22 C dX6_even_15 (by decide) (fun c14 => ?_) (fun c14 => ?_)
  · have hf := ifn c14 hf
    refine kx_iconst 22 C dX6_even_22 ?_
    exact kx_iret 23 C I hf dX6_even_23
  · have hf := ifp c14 hf
    refine kx_iconst 18 C dX6_even_18 ?_
    refine kx_goto 19 23 C dX6_even_19 (by decide) ?_
    exact kx_iret 23 C I hf dX6_even_23
def rm_X6_move : Room := { frames := 3, cells := 0, slots := 0, locals := 63 }
theorem hin_X6_move_RX6 : ∀ w ∈ wsX60, w ∈ vsX6_move := fun w h => inM (inlX6 w h)
theorem fl_X6_move_7 : xFl vsX6_move RX6 7 5 0 := ⟨RX6, TX6, 30, rfl, by decide, hin_X6_move_RX6, inM mq_4_16, rfl⟩
theorem nyS_X6_move : yX6_move.cls ≠ "java/lang/invoke/MethodHandle" ∧ yX6_move.cls ≠ "java/lang/invoke/VarHandle" ∧ (parseMethodDescriptor yX6_move.desc).map (fun d => d.parameters.length) = some 1 := by decide +kernel
theorem nyV_X6_move : yX6_move.cls = RX6 ∧ yX6_move.cls ≠ "java/lang/invoke/MethodHandle" ∧ yX6_move.cls ≠ "java/lang/invoke/VarHandle" ∧ (parseMethodDescriptor yX6_move.desc).map (fun d => d.parameters.length) = some 1 := by decide +kernel
set_option maxHeartbeats 4000000 in
set_option maxRecDepth 100000 in
theorem c_X6_move (G : xG) (l : Launch) (fu : Nat) (S S' : xS) (p0 : Nat) (i0 : Int) (r : Int) (hf : f_X6_move fu S p0 i0 = some (r, S')) : Met l yX6_move vsX6_move rm_X6_move (va_Pc [.ref (xB G + p0), .int (iI i0)] (xPre G S)) (xQi G r S') 0 0 (xA G) := by
  refine kx_met (ret := (some .int)) RX6 [(0, .ref (xB G + p0)), (1, .int (iI i0))] (by decide) rfl rfl (Nat.le_of_ble_eq_true rfl) rfl (fun p e s m below meth c ls C hin I hl => ?_)
  unfold f_X6_move at hf
  refine kx_aload_n 0 C dX6_move_0 (lv_at hl 0 rfl) ?_
  refine kx_iload_n 1 C dX6_move_1 (lv_at hl 1 rfl) ?_
  obtain ⟨h4, hf⟩ := ift hf
  obtain ⟨x3, S1, h2, hf⟩ := ob2 hf
  refine kx_callVi 2 C hl I (ci := 5) (As := [.int (iI i0)]) (rest := []) (c_X6_isRank G l fu _ _ _ _ _ h2) (cwV 1 C.ts gX6_move_X6_isRank rfl rfl rfl nyV_X6_isRank ⟨Nat.le_of_ble_eq_true rfl, Nat.le_of_ble_eq_true rfl⟩) rfl h4 rfl rfl (Nat.le_of_ble_eq_true rfl) dX6_move_2 ⟨Nat.le_of_ble_eq_true rfl, Nat.le_of_ble_eq_true rfl⟩ (fun H locs I => ?_)
  refine kx_if_ne 5 15 C dX6_move_5 (by decide) (fun c5 => ?_) (fun c5 => ?_)
  · have hf := ifn c5 hf
    refine kx_aload_n 15 C dX6_move_15 (lv_at hl 0 rfl) ?_
    obtain ⟨q7, h6, hf⟩ := ob hf
    refine kx_getp 16 C I fl_X6_move_7 h6 dX6_move_16 ?_
    refine kx_bipush 19 C dX6_move_19 (by decide) ?_
    obtain ⟨x8, h9, hf⟩ := ob hf
    refine kx_iald 21 C I h9 dX6_move_21 ?_
    refine kx_iconst 22 C dX6_move_22 ?_
    refine kx_icmp_ne 23 31 C dX6_move_23 (by decide) (fun c10 => ?_) (fun c10 => ?_)
    · have hf := ifn c10 hf
      refine kx_aload_n 31 C dX6_move_31 (lv_at hl 0 rfl) ?_
      obtain ⟨q12, h11, hf⟩ := ob hf
      refine kx_getp 32 C I fl_X6_move_7 h11 dX6_move_32 ?_
      refine kx_bipush 35 C dX6_move_35 (by decide) ?_
      refine kx_aload_n 37 C dX6_move_37 (lv_at hl 0 rfl) ?_
      obtain ⟨q14, h13, hf⟩ := ob hf
      refine kx_getp 38 C I fl_X6_move_7 h13 dX6_move_38 ?_
      refine kx_bipush 41 C dX6_move_41 (by decide) ?_
      obtain ⟨x15, h16, hf⟩ := ob hf
      refine kx_iald 43 C I h16 dX6_move_43 ?_
      refine kx_iadd 44 C dX6_move_44 ?_
      refine kx_iload_n 45 C dX6_move_45 (lv_at hl 1 rfl) ?_
      obtain ⟨S18, h17, hf⟩ := ob hf
      refine kx_iast 46 C I h17 dX6_move_46 (fun H locs I => ?_)
      refine kx_aload_n 47 C dX6_move_47 (lv_at hl 0 rfl) ?_
      obtain ⟨q20, h19, hf⟩ := ob hf
      refine kx_getp 48 C I fl_X6_move_7 h19 dX6_move_48 ?_
      refine kx_bipush 51 C dX6_move_51 (by decide) ?_
      refine kx_dup2 53 C dX6_move_53 rfl rfl ?_
      obtain ⟨x21, h22, hf⟩ := ob hf
      refine kx_iald 54 C I h22 dX6_move_54 ?_
      refine kx_iconst 55 C dX6_move_55 ?_
      refine kx_iadd 56 C dX6_move_56 ?_
      obtain ⟨S24, h23, hf⟩ := ob hf
      refine kx_iast 57 C I h23 dX6_move_57 (fun H locs I => ?_)
      refine kx_aload_n 58 C dX6_move_58 (lv_at hl 0 rfl) ?_
      obtain ⟨q26, h25, hf⟩ := ob hf
      refine kx_getp 59 C I fl_X6_move_7 h25 dX6_move_59 ?_
      refine kx_bipush 62 C dX6_move_62 (by decide) ?_
      obtain ⟨x27, h28, hf⟩ := ob hf
      refine kx_iald 64 C I h28 dX6_move_64 ?_
      refine kx_iconst 65 C dX6_move_65 ?_
      refine kx_isub 66 C dX6_move_66 ?_
      exact kx_iret 67 C I hf dX6_move_67
    · have hf := ifp c10 hf
      refine kx_aload_n 26 C dX6_move_26 (lv_at hl 0 rfl) ?_
      obtain ⟨h32, hf⟩ := ift hf
      obtain ⟨x31, S29, h30, hf⟩ := ob2 hf
      refine kx_callVi 27 C hl I (ci := 5) (As := []) (rest := []) (c_X6_full G l fu _ _ _ _ h30) (cwV 0 C.ts gX6_move_X6_full rfl rfl rfl nyV_X6_full ⟨Nat.le_of_ble_eq_true rfl, Nat.le_of_ble_eq_true rfl⟩) rfl h32 rfl rfl (Nat.le_of_ble_eq_true rfl) dX6_move_27 ⟨Nat.le_of_ble_eq_true rfl, Nat.le_of_ble_eq_true rfl⟩ (fun H locs I => ?_)
      exact kx_iret 30 C I hf dX6_move_30
  · have hf := ifp c5 hf
    refine kx_aload_n 8 C dX6_move_8 (lv_at hl 0 rfl) ?_
    refine kx_bipush 9 C dX6_move_9 (by decide) ?_
    obtain ⟨h36, hf⟩ := ift hf
    obtain ⟨x35, S33, h34, hf⟩ := ob2 hf
    refine kx_callVi 11 C hl I (ci := 5) (As := [.int (iI ((-2)))]) (rest := []) (c_X6_bad G l fu _ _ _ _ _ h34) (cwV 1 C.ts gX6_move_X6_bad rfl rfl rfl nyV_X6_bad ⟨Nat.le_of_ble_eq_true rfl, Nat.le_of_ble_eq_true rfl⟩) rfl h36 rfl rfl (Nat.le_of_ble_eq_true rfl) dX6_move_11 ⟨Nat.le_of_ble_eq_true rfl, Nat.le_of_ble_eq_true rfl⟩ (fun H locs I => ?_)
    exact kx_iret 14 C I hf dX6_move_14
def rm_X6_drop : Room := { frames := 1, cells := 0, slots := 0, locals := 20 }
theorem hin_X6_drop_RX6 : ∀ w ∈ wsX60, w ∈ vsX6_drop := fun w h => inM (inlX6 w h)
theorem fl_X6_drop_7 : xFl vsX6_drop RX6 7 5 0 := ⟨RX6, TX6, 30, rfl, by decide, hin_X6_drop_RX6, inM mq_4_16, rfl⟩
theorem nyS_X6_drop : yX6_drop.cls ≠ "java/lang/invoke/MethodHandle" ∧ yX6_drop.cls ≠ "java/lang/invoke/VarHandle" ∧ (parseMethodDescriptor yX6_drop.desc).map (fun d => d.parameters.length) = some 0 := by decide +kernel
theorem nyV_X6_drop : yX6_drop.cls = RX6 ∧ yX6_drop.cls ≠ "java/lang/invoke/MethodHandle" ∧ yX6_drop.cls ≠ "java/lang/invoke/VarHandle" ∧ (parseMethodDescriptor yX6_drop.desc).map (fun d => d.parameters.length) = some 0 := by decide +kernel
set_option maxHeartbeats 4000000 in
set_option maxRecDepth 100000 in
theorem c_X6_drop (G : xG) (l : Launch) (fu : Nat) (S S' : xS) (p0 : Nat) (r : Int) (hf : f_X6_drop fu S p0 = some (r, S')) : Met l yX6_drop vsX6_drop rm_X6_drop (va_Pc [.ref (xB G + p0)] (xPre G S)) (xQi G r S') 0 0 (xA G) := by
  refine kx_met (ret := (some .int)) RX6 [(0, .ref (xB G + p0))] (by decide) rfl rfl (Nat.le_of_ble_eq_true rfl) rfl (fun p e s m below meth c ls C hin I hl => ?_)
  unfold f_X6_drop at hf
  refine kx_aload_n 0 C dX6_drop_0 (lv_at hl 0 rfl) ?_
  obtain ⟨q2, h1, hf⟩ := ob hf
  refine kx_getp 1 C I fl_X6_drop_7 h1 dX6_drop_1 ?_
  refine kx_bipush 4 C dX6_drop_4 (by decide) ?_
  obtain ⟨x3, h4, hf⟩ := ob hf
  refine kx_iald 6 C I h4 dX6_drop_6 ?_
  refine kx_if_ne 7 15 C dX6_drop_7 (by decide) (fun c5 => ?_) (fun c5 => ?_)
  · have hf := ifn c5 hf
    refine kx_aload_n 15 C dX6_drop_15 (lv_at hl 0 rfl) ?_
    obtain ⟨q7, h6, hf⟩ := ob hf
    refine kx_getp 16 C I fl_X6_drop_7 h6 dX6_drop_16 ?_
    refine kx_bipush 19 C dX6_drop_19 (by decide) ?_
    refine kx_dup2 21 C dX6_drop_21 rfl rfl ?_
    obtain ⟨x8, h9, hf⟩ := ob hf
    refine kx_iald 22 C I h9 dX6_drop_22 ?_
    refine kx_iconst 23 C dX6_drop_23 ?_
    refine kx_isub 24 C dX6_drop_24 ?_
    obtain ⟨S11, h10, hf⟩ := ob hf
    refine kx_iast 25 C I h10 dX6_drop_25 (fun H locs I => ?_)
    refine kx_aload_n 26 C dX6_drop_26 (lv_at hl 0 rfl) ?_
    obtain ⟨q13, h12, hf⟩ := ob hf
    refine kx_getp 27 C I fl_X6_drop_7 h12 dX6_drop_27 ?_
    refine kx_bipush 30 C dX6_drop_30 (by decide) ?_
    obtain ⟨x14, h15, hf⟩ := ob hf
    refine kx_iald 32 C I h15 dX6_drop_32 ?_
    exact kx_iret 33 C I hf dX6_drop_33
  · have hf := ifp c5 hf
    refine kx_aload_n 10 C dX6_drop_10 (lv_at hl 0 rfl) ?_
    obtain ⟨h19, hf⟩ := ift hf
    obtain ⟨x18, S16, h17, hf⟩ := ob2 hf
    refine kx_callVi 11 C hl I (ci := 5) (As := []) (rest := []) (c_X6_no G l fu _ _ _ _ h17) (cwV 0 C.ts gX6_drop_X6_no rfl rfl rfl nyV_X6_no ⟨Nat.le_of_ble_eq_true rfl, Nat.le_of_ble_eq_true rfl⟩) rfl h19 rfl rfl (Nat.le_of_ble_eq_true rfl) dX6_drop_11 ⟨Nat.le_of_ble_eq_true rfl, Nat.le_of_ble_eq_true rfl⟩ (fun H locs I => ?_)
    exact kx_iret 14 C I hf dX6_drop_14
def rm_X6_makeHand : Room := { frames := 2, cells := 0, slots := 0, locals := 49 }
theorem hin_X6_makeHand_RX6 : ∀ w ∈ wsX60, w ∈ vsX6_makeHand := fun w h => inM (inlX6 w h)
theorem fl_X6_makeHand_7 : xFl vsX6_makeHand RX6 7 5 0 := ⟨RX6, TX6, 30, rfl, by decide, hin_X6_makeHand_RX6, inM mq_4_16, rfl⟩
theorem fl_X6_makeHand_27 : xFl vsX6_makeHand RX6 27 5 6 := ⟨RX6, TX6, 30, rfl, by decide, hin_X6_makeHand_RX6, inM mq_4_22, rfl⟩
theorem fl_X6_makeHand_33 : xFl vsX6_makeHand RX6 33 5 12 := ⟨RX6, TX6, 30, rfl, by decide, hin_X6_makeHand_RX6, inM mq_5_0, rfl⟩
theorem fl_X6_makeHand_36 : xFl vsX6_makeHand RX6 36 5 13 := ⟨RX6, TX6, 30, rfl, by decide, hin_X6_makeHand_RX6, inM mq_5_1, rfl⟩
theorem nyS_X6_makeHand : yX6_makeHand.cls ≠ "java/lang/invoke/MethodHandle" ∧ yX6_makeHand.cls ≠ "java/lang/invoke/VarHandle" ∧ (parseMethodDescriptor yX6_makeHand.desc).map (fun d => d.parameters.length) = some 1 := by decide +kernel
theorem nyV_X6_makeHand : yX6_makeHand.cls = RX6 ∧ yX6_makeHand.cls ≠ "java/lang/invoke/MethodHandle" ∧ yX6_makeHand.cls ≠ "java/lang/invoke/VarHandle" ∧ (parseMethodDescriptor yX6_makeHand.desc).map (fun d => d.parameters.length) = some 1 := by decide +kernel
set_option maxHeartbeats 4000000 in
set_option maxRecDepth 100000 in
theorem w_X6_makeHand {G : xG} {p : Program} {l : Launch} {e : Env} {s : State} {m : MethodId} {args : Array Value} {below : List Frame} {meth : Method} {c : Code} (C : xK G p s m args meth c cX6_makeHand 3 vsX6_makeHand RX6 none) (r : Int) (S' : xS) : ∀ k : Nat,
  (∀ (S : xS) (p0 : Nat) (i0 i1 : Int) (H : Heap) (locs : List Loc) (ls : Array Slot), g_X6_makeHand k 0 S p0 i0 i1 = some (r, S') → xI G S s H locs → lv_has ls 3 [(0, .ref (xB G + p0)), (1, .int (iI i0))] → W p l e rm_X6_makeHand s m args below meth c H locs 0 0 (MQ below (xQv G S') args s 0 0 (xA G)) (F0 m 0 ls [])) ∧
  (∀ (S : xS) (p0 : Nat) (i0 i1 : Int) (H : Heap) (locs : List Loc) (ls : Array Slot), g_X6_makeHand k 1 S p0 i0 i1 = some (r, S') → xI G S s H locs → lv_has ls 3 [(0, .ref (xB G + p0)), (1, .int (iI i0)), (2, .int (iI i1))] → W p l e rm_X6_makeHand s m args below meth c H locs 0 0 (MQ below (xQv G S') args s 0 0 (xA G)) (F0 m 2 ls [])) ∧
  (∀ (S : xS) (p0 : Nat) (i0 i1 : Int) (H : Heap) (locs : List Loc) (ls : Array Slot), g_X6_makeHand k 2 S p0 i0 i1 = some (r, S') → xI G S s H locs → lv_has ls 3 [(0, .ref (xB G + p0)), (2, .int (iI i0))] → W p l e rm_X6_makeHand s m args below meth c H locs 0 0 (MQ below (xQv G S') args s 0 0 (xA G)) (F0 m 43 ls [])) ∧
  (∀ (S : xS) (p0 : Nat) (i0 i1 : Int) (H : Heap) (locs : List Loc) (ls : Array Slot), g_X6_makeHand k 3 S p0 i0 i1 = some (r, S') → xI G S s H locs → lv_has ls 3 [(0, .ref (xB G + p0)), (2, .int (iI i0))] → W p l e rm_X6_makeHand s m args below meth c H locs 0 0 (MQ below (xQv G S') args s 0 0 (xA G)) (F0 m 71 ls [])) := by
  intro k
  induction k with
  | zero => exact ⟨fun _ _ _ _ _ _ _ hf => (by cases hf), fun _ _ _ _ _ _ _ hf => (by cases hf), fun _ _ _ _ _ _ _ hf => (by cases hf), fun _ _ _ _ _ _ _ hf => (by cases hf)⟩
  | succ fu ih =>
    obtain ⟨ih0, ih1, ih2, ih3⟩ := ih
    refine ⟨?_, ?_, ?_, ?_⟩
    · intro S p0 i0 i1 H locs ls hf I hl
      replace hf : b_X6_makeHand_0 (g_X6_makeHand fu) fu S p0 i0 i1 = some (r, S') := hf
      unfold b_X6_makeHand_0 at hf
      refine kx_iconst 0 C dX6_makeHand_0 ?_
      refine kx_istore_n 1 C (lv' := [(2, .int (iI 0)), (0, .ref (xB G + p0)), (1, .int (iI i0))]) dX6_makeHand_1 hl (by decide) rfl rfl (fun ls hl => ?_)
      exact ih1 _ _ _ _ _ _ _ hf I (lv_sub hl [1, 2, 0] rfl)
    · intro S p0 i0 i1 H locs ls hf I hl
      replace hf : b_X6_makeHand_1 (g_X6_makeHand fu) fu S p0 i0 i1 = some (r, S') := hf
      unfold b_X6_makeHand_1 at hf
      refine kx_iload_n 2 C dX6_makeHand_2 (lv_at hl 2 rfl) ?_
      refine kx_aload_n 3 C dX6_makeHand_3 (lv_at hl 0 rfl) ?_
      obtain ⟨h4, hf⟩ := ift hf
      obtain ⟨x3, S1, h2, hf⟩ := ob2 hf
      refine kx_callVi 4 C hl I (ci := 5) (As := []) (rest := [.int (iI i1)]) (c_X6_n G l fu _ _ _ _ h2) (cwV 0 C.ts gX6_makeHand_X6_n rfl rfl rfl nyV_X6_n ⟨Nat.le_of_ble_eq_true rfl, Nat.le_of_ble_eq_true rfl⟩) rfl h4 rfl rfl (Nat.le_of_ble_eq_true rfl) dX6_makeHand_4 ⟨Nat.le_of_ble_eq_true rfl, Nat.le_of_ble_eq_true rfl⟩ (fun H locs I => ?_)
      refine kx_icmp_ge 7 28 C dX6_makeHand_7 (by decide) (fun c5 => ?_) (fun c5 => ?_)
      · have hf := ifp c5 hf
        refine kx_aload_n 28 C dX6_makeHand_28 (lv_at hl 0 rfl) ?_
        refine kx_aload_n 29 C dX6_makeHand_29 (lv_at hl 0 rfl) ?_
        obtain ⟨q7, h6, hf⟩ := ob hf
        refine kx_getp 30 C I fl_X6_makeHand_7 h6 dX6_makeHand_30 ?_
        refine kx_bipush 33 C dX6_makeHand_33 (by decide) ?_
        refine kx_iload_n 35 C dX6_makeHand_35 (lv_at hl 1 rfl) ?_
        refine kx_iadd 36 C dX6_makeHand_36 ?_
        obtain ⟨x8, h9, hf⟩ := ob hf
        refine kx_iald 37 C I h9 dX6_makeHand_37 ?_
        obtain ⟨h13, hf⟩ := ift hf
        obtain ⟨z12, S10, h11, hf⟩ := ob2 hf
        refine kx_callVv 38 C hl I (ci := 5) (As := [.int (iI x8)]) (rest := []) (c_X6_takeRank G l fu _ _ _ _ _ h11) (cwV 1 C.ts gX6_makeHand_X6_takeRank rfl rfl rfl nyV_X6_takeRank ⟨Nat.le_of_ble_eq_true rfl, Nat.le_of_ble_eq_true rfl⟩) rfl h13 rfl rfl (Nat.le_of_ble_eq_true rfl) dX6_makeHand_38 ⟨Nat.le_of_ble_eq_true rfl, Nat.le_of_ble_eq_true rfl⟩ (fun H locs I => ?_)
        refine kx_iconst 41 C dX6_makeHand_41 ?_
        refine kx_istore_n 42 C (lv' := [(2, .int (iI 0)), (0, .ref (xB G + p0)), (1, .int (iI i0))]) dX6_makeHand_42 hl (by decide) rfl rfl (fun ls hl => ?_)
        exact ih2 _ _ _ _ _ _ _ hf I (lv_sub hl [1, 0] rfl)
      · have hf := ifn c5 hf
        refine kx_aload_n 10 C dX6_makeHand_10 (lv_at hl 0 rfl) ?_
        obtain ⟨q15, h14, hf⟩ := ob hf
        refine kx_getp 11 C I fl_X6_makeHand_36 h14 dX6_makeHand_11 ?_
        refine kx_iload_n 14 C dX6_makeHand_14 (lv_at hl 2 rfl) ?_
        refine kx_aload_n 15 C dX6_makeHand_15 (lv_at hl 0 rfl) ?_
        obtain ⟨q17, h16, hf⟩ := ob hf
        refine kx_getp 16 C I fl_X6_makeHand_27 h16 dX6_makeHand_16 ?_
        refine kx_iload_n 19 C dX6_makeHand_19 (lv_at hl 2 rfl) ?_
        obtain ⟨x18, h19, hf⟩ := ob hf
        refine kx_iald 20 C I h19 dX6_makeHand_20 ?_
        obtain ⟨S21, h20, hf⟩ := ob hf
        refine kx_iast 21 C I h20 dX6_makeHand_21 (fun H locs I => ?_)
        obtain ⟨x22, e23, hf⟩ := nmx_e hf
        refine kx_iinc 22 C (lv' := [(2, .int (iI x22)), (0, .ref (xB G + p0)), (1, .int (iI i0))]) dX6_makeHand_22 hl 2 rfl e23 (by decide) rfl (fun ls hl => ?_)
        refine kx_goto 25 2 C dX6_makeHand_25 (by decide) ?_
        exact ih1 _ _ _ _ _ _ _ hf I (lv_sub hl [1, 2, 0] rfl)
    · intro S p0 i0 i1 H locs ls hf I hl
      replace hf : b_X6_makeHand_2 (g_X6_makeHand fu) fu S p0 i0 i1 = some (r, S') := hf
      unfold b_X6_makeHand_2 at hf
      refine kx_iload_n 43 C dX6_makeHand_43 (lv_at hl 1 rfl) ?_
      refine kx_aload_n 44 C dX6_makeHand_44 (lv_at hl 0 rfl) ?_
      obtain ⟨h27, hf⟩ := ift hf
      obtain ⟨x26, S24, h25, hf⟩ := ob2 hf
      refine kx_callVi 45 C hl I (ci := 5) (As := []) (rest := [.int (iI i0)]) (c_X6_n G l fu _ _ _ _ h25) (cwV 0 C.ts gX6_makeHand_X6_n rfl rfl rfl nyV_X6_n ⟨Nat.le_of_ble_eq_true rfl, Nat.le_of_ble_eq_true rfl⟩) rfl h27 rfl rfl (Nat.le_of_ble_eq_true rfl) dX6_makeHand_45 ⟨Nat.le_of_ble_eq_true rfl, Nat.le_of_ble_eq_true rfl⟩ (fun H locs I => ?_)
      refine kx_icmp_ge 48 69 C dX6_makeHand_48 (by decide) (fun c28 => ?_) (fun c28 => ?_)
      · have hf := ifp c28 hf
        refine kx_iconst 69 C dX6_makeHand_69 ?_
        refine kx_istore_n 70 C (lv' := [(2, .int (iI 0)), (0, .ref (xB G + p0))]) dX6_makeHand_70 hl (by decide) rfl rfl (fun ls hl => ?_)
        exact ih3 _ _ _ _ _ _ _ hf I (lv_sub hl [1, 0] rfl)
      · have hf := ifn c28 hf
        refine kx_aload_n 51 C dX6_makeHand_51 (lv_at hl 0 rfl) ?_
        obtain ⟨q30, h29, hf⟩ := ob hf
        refine kx_getp 52 C I fl_X6_makeHand_33 h29 dX6_makeHand_52 ?_
        refine kx_iload_n 55 C dX6_makeHand_55 (lv_at hl 1 rfl) ?_
        refine kx_aload_n 56 C dX6_makeHand_56 (lv_at hl 0 rfl) ?_
        obtain ⟨q32, h31, hf⟩ := ob hf
        refine kx_getp 57 C I fl_X6_makeHand_27 h31 dX6_makeHand_57 ?_
        refine kx_iload_n 60 C dX6_makeHand_60 (lv_at hl 1 rfl) ?_
        obtain ⟨x33, h34, hf⟩ := ob hf
        refine kx_iald 61 C I h34 dX6_makeHand_61 ?_
        obtain ⟨S36, h35, hf⟩ := ob hf
        refine kx_iast 62 C I h35 dX6_makeHand_62 (fun H locs I => ?_)
        obtain ⟨x37, e38, hf⟩ := nmx_e hf
        refine kx_iinc 63 C (lv' := [(2, .int (iI x37)), (0, .ref (xB G + p0))]) dX6_makeHand_63 hl 1 rfl e38 (by decide) rfl (fun ls hl => ?_)
        refine kx_goto 66 43 C dX6_makeHand_66 (by decide) ?_
        exact ih2 _ _ _ _ _ _ _ hf I (lv_sub hl [1, 0] rfl)
    · intro S p0 i0 i1 H locs ls hf I hl
      replace hf : b_X6_makeHand_3 (g_X6_makeHand fu) fu S p0 i0 i1 = some (r, S') := hf
      unfold b_X6_makeHand_3 at hf
      refine kx_iload_n 71 C dX6_makeHand_71 (lv_at hl 1 rfl) ?_
      refine kx_aload_n 72 C dX6_makeHand_72 (lv_at hl 0 rfl) ?_
      obtain ⟨h42, hf⟩ := ift hf
      obtain ⟨x41, S39, h40, hf⟩ := ob2 hf
      refine kx_callVi 73 C hl I (ci := 5) (As := []) (rest := [.int (iI i0)]) (c_X6_n G l fu _ _ _ _ h40) (cwV 0 C.ts gX6_makeHand_X6_n rfl rfl rfl nyV_X6_n ⟨Nat.le_of_ble_eq_true rfl, Nat.le_of_ble_eq_true rfl⟩) rfl h42 rfl rfl (Nat.le_of_ble_eq_true rfl) dX6_makeHand_73 ⟨Nat.le_of_ble_eq_true rfl, Nat.le_of_ble_eq_true rfl⟩ (fun H locs I => ?_)
      refine kx_icmp_ge 76 102 C dX6_makeHand_76 (by decide) (fun c43 => ?_) (fun c43 => ?_)
      · have hf := ifp c43 hf
        exact kx_vret 102 C I hf dX6_makeHand_102
      · have hf := ifn c43 hf
        refine kx_aload_n 79 C dX6_makeHand_79 (lv_at hl 0 rfl) ?_
        obtain ⟨q45, h44, hf⟩ := ob hf
        refine kx_getp 80 C I fl_X6_makeHand_27 h44 dX6_makeHand_80 ?_
        refine kx_aload_n 83 C dX6_makeHand_83 (lv_at hl 0 rfl) ?_
        obtain ⟨q47, h46, hf⟩ := ob hf
        refine kx_getp 84 C I fl_X6_makeHand_33 h46 dX6_makeHand_84 ?_
        refine kx_iload_n 87 C dX6_makeHand_87 (lv_at hl 1 rfl) ?_
        obtain ⟨x48, h49, hf⟩ := ob hf
        refine kx_iald 88 C I h49 dX6_makeHand_88 ?_
        refine kx_aload_n 89 C dX6_makeHand_89 (lv_at hl 0 rfl) ?_
        obtain ⟨q51, h50, hf⟩ := ob hf
        refine kx_getp 90 C I fl_X6_makeHand_36 h50 dX6_makeHand_90 ?_
        refine kx_iload_n 93 C dX6_makeHand_93 (lv_at hl 1 rfl) ?_
        obtain ⟨x52, h53, hf⟩ := ob hf
        refine kx_iald 94 C I h53 dX6_makeHand_94 ?_
        obtain ⟨S55, h54, hf⟩ := ob hf
        refine kx_iast 95 C I h54 dX6_makeHand_95 (fun H locs I => ?_)
        obtain ⟨x56, e57, hf⟩ := nmx_e hf
        refine kx_iinc 96 C (lv' := [(2, .int (iI x56)), (0, .ref (xB G + p0))]) dX6_makeHand_96 hl 1 rfl e57 (by decide) rfl (fun ls hl => ?_)
        refine kx_goto 99 71 C dX6_makeHand_99 (by decide) ?_
        exact ih3 _ _ _ _ _ _ _ hf I (lv_sub hl [1, 0] rfl)
set_option maxHeartbeats 4000000 in
set_option maxRecDepth 100000 in
theorem c_X6_makeHand (G : xG) (l : Launch) (fu : Nat) (S S' : xS) (p0 : Nat) (i0 : Int) (r : Int) (hf : f_X6_makeHand fu S p0 i0 = some (r, S')) : Met l yX6_makeHand vsX6_makeHand rm_X6_makeHand (va_Pc [.ref (xB G + p0), .int (iI i0)] (xPre G S)) (xQv G S') 0 0 (xA G) := by
  refine kx_met (ret := none) RX6 [(0, .ref (xB G + p0)), (1, .int (iI i0))] (by decide) rfl rfl (Nat.le_of_ble_eq_true rfl) rfl (fun p e s m below meth c ls C hin I hl => ?_)
  exact (w_X6_makeHand C r S' fu).1 S _ _ _ _ _ _ hf I hl
def rm_X6_make : Room := { frames := 3, cells := 0, slots := 0, locals := 71 }
theorem hin_X6_make_RX6 : ∀ w ∈ wsX60, w ∈ vsX6_make := fun w h => inM (inlX6 w h)
theorem fl_X6_make_7 : xFl vsX6_make RX6 7 5 0 := ⟨RX6, TX6, 30, rfl, by decide, hin_X6_make_RX6, inM mq_4_16, rfl⟩
theorem fl_X6_make_106 : xFl vsX6_make RX6 106 5 7 := ⟨RX6, TX6, 30, rfl, by decide, hin_X6_make_RX6, inM mq_9_13, rfl⟩
theorem nyS_X6_make : yX6_make.cls ≠ "java/lang/invoke/MethodHandle" ∧ yX6_make.cls ≠ "java/lang/invoke/VarHandle" ∧ (parseMethodDescriptor yX6_make.desc).map (fun d => d.parameters.length) = some 1 := by decide +kernel
theorem nyV_X6_make : yX6_make.cls = RX6 ∧ yX6_make.cls ≠ "java/lang/invoke/MethodHandle" ∧ yX6_make.cls ≠ "java/lang/invoke/VarHandle" ∧ (parseMethodDescriptor yX6_make.desc).map (fun d => d.parameters.length) = some 1 := by decide +kernel
set_option maxHeartbeats 4000000 in
set_option maxRecDepth 100000 in
theorem c_X6_make (G : xG) (l : Launch) (fu : Nat) (S S' : xS) (p0 : Nat) (i0 : Int) (r : Int) (hf : f_X6_make fu S p0 i0 = some (r, S')) : Met l yX6_make vsX6_make rm_X6_make (va_Pc [.ref (xB G + p0), .int (iI i0)] (xPre G S)) (xQi G r S') 0 0 (xA G) := by
  refine kx_met (ret := (some .int)) RX6 [(0, .ref (xB G + p0)), (1, .int (iI i0))] (by decide) rfl rfl (Nat.le_of_ble_eq_true rfl) rfl (fun p e s m below meth c ls C hin I hl => ?_)
  unfold f_X6_make at hf
  refine kx_iload_n 0 C dX6_make_0 (lv_at hl 1 rfl) ?_
  refine kx_i2l 1 C dX6_make_1 ?_
  refine kx_lconst 2 C (z := 0) dX6_make_2 rfl ?_
  refine kx_aload_n 3 C dX6_make_3 (lv_at hl 0 rfl) ?_
  obtain ⟨q2, h1, hf⟩ := ob hf
  refine kx_getp 4 C I fl_X6_make_7 h1 dX6_make_4 ?_
  refine kx_bipush 7 C dX6_make_7 (by decide) ?_
  obtain ⟨x3, h4, hf⟩ := ob hf
  refine kx_iald 9 C I h4 dX6_make_9 ?_
  refine kx_iconst 10 C dX6_make_10 ?_
  refine kx_isub 11 C dX6_make_11 ?_
  refine kx_i2l 12 C dX6_make_12 ?_
  obtain ⟨x7, S5, h6, hf⟩ := ob2 hf
  refine kx_callSi 13 C hl I (As := [.long (lI (wI i0)), .long (lI 0), .long (lI (wI (x3 - 1)))]) (rest := []) (c_X6_in G l fu _ _ _ _ _ _ h6) (va_cwS 3 C.ts gX6_make_X6_in rfl rfl rfl nyS_X6_in ⟨Nat.le_of_ble_eq_true rfl, Nat.le_of_ble_eq_true rfl⟩) rfl rfl (Nat.le_of_ble_eq_true rfl) dX6_make_13 ⟨Nat.le_of_ble_eq_true rfl, Nat.le_of_ble_eq_true rfl⟩ (fun H locs I => ?_)
  refine kx_if_ne 16 26 C dX6_make_16 (by decide) (fun c8 => ?_) (fun c8 => ?_)
  · have hf := ifn c8 hf
    refine kx_aload_n 26 C dX6_make_26 (lv_at hl 0 rfl) ?_
    refine kx_aload_n 27 C dX6_make_27 (lv_at hl 0 rfl) ?_
    obtain ⟨h12, hf⟩ := ift hf
    obtain ⟨x11, S9, h10, hf⟩ := ob2 hf
    refine kx_callVi 28 C hl I (ci := 5) (As := []) (rest := [.ref (xB G + p0)]) (c_X6_rankNow G l fu _ _ _ _ h10) (cwV 0 C.ts gX6_make_X6_rankNow rfl rfl rfl nyV_X6_rankNow ⟨Nat.le_of_ble_eq_true rfl, Nat.le_of_ble_eq_true rfl⟩) rfl h12 rfl rfl (Nat.le_of_ble_eq_true rfl) dX6_make_28 ⟨Nat.le_of_ble_eq_true rfl, Nat.le_of_ble_eq_true rfl⟩ (fun H locs I => ?_)
    obtain ⟨S14, h13, hf⟩ := ob hf
    refine kx_puti 31 C I fl_X6_make_106 fw_RX6_7 h13 dX6_make_31 (fun H locs I => ?_)
    refine kx_aload_n 34 C dX6_make_34 (lv_at hl 0 rfl) ?_
    refine kx_iload_n 35 C dX6_make_35 (lv_at hl 1 rfl) ?_
    obtain ⟨h18, hf⟩ := ift hf
    obtain ⟨z17, S15, h16, hf⟩ := ob2 hf
    refine kx_callVv 36 C hl I (ci := 5) (As := [.int (iI i0)]) (rest := []) (c_X6_makeHand G l fu _ _ _ _ _ h16) (cwV 1 C.ts gX6_make_X6_makeHand rfl rfl rfl nyV_X6_makeHand ⟨Nat.le_of_ble_eq_true rfl, Nat.le_of_ble_eq_true rfl⟩) rfl h18 rfl rfl (Nat.le_of_ble_eq_true rfl) dX6_make_36 ⟨Nat.le_of_ble_eq_true rfl, Nat.le_of_ble_eq_true rfl⟩ (fun H locs I => ?_)
    refine kx_aload_n 39 C dX6_make_39 (lv_at hl 0 rfl) ?_
    obtain ⟨h22, hf⟩ := ift hf
    obtain ⟨z21, S19, h20, hf⟩ := ob2 hf
    refine kx_callVv 40 C hl I (ci := 5) (As := []) (rest := []) (c_X6_putWay G l fu _ _ _ _ h20) (cwV 0 C.ts gX6_make_X6_putWay rfl rfl rfl nyV_X6_putWay ⟨Nat.le_of_ble_eq_true rfl, Nat.le_of_ble_eq_true rfl⟩) rfl h22 rfl rfl (Nat.le_of_ble_eq_true rfl) dX6_make_40 ⟨Nat.le_of_ble_eq_true rfl, Nat.le_of_ble_eq_true rfl⟩ (fun H locs I => ?_)
    refine kx_aload_n 43 C dX6_make_43 (lv_at hl 0 rfl) ?_
    obtain ⟨h26, hf⟩ := ift hf
    obtain ⟨x25, S23, h24, hf⟩ := ob2 hf
    refine kx_callVi 44 C hl I (ci := 5) (As := []) (rest := []) (c_X6_rankOf G l fu _ _ _ _ h24) (cwV 0 C.ts gX6_make_X6_rankOf rfl rfl rfl nyV_X6_rankOf ⟨Nat.le_of_ble_eq_true rfl, Nat.le_of_ble_eq_true rfl⟩) rfl h26 rfl rfl (Nat.le_of_ble_eq_true rfl) dX6_make_44 ⟨Nat.le_of_ble_eq_true rfl, Nat.le_of_ble_eq_true rfl⟩ (fun H locs I => ?_)
    exact kx_iret 47 C I hf dX6_make_47
  · have hf := ifp c8 hf
    refine kx_aload_n 19 C dX6_make_19 (lv_at hl 0 rfl) ?_
    refine kx_bipush 20 C dX6_make_20 (by decide) ?_
    obtain ⟨h30, hf⟩ := ift hf
    obtain ⟨x29, S27, h28, hf⟩ := ob2 hf
    refine kx_callVi 22 C hl I (ci := 5) (As := [.int (iI ((-2)))]) (rest := []) (c_X6_bad G l fu _ _ _ _ _ h28) (cwV 1 C.ts gX6_make_X6_bad rfl rfl rfl nyV_X6_bad ⟨Nat.le_of_ble_eq_true rfl, Nat.le_of_ble_eq_true rfl⟩) rfl h30 rfl rfl (Nat.le_of_ble_eq_true rfl) dX6_make_22 ⟨Nat.le_of_ble_eq_true rfl, Nat.le_of_ble_eq_true rfl⟩ (fun H locs I => ?_)
    exact kx_iret 25 C I hf dX6_make_25
def rm_X6_behind : Room := { frames := 3, cells := 0, slots := 0, locals := 71 }
theorem nyS_X6_behind : yX6_behind.cls ≠ "java/lang/invoke/MethodHandle" ∧ yX6_behind.cls ≠ "java/lang/invoke/VarHandle" ∧ (parseMethodDescriptor yX6_behind.desc).map (fun d => d.parameters.length) = some 2 := by decide +kernel
theorem nyV_X6_behind : yX6_behind.cls = RX6 ∧ yX6_behind.cls ≠ "java/lang/invoke/MethodHandle" ∧ yX6_behind.cls ≠ "java/lang/invoke/VarHandle" ∧ (parseMethodDescriptor yX6_behind.desc).map (fun d => d.parameters.length) = some 2 := by decide +kernel
set_option maxHeartbeats 4000000 in
set_option maxRecDepth 100000 in
theorem c_X6_behind (G : xG) (l : Launch) (fu : Nat) (S S' : xS) (p0 : Nat) (i0 : Int) (i1 : Int) (r : Int) (hf : f_X6_behind fu S p0 i0 i1 = some (r, S')) : Met l yX6_behind vsX6_behind rm_X6_behind (va_Pc [.ref (xB G + p0), .int (iI i0), .int (iI i1)] (xPre G S)) (xQi G r S') 0 0 (xA G) := by
  refine kx_met (ret := (some .int)) RX6 [(0, .ref (xB G + p0)), (1, .int (iI i0)), (2, .int (iI i1))] (by decide) rfl rfl (Nat.le_of_ble_eq_true rfl) rfl (fun p e s m below meth c ls C hin I hl => ?_)
  unfold f_X6_behind at hf
  refine kx_aload_n 0 C dX6_behind_0 (lv_at hl 0 rfl) ?_
  refine kx_iload_n 1 C dX6_behind_1 (lv_at hl 1 rfl) ?_
  obtain ⟨h4, hf⟩ := ift hf
  obtain ⟨z3, S1, h2, hf⟩ := ob2 hf
  refine kx_callVv 2 C hl I (ci := 5) (As := [.int (iI i0)]) (rest := []) (c_X6_takeRank G l fu _ _ _ _ _ h2) (cwV 1 C.ts gX6_behind_X6_takeRank rfl rfl rfl nyV_X6_takeRank ⟨Nat.le_of_ble_eq_true rfl, Nat.le_of_ble_eq_true rfl⟩) rfl h4 rfl rfl (Nat.le_of_ble_eq_true rfl) dX6_behind_2 ⟨Nat.le_of_ble_eq_true rfl, Nat.le_of_ble_eq_true rfl⟩ (fun H locs I => ?_)
  refine kx_aload_n 5 C dX6_behind_5 (lv_at hl 0 rfl) ?_
  refine kx_iload_n 6 C dX6_behind_6 (lv_at hl 2 rfl) ?_
  obtain ⟨h8, hf⟩ := ift hf
  obtain ⟨z7, S5, h6, hf⟩ := ob2 hf
  refine kx_callVv 7 C hl I (ci := 5) (As := [.int (iI i1)]) (rest := []) (c_X6_makeHand G l fu _ _ _ _ _ h6) (cwV 1 C.ts gX6_behind_X6_makeHand rfl rfl rfl nyV_X6_makeHand ⟨Nat.le_of_ble_eq_true rfl, Nat.le_of_ble_eq_true rfl⟩) rfl h8 rfl rfl (Nat.le_of_ble_eq_true rfl) dX6_behind_7 ⟨Nat.le_of_ble_eq_true rfl, Nat.le_of_ble_eq_true rfl⟩ (fun H locs I => ?_)
  refine kx_aload_n 10 C dX6_behind_10 (lv_at hl 0 rfl) ?_
  obtain ⟨h12, hf⟩ := ift hf
  obtain ⟨x11, S9, h10, hf⟩ := ob2 hf
  refine kx_callVi 11 C hl I (ci := 5) (As := []) (rest := []) (c_X6_rankOf G l fu _ _ _ _ h10) (cwV 0 C.ts gX6_behind_X6_rankOf rfl rfl rfl nyV_X6_rankOf ⟨Nat.le_of_ble_eq_true rfl, Nat.le_of_ble_eq_true rfl⟩) rfl h12 rfl rfl (Nat.le_of_ble_eq_true rfl) dX6_behind_11 ⟨Nat.le_of_ble_eq_true rfl, Nat.le_of_ble_eq_true rfl⟩ (fun H locs I => ?_)
  exact kx_iret 14 C I hf dX6_behind_14
def rm_X6_findFar : Room := { frames := 4, cells := 0, slots := 0, locals := 93 }
theorem hin_X6_findFar_RX6 : ∀ w ∈ wsX60, w ∈ vsX6_findFar := fun w h => inM (inlX6 w h)
theorem fl_X6_findFar_7 : xFl vsX6_findFar RX6 7 5 0 := ⟨RX6, TX6, 30, rfl, by decide, hin_X6_findFar_RX6, inM mq_4_16, rfl⟩
theorem fl_X6_findFar_39 : xFl vsX6_findFar RX6 39 5 14 := ⟨RX6, TX6, 30, rfl, by decide, hin_X6_findFar_RX6, inM mq_5_2, rfl⟩
theorem fl_X6_findFar_42 : xFl vsX6_findFar RX6 42 5 15 := ⟨RX6, TX6, 30, rfl, by decide, hin_X6_findFar_RX6, inM mq_5_3, rfl⟩
theorem fl_X6_findFar_45 : xFl vsX6_findFar RX6 45 5 16 := ⟨RX6, TX6, 30, rfl, by decide, hin_X6_findFar_RX6, inM mq_5_4, rfl⟩
theorem fl_X6_findFar_198 : xFl vsX6_findFar RX6 198 5 17 := ⟨RX6, TX6, 30, rfl, by decide, hin_X6_findFar_RX6, inM mq_36_6, rfl⟩
theorem mw_X6_findFar_0 : Cond.constant RX6 197 (1000000) ∈ vsX6_findFar := inM mq_36_11
theorem nyS_X6_findFar : yX6_findFar.cls ≠ "java/lang/invoke/MethodHandle" ∧ yX6_findFar.cls ≠ "java/lang/invoke/VarHandle" ∧ (parseMethodDescriptor yX6_findFar.desc).map (fun d => d.parameters.length) = some 0 := by decide +kernel
theorem nyV_X6_findFar : yX6_findFar.cls = RX6 ∧ yX6_findFar.cls ≠ "java/lang/invoke/MethodHandle" ∧ yX6_findFar.cls ≠ "java/lang/invoke/VarHandle" ∧ (parseMethodDescriptor yX6_findFar.desc).map (fun d => d.parameters.length) = some 0 := by decide +kernel
set_option maxHeartbeats 4000000 in
set_option maxRecDepth 100000 in
theorem w_X6_findFar {G : xG} {p : Program} {l : Launch} {e : Env} {s : State} {m : MethodId} {args : Array Value} {below : List Frame} {meth : Method} {c : Code} (C : xK G p s m args meth c cX6_findFar 4 vsX6_findFar RX6 none) (r : Int) (S' : xS) : ∀ k : Nat,
  (∀ (S : xS) (p0 : Nat) (i0 i1 : Int) (H : Heap) (locs : List Loc) (ls : Array Slot), g_X6_findFar k 0 S p0 i0 i1 = some (r, S') → xI G S s H locs → lv_has ls 4 [(0, .ref (xB G + p0))] → W p l e rm_X6_findFar s m args below meth c H locs 0 0 (MQ below (xQv G S') args s 0 0 (xA G)) (F0 m 0 ls [])) ∧
  (∀ (S : xS) (p0 : Nat) (i0 i1 : Int) (H : Heap) (locs : List Loc) (ls : Array Slot), g_X6_findFar k 1 S p0 i0 i1 = some (r, S') → xI G S s H locs → lv_has ls 4 [(0, .ref (xB G + p0)), (1, .int (iI i0))] → W p l e rm_X6_findFar s m args below meth c H locs 0 0 (MQ below (xQv G S') args s 0 0 (xA G)) (F0 m 2 ls [])) ∧
  (∀ (S : xS) (p0 : Nat) (i0 i1 : Int) (H : Heap) (locs : List Loc) (ls : Array Slot), g_X6_findFar k 2 S p0 i0 i1 = some (r, S') → xI G S s H locs → lv_has ls 4 [(0, .ref (xB G + p0)), (1, .int (iI i0))] → W p l e rm_X6_findFar s m args below meth c H locs 0 0 (MQ below (xQv G S') args s 0 0 (xA G)) (F0 m 60 ls [])) ∧
  (∀ (S : xS) (p0 : Nat) (i0 i1 : Int) (H : Heap) (locs : List Loc) (ls : Array Slot), g_X6_findFar k 3 S p0 i0 i1 = some (r, S') → xI G S s H locs → lv_has ls 4 [(0, .ref (xB G + p0)), (1, .int (iI i0)), (2, .int (iI i1))] → W p l e rm_X6_findFar s m args below meth c H locs 0 0 (MQ below (xQv G S') args s 0 0 (xA G)) (F0 m 70 ls [])) ∧
  (∀ (S : xS) (p0 : Nat) (i0 i1 : Int) (H : Heap) (locs : List Loc) (ls : Array Slot), g_X6_findFar k 4 S p0 i0 i1 = some (r, S') → xI G S s H locs → lv_has ls 4 [(0, .ref (xB G + p0)), (1, .int (iI i0)), (2, .int (iI i1))] → W p l e rm_X6_findFar s m args below meth c H locs 0 0 (MQ below (xQv G S') args s 0 0 (xA G)) (F0 m 143 ls [])) := by
  intro k
  induction k with
  | zero => exact ⟨fun _ _ _ _ _ _ _ hf => (by cases hf), fun _ _ _ _ _ _ _ hf => (by cases hf), fun _ _ _ _ _ _ _ hf => (by cases hf), fun _ _ _ _ _ _ _ hf => (by cases hf), fun _ _ _ _ _ _ _ hf => (by cases hf)⟩
  | succ fu ih =>
    obtain ⟨ih0, ih1, ih2, ih3, ih4⟩ := ih
    refine ⟨?_, ?_, ?_, ?_, ?_⟩
    · intro S p0 i0 i1 H locs ls hf I hl
      replace hf : b_X6_findFar_0 (g_X6_findFar fu) fu S p0 i0 i1 = some (r, S') := hf
      unfold b_X6_findFar_0 at hf
      refine kx_iconst 0 C dX6_findFar_0 ?_
      refine kx_istore_n 1 C (lv' := [(1, .int (iI 0)), (0, .ref (xB G + p0))]) dX6_findFar_1 hl (by decide) rfl rfl (fun ls hl => ?_)
      exact ih1 _ _ _ _ _ _ _ hf I (lv_sub hl [1, 0] rfl)
    · intro S p0 i0 i1 H locs ls hf I hl
      replace hf : b_X6_findFar_1 (g_X6_findFar fu) fu S p0 i0 i1 = some (r, S') := hf
      unfold b_X6_findFar_1 at hf
      refine kx_iload_n 2 C dX6_findFar_2 (lv_at hl 1 rfl) ?_
      refine kx_aload_n 3 C dX6_findFar_3 (lv_at hl 0 rfl) ?_
      obtain ⟨h4, hf⟩ := ift hf
      obtain ⟨x3, S1, h2, hf⟩ := ob2 hf
      refine kx_callVi 4 C hl I (ci := 5) (As := []) (rest := [.int (iI i0)]) (c_X6_ways G l fu _ _ _ _ h2) (cwV 0 C.ts gX6_findFar_X6_ways rfl rfl rfl nyV_X6_ways ⟨Nat.le_of_ble_eq_true rfl, Nat.le_of_ble_eq_true rfl⟩) rfl h4 rfl rfl (Nat.le_of_ble_eq_true rfl) dX6_findFar_4 ⟨Nat.le_of_ble_eq_true rfl, Nat.le_of_ble_eq_true rfl⟩ (fun H locs I => ?_)
      refine kx_icmp_ge 7 31 C dX6_findFar_7 (by decide) (fun c5 => ?_) (fun c5 => ?_)
      · have hf := ifp c5 hf
        refine kx_aload_n 31 C dX6_findFar_31 (lv_at hl 0 rfl) ?_
        obtain ⟨q7, h6, hf⟩ := ob hf
        refine kx_getp 32 C I fl_X6_findFar_42 h6 dX6_findFar_32 ?_
        refine kx_iconst 35 C dX6_findFar_35 ?_
        refine kx_aload_n 36 C dX6_findFar_36 (lv_at hl 0 rfl) ?_
        obtain ⟨h11, hf⟩ := ift hf
        obtain ⟨x10, S8, h9, hf⟩ := ob2 hf
        refine kx_callVi 37 C hl I (ci := 5) (As := []) (rest := [.int (iI 0), .ref (xB G + q7)]) (c_X6_rankNow G l fu _ _ _ _ h9) (cwV 0 C.ts gX6_findFar_X6_rankNow rfl rfl rfl nyV_X6_rankNow ⟨Nat.le_of_ble_eq_true rfl, Nat.le_of_ble_eq_true rfl⟩) rfl h11 rfl rfl (Nat.le_of_ble_eq_true rfl) dX6_findFar_37 ⟨Nat.le_of_ble_eq_true rfl, Nat.le_of_ble_eq_true rfl⟩ (fun H locs I => ?_)
        obtain ⟨S13, h12, hf⟩ := ob hf
        refine kx_iast 40 C I h12 dX6_findFar_40 (fun H locs I => ?_)
        refine kx_aload_n 41 C dX6_findFar_41 (lv_at hl 0 rfl) ?_
        obtain ⟨q15, h14, hf⟩ := ob hf
        refine kx_getp 42 C I fl_X6_findFar_39 h14 dX6_findFar_42 ?_
        refine kx_aload_n 45 C dX6_findFar_45 (lv_at hl 0 rfl) ?_
        obtain ⟨q17, h16, hf⟩ := ob hf
        refine kx_getp 46 C I fl_X6_findFar_42 h16 dX6_findFar_46 ?_
        refine kx_iconst 49 C dX6_findFar_49 ?_
        obtain ⟨x18, h19, hf⟩ := ob hf
        refine kx_iald 50 C I h19 dX6_findFar_50 ?_
        refine kx_iconst 51 C dX6_findFar_51 ?_
        obtain ⟨S21, h20, hf⟩ := ob hf
        refine kx_iast 52 C I h20 dX6_findFar_52 (fun H locs I => ?_)
        refine kx_aload_n 53 C dX6_findFar_53 (lv_at hl 0 rfl) ?_
        refine kx_iconst 54 C dX6_findFar_54 ?_
        obtain ⟨S23, h22, hf⟩ := ob hf
        refine kx_puti 55 C I fl_X6_findFar_198 fw_RX6_17 h22 dX6_findFar_55 (fun H locs I => ?_)
        refine kx_iconst 58 C dX6_findFar_58 ?_
        refine kx_istore_n 59 C (lv' := [(1, .int (iI 0)), (0, .ref (xB G + p0))]) dX6_findFar_59 hl (by decide) rfl rfl (fun ls hl => ?_)
        exact ih2 _ _ _ _ _ _ _ hf I (lv_sub hl [1, 0] rfl)
      · have hf := ifn c5 hf
        refine kx_aload_n 10 C dX6_findFar_10 (lv_at hl 0 rfl) ?_
        obtain ⟨q25, h24, hf⟩ := ob hf
        refine kx_getp 11 C I fl_X6_findFar_39 h24 dX6_findFar_11 ?_
        refine kx_iload_n 14 C dX6_findFar_14 (lv_at hl 1 rfl) ?_
        refine kx_ldc 15 C (z := 1000000) mw_X6_findFar_0 dX6_findFar_15 (by decide) ?_
        obtain ⟨S27, h26, hf⟩ := ob hf
        refine kx_iast 17 C I h26 dX6_findFar_17 (fun H locs I => ?_)
        refine kx_aload_n 18 C dX6_findFar_18 (lv_at hl 0 rfl) ?_
        obtain ⟨q29, h28, hf⟩ := ob hf
        refine kx_getp 19 C I fl_X6_findFar_45 h28 dX6_findFar_19 ?_
        refine kx_iload_n 22 C dX6_findFar_22 (lv_at hl 1 rfl) ?_
        refine kx_iconst 23 C dX6_findFar_23 ?_
        obtain ⟨S31, h30, hf⟩ := ob hf
        refine kx_zast 24 C I (by decide) h30 dX6_findFar_24 (fun H locs I => ?_)
        obtain ⟨x32, e33, hf⟩ := nmx_e hf
        refine kx_iinc 25 C (lv' := [(1, .int (iI x32)), (0, .ref (xB G + p0))]) dX6_findFar_25 hl 1 rfl e33 (by decide) rfl (fun ls hl => ?_)
        refine kx_goto 28 2 C dX6_findFar_28 (by decide) ?_
        exact ih1 _ _ _ _ _ _ _ hf I (lv_sub hl [1, 0] rfl)
    · intro S p0 i0 i1 H locs ls hf I hl
      replace hf : b_X6_findFar_2 (g_X6_findFar fu) fu S p0 i0 i1 = some (r, S') := hf
      unfold b_X6_findFar_2 at hf
      refine kx_iload_n 60 C dX6_findFar_60 (lv_at hl 1 rfl) ?_
      refine kx_aload_n 61 C dX6_findFar_61 (lv_at hl 0 rfl) ?_
      obtain ⟨x35, h34, hf⟩ := ob hf
      refine kx_geti 62 C I fl_X6_findFar_198 h34 dX6_findFar_62 ?_
      refine kx_icmp_ge 65 155 C dX6_findFar_65 (by decide) (fun c36 => ?_) (fun c36 => ?_)
      · have hf := ifp c36 hf
        exact kx_vret 155 C I hf dX6_findFar_155
      · have hf := ifn c36 hf
        refine kx_iconst 68 C dX6_findFar_68 ?_
        refine kx_istore_n 69 C (lv' := [(2, .int (iI 0)), (0, .ref (xB G + p0)), (1, .int (iI i0))]) dX6_findFar_69 hl (by decide) rfl rfl (fun ls hl => ?_)
        exact ih3 _ _ _ _ _ _ _ hf I (lv_sub hl [1, 2, 0] rfl)
    · intro S p0 i0 i1 H locs ls hf I hl
      replace hf : b_X6_findFar_3 (g_X6_findFar fu) fu S p0 i0 i1 = some (r, S') := hf
      unfold b_X6_findFar_3 at hf
      refine kx_iload_n 70 C dX6_findFar_70 (lv_at hl 2 rfl) ?_
      refine kx_aload_n 71 C dX6_findFar_71 (lv_at hl 0 rfl) ?_
      obtain ⟨q38, h37, hf⟩ := ob hf
      refine kx_getp 72 C I fl_X6_findFar_7 h37 dX6_findFar_72 ?_
      refine kx_bipush 75 C dX6_findFar_75 (by decide) ?_
      obtain ⟨x39, h40, hf⟩ := ob hf
      refine kx_iald 77 C I h40 dX6_findFar_77 ?_
      refine kx_icmp_ge 78 149 C dX6_findFar_78 (by decide) (fun c41 => ?_) (fun c41 => ?_)
      · have hf := ifp c41 hf
        obtain ⟨x42, e43, hf⟩ := nmx_e hf
        refine kx_iinc 149 C (lv' := [(1, .int (iI x42)), (0, .ref (xB G + p0)), (2, .int (iI i1))]) dX6_findFar_149 hl 1 rfl e43 (by decide) rfl (fun ls hl => ?_)
        refine kx_goto 152 60 C dX6_findFar_152 (by decide) ?_
        exact ih2 _ _ _ _ _ _ _ hf I (lv_sub hl [1, 0] rfl)
      · have hf := ifn c41 hf
        refine kx_aload_n 81 C dX6_findFar_81 (lv_at hl 0 rfl) ?_
        refine kx_aload_n 82 C dX6_findFar_82 (lv_at hl 0 rfl) ?_
        obtain ⟨q45, h44, hf⟩ := ob hf
        refine kx_getp 83 C I fl_X6_findFar_42 h44 dX6_findFar_83 ?_
        refine kx_iload_n 86 C dX6_findFar_86 (lv_at hl 1 rfl) ?_
        obtain ⟨x46, h47, hf⟩ := ob hf
        refine kx_iald 87 C I h47 dX6_findFar_87 ?_
        refine kx_iload_n 88 C dX6_findFar_88 (lv_at hl 2 rfl) ?_
        obtain ⟨h51, hf⟩ := ift hf
        obtain ⟨x50, S48, h49, hf⟩ := ob2 hf
        refine kx_callVi 89 C hl I (ci := 5) (As := [.int (iI x46), .int (iI i1)]) (rest := []) (c_X6_behind G l fu _ _ _ _ _ _ h49) (cwV 2 C.ts gX6_findFar_X6_behind rfl rfl rfl nyV_X6_behind ⟨Nat.le_of_ble_eq_true rfl, Nat.le_of_ble_eq_true rfl⟩) rfl h51 rfl rfl (Nat.le_of_ble_eq_true rfl) dX6_findFar_89 ⟨Nat.le_of_ble_eq_true rfl, Nat.le_of_ble_eq_true rfl⟩ (fun H locs I => ?_)
        refine kx_istore_n 92 C (lv' := [(3, .int (iI x50)), (0, .ref (xB G + p0)), (1, .int (iI i0)), (2, .int (iI i1))]) dX6_findFar_92 hl (by decide) rfl rfl (fun ls hl => ?_)
        refine kx_aload_n 93 C dX6_findFar_93 (lv_at hl 1 rfl) ?_
        obtain ⟨q53, h52, hf⟩ := ob hf
        refine kx_getp 94 C I fl_X6_findFar_39 h52 dX6_findFar_94 ?_
        refine kx_iload_n 97 C dX6_findFar_97 (lv_at hl 0 rfl) ?_
        obtain ⟨x54, h55, hf⟩ := ob hf
        refine kx_iald 98 C I h55 dX6_findFar_98 ?_
        refine kx_ldc 99 C (z := 1000000) mw_X6_findFar_0 dX6_findFar_99 (by decide) ?_
        refine kx_icmp_ne 101 143 C dX6_findFar_101 (by decide) (fun c56 => ?_) (fun c56 => ?_)
        · have hf := ifn c56 hf
          exact ih4 _ _ _ _ _ _ _ hf I (lv_sub hl [1, 2, 3] rfl)
        · have hf := ifp c56 hf
          refine kx_aload_n 104 C dX6_findFar_104 (lv_at hl 1 rfl) ?_
          obtain ⟨q58, h57, hf⟩ := ob hf
          refine kx_getp 105 C I fl_X6_findFar_39 h57 dX6_findFar_105 ?_
          refine kx_iload_n 108 C dX6_findFar_108 (lv_at hl 0 rfl) ?_
          refine kx_aload_n 109 C dX6_findFar_109 (lv_at hl 1 rfl) ?_
          obtain ⟨q60, h59, hf⟩ := ob hf
          refine kx_getp 110 C I fl_X6_findFar_39 h59 dX6_findFar_110 ?_
          refine kx_aload_n 113 C dX6_findFar_113 (lv_at hl 1 rfl) ?_
          obtain ⟨q62, h61, hf⟩ := ob hf
          refine kx_getp 114 C I fl_X6_findFar_42 h61 dX6_findFar_114 ?_
          refine kx_iload_n 117 C dX6_findFar_117 (lv_at hl 2 rfl) ?_
          obtain ⟨x63, h64, hf⟩ := ob hf
          refine kx_iald 118 C I h64 dX6_findFar_118 ?_
          obtain ⟨x65, h66, hf⟩ := ob hf
          refine kx_iald 119 C I h66 dX6_findFar_119 ?_
          refine kx_iconst 120 C dX6_findFar_120 ?_
          refine kx_iadd 121 C dX6_findFar_121 ?_
          obtain ⟨S68, h67, hf⟩ := ob hf
          refine kx_iast 122 C I h67 dX6_findFar_122 (fun H locs I => ?_)
          refine kx_aload_n 123 C dX6_findFar_123 (lv_at hl 1 rfl) ?_
          obtain ⟨q70, h69, hf⟩ := ob hf
          refine kx_getp 124 C I fl_X6_findFar_42 h69 dX6_findFar_124 ?_
          refine kx_aload_n 127 C dX6_findFar_127 (lv_at hl 1 rfl) ?_
          obtain ⟨x72, h71, hf⟩ := ob hf
          refine kx_geti 128 C I fl_X6_findFar_198 h71 dX6_findFar_128 ?_
          refine kx_iload_n 131 C dX6_findFar_131 (lv_at hl 0 rfl) ?_
          obtain ⟨S74, h73, hf⟩ := ob hf
          refine kx_iast 132 C I h73 dX6_findFar_132 (fun H locs I => ?_)
          refine kx_aload_n 133 C dX6_findFar_133 (lv_at hl 1 rfl) ?_
          refine kx_dup 134 C dX6_findFar_134 rfl ?_
          obtain ⟨x76, h75, hf⟩ := ob hf
          refine kx_geti 135 C I fl_X6_findFar_198 h75 dX6_findFar_135 ?_
          refine kx_iconst 138 C dX6_findFar_138 ?_
          refine kx_iadd 139 C dX6_findFar_139 ?_
          obtain ⟨S78, h77, hf⟩ := ob hf
          refine kx_puti 140 C I fl_X6_findFar_198 fw_RX6_17 h77 dX6_findFar_140 (fun H locs I => ?_)
          exact ih4 _ _ _ _ _ _ _ hf I (lv_sub hl [1, 2, 3] rfl)
    · intro S p0 i0 i1 H locs ls hf I hl
      replace hf : b_X6_findFar_4 (g_X6_findFar fu) fu S p0 i0 i1 = some (r, S') := hf
      unfold b_X6_findFar_4 at hf
      obtain ⟨x79, e80, hf⟩ := nmx_e hf
      refine kx_iinc 143 C (lv' := [(2, .int (iI x79)), (0, .ref (xB G + p0)), (1, .int (iI i0))]) dX6_findFar_143 hl 2 rfl e80 (by decide) rfl (fun ls hl => ?_)
      refine kx_goto 146 70 C dX6_findFar_146 (by decide) ?_
      exact ih3 _ _ _ _ _ _ _ hf I (lv_sub hl [1, 2, 0] rfl)
set_option maxHeartbeats 4000000 in
set_option maxRecDepth 100000 in
theorem c_X6_findFar (G : xG) (l : Launch) (fu : Nat) (S S' : xS) (p0 : Nat) (r : Int) (hf : f_X6_findFar fu S p0 = some (r, S')) : Met l yX6_findFar vsX6_findFar rm_X6_findFar (va_Pc [.ref (xB G + p0)] (xPre G S)) (xQv G S') 0 0 (xA G) := by
  refine kx_met (ret := none) RX6 [(0, .ref (xB G + p0))] (by decide) rfl rfl (Nat.le_of_ble_eq_true rfl) rfl (fun p e s m below meth c ls C hin I hl => ?_)
  exact (w_X6_findFar C r S' fu).1 S _ _ _ _ _ _ hf I hl
def rm_X6_group : Room := { frames := 5, cells := 0, slots := 0, locals := 116 }
theorem hin_X6_group_RX6 : ∀ w ∈ wsX60, w ∈ vsX6_group := fun w h => inM (inlX6 w h)
theorem fl_X6_group_198 : xFl vsX6_group RX6 198 5 17 := ⟨RX6, TX6, 30, rfl, by decide, hin_X6_group_RX6, inM mq_36_6, rfl⟩
theorem nyS_X6_group : yX6_group.cls ≠ "java/lang/invoke/MethodHandle" ∧ yX6_group.cls ≠ "java/lang/invoke/VarHandle" ∧ (parseMethodDescriptor yX6_group.desc).map (fun d => d.parameters.length) = some 0 := by decide +kernel
theorem nyV_X6_group : yX6_group.cls = RX6 ∧ yX6_group.cls ≠ "java/lang/invoke/MethodHandle" ∧ yX6_group.cls ≠ "java/lang/invoke/VarHandle" ∧ (parseMethodDescriptor yX6_group.desc).map (fun d => d.parameters.length) = some 0 := by decide +kernel
set_option maxHeartbeats 4000000 in
set_option maxRecDepth 100000 in
theorem c_X6_group (G : xG) (l : Launch) (fu : Nat) (S S' : xS) (p0 : Nat) (r : Int) (hf : f_X6_group fu S p0 = some (r, S')) : Met l yX6_group vsX6_group rm_X6_group (va_Pc [.ref (xB G + p0)] (xPre G S)) (xQi G r S') 0 0 (xA G) := by
  refine kx_met (ret := (some .int)) RX6 [(0, .ref (xB G + p0))] (by decide) rfl rfl (Nat.le_of_ble_eq_true rfl) rfl (fun p e s m below meth c ls C hin I hl => ?_)
  unfold f_X6_group at hf
  refine kx_aload_n 0 C dX6_group_0 (lv_at hl 0 rfl) ?_
  obtain ⟨h4, hf⟩ := ift hf
  obtain ⟨z3, S1, h2, hf⟩ := ob2 hf
  refine kx_callVv 1 C hl I (ci := 5) (As := []) (rest := []) (c_X6_findFar G l fu _ _ _ _ h2) (cwV 0 C.ts gX6_group_X6_findFar rfl rfl rfl nyV_X6_findFar ⟨Nat.le_of_ble_eq_true rfl, Nat.le_of_ble_eq_true rfl⟩) rfl h4 rfl rfl (Nat.le_of_ble_eq_true rfl) dX6_group_1 ⟨Nat.le_of_ble_eq_true rfl, Nat.le_of_ble_eq_true rfl⟩ (fun H locs I => ?_)
  refine kx_aload_n 4 C dX6_group_4 (lv_at hl 0 rfl) ?_
  obtain ⟨x6, h5, hf⟩ := ob hf
  refine kx_geti 5 C I fl_X6_group_198 h5 dX6_group_5 ?_
  exact kx_iret 8 C I hf dX6_group_8
def rm_X6_isSought : Room := { frames := 5, cells := 0, slots := 0, locals := 113 }
theorem nyS_X6_isSought : yX6_isSought.cls ≠ "java/lang/invoke/MethodHandle" ∧ yX6_isSought.cls ≠ "java/lang/invoke/VarHandle" ∧ (parseMethodDescriptor yX6_isSought.desc).map (fun d => d.parameters.length) = some 2 := by decide +kernel
theorem nyV_X6_isSought : yX6_isSought.cls = RX6 ∧ yX6_isSought.cls ≠ "java/lang/invoke/MethodHandle" ∧ yX6_isSought.cls ≠ "java/lang/invoke/VarHandle" ∧ (parseMethodDescriptor yX6_isSought.desc).map (fun d => d.parameters.length) = some 2 := by decide +kernel
set_option maxHeartbeats 4000000 in
set_option maxRecDepth 100000 in
theorem c_X6_isSought (G : xG) (l : Launch) (fu : Nat) (S S' : xS) (p0 : Nat) (i0 : Int) (i1 : Int) (r : Int) (hf : f_X6_isSought fu S p0 i0 i1 = some (r, S')) : Met l yX6_isSought vsX6_isSought rm_X6_isSought (va_Pc [.ref (xB G + p0), .int (iI i0), .int (iI i1)] (xPre G S)) (xQi G r S') 0 0 (xA G) := by
  refine kx_met (ret := (some .boolean)) RX6 [(0, .ref (xB G + p0)), (1, .int (iI i0)), (2, .int (iI i1))] (by decide) rfl rfl (Nat.le_of_ble_eq_true rfl) rfl (fun p e s m below meth c ls C hin I hl => ?_)
  unfold f_X6_isSought at hf
  refine kx_iload_n 0 C dX6_isSought_0 (lv_at hl 2 rfl) ?_
  refine kx_iconst 1 C dX6_isSought_1 ?_
  refine kx_icmp_eq 2 16 C dX6_isSought_2 (by decide) (fun c1 => ?_) (fun c1 => ?_)
  · have hf := ifp c1 hf
    refine kx_aload_n 16 C dX6_isSought_16 (lv_at hl 0 rfl) ?_
    refine kx_iload_n 17 C dX6_isSought_17 (lv_at hl 1 rfl) ?_
    obtain ⟨h5, hf⟩ := ift hf
    obtain ⟨z4, S2, h3, hf⟩ := ob2 hf
    refine kx_callVv 18 C hl I (ci := 5) (As := [.int (iI i0)]) (rest := []) (c_X6_takeRank G l fu _ _ _ _ _ h3) (cwV 1 C.ts gX6_isSought_X6_takeRank rfl rfl rfl nyV_X6_takeRank ⟨Nat.le_of_ble_eq_true rfl, Nat.le_of_ble_eq_true rfl⟩) rfl h5 rfl rfl (Nat.le_of_ble_eq_true rfl) dX6_isSought_18 ⟨Nat.le_of_ble_eq_true rfl, Nat.le_of_ble_eq_true rfl⟩ (fun H locs I => ?_)
    refine kx_aload_n 21 C dX6_isSought_21 (lv_at hl 0 rfl) ?_
    obtain ⟨h9, hf⟩ := ift hf
    obtain ⟨x8, S6, h7, hf⟩ := ob2 hf
    refine kx_callVi 22 C hl I (ci := 5) (As := []) (rest := []) (c_X6_findsHand G l fu _ _ _ _ h7) (cwV 0 C.ts gX6_isSought_X6_findsHand rfl rfl rfl nyV_X6_findsHand ⟨Nat.le_of_ble_eq_true rfl, Nat.le_of_ble_eq_true rfl⟩) rfl h9 rfl rfl (Nat.le_of_ble_eq_true rfl) dX6_isSought_22 ⟨Nat.le_of_ble_eq_true rfl, Nat.le_of_ble_eq_true rfl⟩ (fun H locs I => ?_)
    refine kx_aload_n 25 C dX6_isSought_25 (lv_at hl 0 rfl) ?_
    obtain ⟨h13, hf⟩ := ift hf
    obtain ⟨x12, S10, h11, hf⟩ := ob2 hf
    refine kx_callVi 26 C hl I (ci := 5) (As := []) (rest := [.int (iI x8)]) (c_X6_all G l fu _ _ _ _ h11) (cwV 0 C.ts gX6_isSought_X6_all rfl rfl rfl nyV_X6_all ⟨Nat.le_of_ble_eq_true rfl, Nat.le_of_ble_eq_true rfl⟩) rfl h13 rfl rfl (Nat.le_of_ble_eq_true rfl) dX6_isSought_26 ⟨Nat.le_of_ble_eq_true rfl, Nat.le_of_ble_eq_true rfl⟩ (fun H locs I => ?_)
    refine kx_icmp_ne 29 36 C dX6_isSought_29 (by decide) (fun c14 => ?_) (fun c14 => ?_)
    · have hf := ifn c14 hf
      refine kx_iconst 36 C dX6_isSought_36 ?_
      exact kx_zret 37 C I (by decide) hf dX6_isSought_37
    · have hf := ifp c14 hf
      refine kx_iconst 32 C dX6_isSought_32 ?_
      refine kx_goto 33 37 C dX6_isSought_33 (by decide) ?_
      exact kx_zret 37 C I (by decide) hf dX6_isSought_37
  · have hf := ifn c1 hf
    refine kx_iload_n 5 C dX6_isSought_5 (lv_at hl 1 rfl) ?_
    refine kx_iload_n 6 C dX6_isSought_6 (lv_at hl 2 rfl) ?_
    refine kx_icmp_ne 7 14 C dX6_isSought_7 (by decide) (fun c15 => ?_) (fun c15 => ?_)
    · have hf := ifn c15 hf
      refine kx_iconst 14 C dX6_isSought_14 ?_
      exact kx_zret 15 C I (by decide) hf dX6_isSought_15
    · have hf := ifp c15 hf
      refine kx_iconst 10 C dX6_isSought_10 ?_
      refine kx_goto 11 15 C dX6_isSought_11 (by decide) ?_
      exact kx_zret 15 C I (by decide) hf dX6_isSought_15
