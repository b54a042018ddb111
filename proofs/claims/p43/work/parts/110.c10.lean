def rm_X6_leadsOn : Room := { frames := 4, cells := 0, slots := 0, locals := 93 }
theorem hin_X6_leadsOn_RX6 : ∀ w ∈ wsX60, w ∈ vsX6_leadsOn := fun w h => inM (inlX6 w h)
theorem fl_X6_leadsOn_39 : xFl vsX6_leadsOn RX6 39 5 14 := ⟨RX6, TX6, 30, rfl, by decide, hin_X6_leadsOn_RX6, inM mq_5_2, rfl⟩
theorem fl_X6_leadsOn_45 : xFl vsX6_leadsOn RX6 45 5 16 := ⟨RX6, TX6, 30, rfl, by decide, hin_X6_leadsOn_RX6, inM mq_5_4, rfl⟩
theorem nyS_X6_leadsOn : yX6_leadsOn.cls ≠ "java/lang/invoke/MethodHandle" ∧ yX6_leadsOn.cls ≠ "java/lang/invoke/VarHandle" ∧ (parseMethodDescriptor yX6_leadsOn.desc).map (fun d => d.parameters.length) = some 2 := by decide +kernel
theorem nyV_X6_leadsOn : yX6_leadsOn.cls = RX6 ∧ yX6_leadsOn.cls ≠ "java/lang/invoke/MethodHandle" ∧ yX6_leadsOn.cls ≠ "java/lang/invoke/VarHandle" ∧ (parseMethodDescriptor yX6_leadsOn.desc).map (fun d => d.parameters.length) = some 2 := by decide +kernel
set_option maxHeartbeats 4000000 in
set_option maxRecDepth 100000 in
theorem w_X6_leadsOn {G : xG} {p : Program} {l : Launch} {e : Env} {s : State} {m : MethodId} {args : Array Value} {below : List Frame} {meth : Method} {c : Code} (C : xK G p s m args meth c cX6_leadsOn 4 vsX6_leadsOn RX6 (some .boolean)) (r : Int) (S' : xS) : ∀ k : Nat,
  (∀ (S : xS) (p0 : Nat) (i0 i1 : Int) (H : Heap) (locs : List Loc) (ls : Array Slot), g_X6_leadsOn k 0 S p0 i0 i1 = some (r, S') → xI G S s H locs → lv_has ls 4 [(0, .ref (xB G + p0)), (1, .int (iI i0)), (2, .int (iI i1))] → W p l e rm_X6_leadsOn s m args below meth c H locs 0 0 (MQ below (xQi G r S') args s 0 0 (xA G)) (F0 m 0 ls [])) ∧
  (∀ (S : xS) (p0 : Nat) (i0 i1 : Int) (H : Heap) (locs : List Loc) (ls : Array Slot), g_X6_leadsOn k 1 S p0 i0 i1 = some (r, S') → xI G S s H locs → lv_has ls 4 [] → W p l e rm_X6_leadsOn s m args below meth c H locs 0 0 (MQ below (xQi G r S') args s 0 0 (xA G)) (F0 m 37 ls [])) := by
  intro k
  induction k with
  | zero => exact ⟨fun _ _ _ _ _ _ _ hf => (by cases hf), fun _ _ _ _ _ _ _ hf => (by cases hf)⟩
  | succ fu ih =>
    obtain ⟨ih0, ih1⟩ := ih
    refine ⟨?_, ?_⟩
    · intro S p0 i0 i1 H locs ls hf I hl
      replace hf : b_X6_leadsOn_0 (g_X6_leadsOn fu) fu S p0 i0 i1 = some (r, S') := hf
      unfold b_X6_leadsOn_0 at hf
      refine kx_aload_n 0 C dX6_leadsOn_0 (lv_at hl 0 rfl) ?_
      refine kx_iload_n 1 C dX6_leadsOn_1 (lv_at hl 1 rfl) ?_
      refine kx_iload_n 2 C dX6_leadsOn_2 (lv_at hl 2 rfl) ?_
      obtain ⟨h4, hf⟩ := ift hf
      obtain ⟨x3, S1, h2, hf⟩ := ob2 hf
      refine kx_callVi 3 C hl I (ci := 5) (As := [.int (iI i0), .int (iI i1)]) (rest := []) (c_X6_behind G l fu _ _ _ _ _ _ h2) (cwV 2 C.ts gX6_leadsOn_X6_behind rfl rfl rfl nyV_X6_behind ⟨Nat.le_of_ble_eq_true rfl, Nat.le_of_ble_eq_true rfl⟩) rfl h4 rfl rfl (Nat.le_of_ble_eq_true rfl) dX6_leadsOn_3 ⟨Nat.le_of_ble_eq_true rfl, Nat.le_of_ble_eq_true rfl⟩ (fun H locs I => ?_)
      refine kx_istore_n 6 C (lv' := [(3, .int (iI x3)), (0, .ref (xB G + p0)), (1, .int (iI i0)), (2, .int (iI i1))]) dX6_leadsOn_6 hl (by decide) rfl rfl (fun ls hl => ?_)
      refine kx_aload_n 7 C dX6_leadsOn_7 (lv_at hl 1 rfl) ?_
      obtain ⟨q6, h5, hf⟩ := ob hf
      refine kx_getp 8 C I fl_X6_leadsOn_39 h5 dX6_leadsOn_8 ?_
      refine kx_iload_n 11 C dX6_leadsOn_11 (lv_at hl 0 rfl) ?_
      obtain ⟨x7, h8, hf⟩ := ob hf
      refine kx_iald 12 C I h8 dX6_leadsOn_12 ?_
      refine kx_aload_n 13 C dX6_leadsOn_13 (lv_at hl 1 rfl) ?_
      obtain ⟨q10, h9, hf⟩ := ob hf
      refine kx_getp 14 C I fl_X6_leadsOn_39 h9 dX6_leadsOn_14 ?_
      refine kx_iload_n 17 C dX6_leadsOn_17 (lv_at hl 2 rfl) ?_
      obtain ⟨x11, h12, hf⟩ := ob hf
      refine kx_iald 18 C I h12 dX6_leadsOn_18 ?_
      refine kx_iconst 19 C dX6_leadsOn_19 ?_
      refine kx_iadd 20 C dX6_leadsOn_20 ?_
      refine kx_icmp_ne 21 37 C dX6_leadsOn_21 (by decide) (fun c13 => ?_) (fun c13 => ?_)
      · have hf := ifn c13 hf
        exact ih1 _ _ _ _ _ _ _ hf I (lv_sub hl [] rfl)
      · have hf := ifp c13 hf
        refine kx_aload_n 24 C dX6_leadsOn_24 (lv_at hl 1 rfl) ?_
        obtain ⟨q15, h14, hf⟩ := ob hf
        refine kx_getp 25 C I fl_X6_leadsOn_45 h14 dX6_leadsOn_25 ?_
        refine kx_iload_n 28 C dX6_leadsOn_28 (lv_at hl 0 rfl) ?_
        obtain ⟨x16, h17, hf⟩ := ob hf
        refine kx_zald 29 C I h17 dX6_leadsOn_29 ?_
        refine kx_if_eq 30 37 C dX6_leadsOn_30 (by decide) (fun c18 => ?_) (fun c18 => ?_)
        · have hf := ifp c18 hf
          exact ih1 _ _ _ _ _ _ _ hf I (lv_sub hl [] rfl)
        · have hf := ifn c18 hf
          refine kx_iconst 33 C dX6_leadsOn_33 ?_
          refine kx_goto 34 38 C dX6_leadsOn_34 (by decide) ?_
          exact kx_zret 38 C I (by decide) hf dX6_leadsOn_38
    · intro S p0 i0 i1 H locs ls hf I hl
      replace hf : b_X6_leadsOn_1 (g_X6_leadsOn fu) fu S p0 i0 i1 = some (r, S') := hf
      unfold b_X6_leadsOn_1 at hf
      refine kx_iconst 37 C dX6_leadsOn_37 ?_
      exact kx_zret 38 C I (by decide) hf dX6_leadsOn_38
set_option maxHeartbeats 4000000 in
set_option maxRecDepth 100000 in
theorem c_X6_leadsOn (G : xG) (l : Launch) (fu : Nat) (S S' : xS) (p0 : Nat) (i0 : Int) (i1 : Int) (r : Int) (hf : f_X6_leadsOn fu S p0 i0 i1 = some (r, S')) : Met l yX6_leadsOn vsX6_leadsOn rm_X6_leadsOn (va_Pc [.ref (xB G + p0), .int (iI i0), .int (iI i1)] (xPre G S)) (xQi G r S') 0 0 (xA G) := by
  refine kx_met (ret := (some .boolean)) RX6 [(0, .ref (xB G + p0)), (1, .int (iI i0)), (2, .int (iI i1))] (by decide) rfl rfl (Nat.le_of_ble_eq_true rfl) rfl (fun p e s m below meth c ls C hin I hl => ?_)
  exact (w_X6_leadsOn C r S' fu).1 S _ _ _ _ _ _ hf I hl
def rm_X6_fewestTo : Room := { frames := 6, cells := 0, slots := 0, locals := 135 }
theorem hin_X6_fewestTo_RX6 : ∀ w ∈ wsX60, w ∈ vsX6_fewestTo := fun w h => inM (inlX6 w h)
theorem fl_X6_fewestTo_7 : xFl vsX6_fewestTo RX6 7 5 0 := ⟨RX6, TX6, 30, rfl, by decide, hin_X6_fewestTo_RX6, inM mq_4_16, rfl⟩
theorem fl_X6_fewestTo_39 : xFl vsX6_fewestTo RX6 39 5 14 := ⟨RX6, TX6, 30, rfl, by decide, hin_X6_fewestTo_RX6, inM mq_5_2, rfl⟩
theorem fl_X6_fewestTo_42 : xFl vsX6_fewestTo RX6 42 5 15 := ⟨RX6, TX6, 30, rfl, by decide, hin_X6_fewestTo_RX6, inM mq_5_3, rfl⟩
theorem fl_X6_fewestTo_45 : xFl vsX6_fewestTo RX6 45 5 16 := ⟨RX6, TX6, 30, rfl, by decide, hin_X6_fewestTo_RX6, inM mq_5_4, rfl⟩
theorem fl_X6_fewestTo_198 : xFl vsX6_fewestTo RX6 198 5 17 := ⟨RX6, TX6, 30, rfl, by decide, hin_X6_fewestTo_RX6, inM mq_36_6, rfl⟩
theorem fl_X6_fewestTo_216 : xFl vsX6_fewestTo RX6 216 5 11 := ⟨RX6, TX6, 30, rfl, by decide, hin_X6_fewestTo_RX6, inM mq_37_8, rfl⟩
theorem nyS_X6_fewestTo : yX6_fewestTo.cls ≠ "java/lang/invoke/MethodHandle" ∧ yX6_fewestTo.cls ≠ "java/lang/invoke/VarHandle" ∧ (parseMethodDescriptor yX6_fewestTo.desc).map (fun d => d.parameters.length) = some 2 := by decide +kernel
theorem nyV_X6_fewestTo : yX6_fewestTo.cls = RX6 ∧ yX6_fewestTo.cls ≠ "java/lang/invoke/MethodHandle" ∧ yX6_fewestTo.cls ≠ "java/lang/invoke/VarHandle" ∧ (parseMethodDescriptor yX6_fewestTo.desc).map (fun d => d.parameters.length) = some 2 := by decide +kernel
set_option maxHeartbeats 4000000 in
set_option maxRecDepth 100000 in
theorem w_X6_fewestTo {G : xG} {p : Program} {l : Launch} {e : Env} {s : State} {m : MethodId} {args : Array Value} {below : List Frame} {meth : Method} {c : Code} (C : xK G p s m args meth c cX6_fewestTo 8 vsX6_fewestTo RX6 (some .int)) (r : Int) (S' : xS) : ∀ k : Nat,
  (∀ (S : xS) (p0 p1 : Nat) (i0 i1 i2 i3 i4 i5 i6 i7 : Int) (H : Heap) (locs : List Loc) (ls : Array Slot), g_X6_fewestTo k 0 S p0 p1 i0 i1 i2 i3 i4 i5 i6 i7 = some (r, S') → xI G S s H locs → lv_has ls 8 [(0, .ref (xB G + p0)), (1, .int (iI i0)), (2, .int (iI i1))] → W p l e rm_X6_fewestTo s m args below meth c H locs 0 0 (MQ below (xQi G r S') args s 0 0 (xA G)) (F0 m 0 ls [])) ∧
  (∀ (S : xS) (p0 p1 : Nat) (i0 i1 i2 i3 i4 i5 i6 i7 : Int) (H : Heap) (locs : List Loc) (ls : Array Slot), g_X6_fewestTo k 1 S p0 p1 i0 i1 i2 i3 i4 i5 i6 i7 = some (r, S') → xI G S s H locs → lv_has ls 8 [(0, .ref (xB G + p0)), (1, .int (iI i0)), (2, .int (iI i1)), (3, .int (iI i2))] → W p l e rm_X6_fewestTo s m args below meth c H locs 0 0 (MQ below (xQi G r S') args s 0 0 (xA G)) (F0 m 6 ls [])) ∧
  (∀ (S : xS) (p0 p1 : Nat) (i0 i1 i2 i3 i4 i5 i6 i7 : Int) (H : Heap) (locs : List Loc) (ls : Array Slot), g_X6_fewestTo k 2 S p0 p1 i0 i1 i2 i3 i4 i5 i6 i7 = some (r, S') → xI G S s H locs → lv_has ls 8 [(0, .ref (xB G + p0)), (1, .int (iI i0)), (2, .int (iI i1)), (3, .int (iI i2))] → W p l e rm_X6_fewestTo s m args below meth c H locs 0 0 (MQ below (xQi G r S') args s 0 0 (xA G)) (F0 m 34 ls [])) ∧
  (∀ (S : xS) (p0 p1 : Nat) (i0 i1 i2 i3 i4 i5 i6 i7 : Int) (H : Heap) (locs : List Loc) (ls : Array Slot), g_X6_fewestTo k 3 S p0 p1 i0 i1 i2 i3 i4 i5 i6 i7 = some (r, S') → xI G S s H locs → lv_has ls 8 [(0, .ref (xB G + p0)), (3, .int (iI i0))] → W p l e rm_X6_fewestTo s m args below meth c H locs 0 0 (MQ below (xQi G r S') args s 0 0 (xA G)) (F0 m 47 ls [])) ∧
  (∀ (S : xS) (p0 p1 : Nat) (i0 i1 i2 i3 i4 i5 i6 i7 : Int) (H : Heap) (locs : List Loc) (ls : Array Slot), g_X6_fewestTo k 4 S p0 p1 i0 i1 i2 i3 i4 i5 i6 i7 = some (r, S') → xI G S s H locs → lv_has ls 8 [(0, .ref (xB G + p0)), (1, .int (iI i0)), (2, .int (iI i1)), (4, .int (iI i2)), (5, .int (iI i3))] → W p l e rm_X6_fewestTo s m args below meth c H locs 0 0 (MQ below (xQi G r S') args s 0 0 (xA G)) (F0 m 101 ls [])) ∧
  (∀ (S : xS) (p0 p1 : Nat) (i0 i1 i2 i3 i4 i5 i6 i7 : Int) (H : Heap) (locs : List Loc) (ls : Array Slot), g_X6_fewestTo k 5 S p0 p1 i0 i1 i2 i3 i4 i5 i6 i7 = some (r, S') → xI G S s H locs → lv_has ls 8 [(0, .ref (xB G + p0)), (1, .int (iI i0)), (2, .int (iI i1)), (4, .int (iI i2)), (5, .int (iI i3)), (6, .int (iI i4))] → W p l e rm_X6_fewestTo s m args below meth c H locs 0 0 (MQ below (xQi G r S') args s 0 0 (xA G)) (F0 m 147 ls [.int (iI i5), .ref (xB G + p1)])) ∧
  (∀ (S : xS) (p0 p1 : Nat) (i0 i1 i2 i3 i4 i5 i6 i7 : Int) (H : Heap) (locs : List Loc) (ls : Array Slot), g_X6_fewestTo k 6 S p0 p1 i0 i1 i2 i3 i4 i5 i6 i7 = some (r, S') → xI G S s H locs → lv_has ls 8 [(0, .ref (xB G + p0)), (1, .int (iI i0)), (2, .int (iI i1)), (4, .int (iI i2)), (5, .int (iI i3)), (6, .int (iI i4))] → W p l e rm_X6_fewestTo s m args below meth c H locs 0 0 (MQ below (xQi G r S') args s 0 0 (xA G)) (F0 m 148 ls [.int (iI i6), .int (iI i5), .ref (xB G + p1)])) ∧
  (∀ (S : xS) (p0 p1 : Nat) (i0 i1 i2 i3 i4 i5 i6 i7 : Int) (H : Heap) (locs : List Loc) (ls : Array Slot), g_X6_fewestTo k 7 S p0 p1 i0 i1 i2 i3 i4 i5 i6 i7 = some (r, S') → xI G S s H locs → lv_has ls 8 [(0, .ref (xB G + p0)), (1, .int (iI i0)), (2, .int (iI i1)), (4, .int (iI i2)), (5, .int (iI i3)), (6, .int (iI i4)), (7, .int (iI i5))] → W p l e rm_X6_fewestTo s m args below meth c H locs 0 0 (MQ below (xQi G r S') args s 0 0 (xA G)) (F0 m 152 ls [])) ∧
  (∀ (S : xS) (p0 p1 : Nat) (i0 i1 i2 i3 i4 i5 i6 i7 : Int) (H : Heap) (locs : List Loc) (ls : Array Slot), g_X6_fewestTo k 8 S p0 p1 i0 i1 i2 i3 i4 i5 i6 i7 = some (r, S') → xI G S s H locs → lv_has ls 8 [(0, .ref (xB G + p0)), (1, .int (iI i0)), (2, .int (iI i1)), (4, .int (iI i2)), (5, .int (iI i3)), (6, .int (iI i4)), (7, .int (iI i5))] → W p l e rm_X6_fewestTo s m args below meth c H locs 0 0 (MQ below (xQi G r S') args s 0 0 (xA G)) (F0 m 203 ls [.int (iI i6), .ref (xB G + p1)])) ∧
  (∀ (S : xS) (p0 p1 : Nat) (i0 i1 i2 i3 i4 i5 i6 i7 : Int) (H : Heap) (locs : List Loc) (ls : Array Slot), g_X6_fewestTo k 9 S p0 p1 i0 i1 i2 i3 i4 i5 i6 i7 = some (r, S') → xI G S s H locs → lv_has ls 8 [(0, .ref (xB G + p0)), (1, .int (iI i0)), (2, .int (iI i1)), (4, .int (iI i2)), (5, .int (iI i3)), (6, .int (iI i4)), (7, .int (iI i5))] → W p l e rm_X6_fewestTo s m args below meth c H locs 0 0 (MQ below (xQi G r S') args s 0 0 (xA G)) (F0 m 208 ls [.int (iI i7), .int (iI i6), .ref (xB G + p1)])) ∧
  (∀ (S : xS) (p0 p1 : Nat) (i0 i1 i2 i3 i4 i5 i6 i7 : Int) (H : Heap) (locs : List Loc) (ls : Array Slot), g_X6_fewestTo k 10 S p0 p1 i0 i1 i2 i3 i4 i5 i6 i7 = some (r, S') → xI G S s H locs → lv_has ls 8 [(0, .ref (xB G + p0)), (1, .int (iI i0)), (2, .int (iI i1)), (4, .int (iI i2)), (5, .int (iI i3))] → W p l e rm_X6_fewestTo s m args below meth c H locs 0 0 (MQ below (xQi G r S') args s 0 0 (xA G)) (F0 m 215 ls [])) ∧
  (∀ (S : xS) (p0 p1 : Nat) (i0 i1 i2 i3 i4 i5 i6 i7 : Int) (H : Heap) (locs : List Loc) (ls : Array Slot), g_X6_fewestTo k 11 S p0 p1 i0 i1 i2 i3 i4 i5 i6 i7 = some (r, S') → xI G S s H locs → lv_has ls 8 [(0, .ref (xB G + p0)), (2, .int (iI i0)), (5, .int (iI i1)), (6, .int (iI i2))] → W p l e rm_X6_fewestTo s m args below meth c H locs 0 0 (MQ below (xQi G r S') args s 0 0 (xA G)) (F0 m 232 ls [])) ∧
  (∀ (S : xS) (p0 p1 : Nat) (i0 i1 i2 i3 i4 i5 i6 i7 : Int) (H : Heap) (locs : List Loc) (ls : Array Slot), g_X6_fewestTo k 12 S p0 p1 i0 i1 i2 i3 i4 i5 i6 i7 = some (r, S') → xI G S s H locs → lv_has ls 8 [(0, .ref (xB G + p0)), (2, .int (iI i0)), (5, .int (iI i1)), (6, .int (iI i2))] → W p l e rm_X6_fewestTo s m args below meth c H locs 0 0 (MQ below (xQi G r S') args s 0 0 (xA G)) (F0 m 243 ls [])) := by
  intro k
  induction k with
  | zero => exact ⟨fun _ _ _ _ _ _ _ _ _ _ _ _ _ _ hf => (by cases hf), fun _ _ _ _ _ _ _ _ _ _ _ _ _ _ hf => (by cases hf), fun _ _ _ _ _ _ _ _ _ _ _ _ _ _ hf => (by cases hf), fun _ _ _ _ _ _ _ _ _ _ _ _ _ _ hf => (by cases hf), fun _ _ _ _ _ _ _ _ _ _ _ _ _ _ hf => (by cases hf), fun _ _ _ _ _ _ _ _ _ _ _ _ _ _ hf => (by cases hf), fun _ _ _ _ _ _ _ _ _ _ _ _ _ _ hf => (by cases hf), fun _ _ _ _ _ _ _ _ _ _ _ _ _ _ hf => (by cases hf), fun _ _ _ _ _ _ _ _ _ _ _ _ _ _ hf => (by cases hf), fun _ _ _ _ _ _ _ _ _ _ _ _ _ _ hf => (by cases hf), fun _ _ _ _ _ _ _ _ _ _ _ _ _ _ hf => (by cases hf), fun _ _ _ _ _ _ _ _ _ _ _ _ _ _ hf => (by cases hf), fun _ _ _ _ _ _ _ _ _ _ _ _ _ _ hf => (by cases hf)⟩
  | succ fu ih =>
    obtain ⟨ih0, ih1, ih2, ih3, ih4, ih5, ih6, ih7, ih8, ih9, ih10, ih11, ih12⟩ := ih
    refine ⟨?_, ?_, ?_, ?_, ?_, ?_, ?_, ?_, ?_, ?_, ?_, ?_, ?_⟩
    · intro S p0 p1 i0 i1 i2 i3 i4 i5 i6 i7 H locs ls hf I hl
      replace hf : b_X6_fewestTo_0 (g_X6_fewestTo fu) fu S p0 p1 i0 i1 i2 i3 i4 i5 i6 i7 = some (r, S') := hf
      unfold b_X6_fewestTo_0 at hf
      refine kx_aload_n 0 C dX6_fewestTo_0 (lv_at hl 0 rfl) ?_
      obtain ⟨h4, hf⟩ := ift hf
      obtain ⟨z3, S1, h2, hf⟩ := ob2 hf
      refine kx_callVv 1 C hl I (ci := 5) (As := []) (rest := []) (c_X6_findFar G l fu _ _ _ _ h2) (cwV 0 C.ts gX6_fewestTo_X6_findFar rfl rfl rfl nyV_X6_findFar ⟨Nat.le_of_ble_eq_true rfl, Nat.le_of_ble_eq_true rfl⟩) rfl h4 rfl rfl (Nat.le_of_ble_eq_true rfl) dX6_fewestTo_1 ⟨Nat.le_of_ble_eq_true rfl, Nat.le_of_ble_eq_true rfl⟩ (fun H locs I => ?_)
      refine kx_iconst 4 C dX6_fewestTo_4 ?_
      refine kx_istore_n 5 C (lv' := [(3, .int (iI 0)), (0, .ref (xB G + p0)), (1, .int (iI i0)), (2, .int (iI i1))]) dX6_fewestTo_5 hl (by decide) rfl rfl (fun ls hl => ?_)
      exact ih1 _ _ _ _ _ _ _ _ _ _ _ _ _ _ hf I (lv_sub hl [1, 2, 3, 0] rfl)
    · intro S p0 p1 i0 i1 i2 i3 i4 i5 i6 i7 H locs ls hf I hl
      replace hf : b_X6_fewestTo_1 (g_X6_fewestTo fu) fu S p0 p1 i0 i1 i2 i3 i4 i5 i6 i7 = some (r, S') := hf
      unfold b_X6_fewestTo_1 at hf
      refine kx_iload_n 6 C dX6_fewestTo_6 (lv_at hl 3 rfl) ?_
      refine kx_aload_n 7 C dX6_fewestTo_7 (lv_at hl 0 rfl) ?_
      obtain ⟨x6, h5, hf⟩ := ob hf
      refine kx_geti 8 C I fl_X6_fewestTo_198 h5 dX6_fewestTo_8 ?_
      refine kx_icmp_ge 11 34 C dX6_fewestTo_11 (by decide) (fun c7 => ?_) (fun c7 => ?_)
      · have hf := ifp c7 hf
        exact ih2 _ _ _ _ _ _ _ _ _ _ _ _ _ _ hf I (lv_sub hl [0, 1, 2, 3] rfl)
      · have hf := ifn c7 hf
        refine kx_aload_n 14 C dX6_fewestTo_14 (lv_at hl 0 rfl) ?_
        refine kx_aload_n 15 C dX6_fewestTo_15 (lv_at hl 0 rfl) ?_
        obtain ⟨q9, h8, hf⟩ := ob hf
        refine kx_getp 16 C I fl_X6_fewestTo_42 h8 dX6_fewestTo_16 ?_
        refine kx_iload_n 19 C dX6_fewestTo_19 (lv_at hl 3 rfl) ?_
        obtain ⟨x10, h11, hf⟩ := ob hf
        refine kx_iald 20 C I h11 dX6_fewestTo_20 ?_
        refine kx_iload_n 21 C dX6_fewestTo_21 (lv_at hl 1 rfl) ?_
        obtain ⟨h15, hf⟩ := ift hf
        obtain ⟨x14, S12, h13, hf⟩ := ob2 hf
        refine kx_callVi 22 C hl I (ci := 5) (As := [.int (iI x10), .int (iI i0)]) (rest := []) (c_X6_isSought G l fu _ _ _ _ _ _ h13) (cwV 2 C.ts gX6_fewestTo_X6_isSought rfl rfl rfl nyV_X6_isSought ⟨Nat.le_of_ble_eq_true rfl, Nat.le_of_ble_eq_true rfl⟩) rfl h15 rfl rfl (Nat.le_of_ble_eq_true rfl) dX6_fewestTo_22 ⟨Nat.le_of_ble_eq_true rfl, Nat.le_of_ble_eq_true rfl⟩ (fun H locs I => ?_)
        refine kx_if_ne 25 34 C dX6_fewestTo_25 (by decide) (fun c16 => ?_) (fun c16 => ?_)
        · have hf := ifn c16 hf
          exact ih2 _ _ _ _ _ _ _ _ _ _ _ _ _ _ hf I (lv_sub hl [0, 1, 2, 3] rfl)
        · have hf := ifp c16 hf
          obtain ⟨x17, e18, hf⟩ := nmx_e hf
          refine kx_iinc 28 C (lv' := [(3, .int (iI x17)), (0, .ref (xB G + p0)), (1, .int (iI i0)), (2, .int (iI i1))]) dX6_fewestTo_28 hl 3 rfl e18 (by decide) rfl (fun ls hl => ?_)
          refine kx_goto 31 6 C dX6_fewestTo_31 (by decide) ?_
          exact ih1 _ _ _ _ _ _ _ _ _ _ _ _ _ _ hf I (lv_sub hl [1, 2, 3, 0] rfl)
    · intro S p0 p1 i0 i1 i2 i3 i4 i5 i6 i7 H locs ls hf I hl
      replace hf : b_X6_fewestTo_2 (g_X6_fewestTo fu) fu S p0 p1 i0 i1 i2 i3 i4 i5 i6 i7 = some (r, S') := hf
      unfold b_X6_fewestTo_2 at hf
      refine kx_iload_n 34 C dX6_fewestTo_34 (lv_at hl 3 rfl) ?_
      refine kx_aload_n 35 C dX6_fewestTo_35 (lv_at hl 0 rfl) ?_
      obtain ⟨x20, h19, hf⟩ := ob hf
      refine kx_geti 36 C I fl_X6_fewestTo_198 h19 dX6_fewestTo_36 ?_
      refine kx_icmp_eq 39 47 C dX6_fewestTo_39 (by decide) (fun c21 => ?_) (fun c21 => ?_)
      · have hf := ifp c21 hf
        exact ih3 _ _ _ _ _ _ _ _ _ _ _ _ _ _ hf I (lv_sub hl [0, 3] rfl)
      · have hf := ifn c21 hf
        refine kx_iload_n 42 C dX6_fewestTo_42 (lv_at hl 2 rfl) ?_
        refine kx_iconst 43 C dX6_fewestTo_43 ?_
        refine kx_icmp_ne 44 71 C dX6_fewestTo_44 (by decide) (fun c22 => ?_) (fun c22 => ?_)
        · have hf := ifn c22 hf
          refine kx_aload_n 71 C dX6_fewestTo_71 (lv_at hl 0 rfl) ?_
          obtain ⟨q24, h23, hf⟩ := ob hf
          refine kx_getp 72 C I fl_X6_fewestTo_39 h23 dX6_fewestTo_72 ?_
          refine kx_aload_n 75 C dX6_fewestTo_75 (lv_at hl 0 rfl) ?_
          obtain ⟨q26, h25, hf⟩ := ob hf
          refine kx_getp 76 C I fl_X6_fewestTo_42 h25 dX6_fewestTo_76 ?_
          refine kx_iload_n 79 C dX6_fewestTo_79 (lv_at hl 3 rfl) ?_
          obtain ⟨x27, h28, hf⟩ := ob hf
          refine kx_iald 80 C I h28 dX6_fewestTo_80 ?_
          obtain ⟨x29, h30, hf⟩ := ob hf
          refine kx_iald 81 C I h30 dX6_fewestTo_81 ?_
          refine kx_istore 82 C (lv' := [(4, .int (iI x29)), (0, .ref (xB G + p0)), (1, .int (iI i0)), (2, .int (iI i1)), (3, .int (iI i2))]) dX6_fewestTo_82 hl (by decide) rfl rfl (fun ls hl => ?_)
          refine kx_iload_n 84 C dX6_fewestTo_84 (lv_at hl 3 rfl) ?_
          refine kx_iload 85 C dX6_fewestTo_85 (lv_at hl 0 rfl) ?_
          refine kx_icmp_lt 87 93 C dX6_fewestTo_87 (by decide) (fun c31 => ?_) (fun c31 => ?_)
          · have hf := ifp c31 hf
            refine kx_aload_n 93 C dX6_fewestTo_93 (lv_at hl 1 rfl) ?_
            obtain ⟨x33, h32, hf⟩ := ob hf
            refine kx_geti 94 C I fl_X6_fewestTo_198 h32 dX6_fewestTo_94 ?_
            refine kx_iconst 97 C dX6_fewestTo_97 ?_
            refine kx_isub 98 C dX6_fewestTo_98 ?_
            obtain ⟨x34, e35, hf⟩ := nmx_e hf
            refine kx_istore 99 C (lv' := [(5, .int (iI x34)), (4, .int (iI x29)), (0, .ref (xB G + p0)), (1, .int (iI i0)), (2, .int (iI i1)), (3, .int (iI i2))]) dX6_fewestTo_99 hl (by decide) e35 rfl (fun ls hl => ?_)
            exact ih4 _ _ _ _ _ _ _ _ _ _ _ _ _ _ hf I (lv_sub hl [2, 3, 4, 1, 0] rfl)
          · have hf := ifn c31 hf
            refine kx_bipush 90 C dX6_fewestTo_90 (by decide) ?_
            exact kx_iret 92 C I hf dX6_fewestTo_92
        · have hf := ifp c22 hf
          exact ih3 _ _ _ _ _ _ _ _ _ _ _ _ _ _ hf I (lv_sub hl [0, 3] rfl)
    · intro S p0 p1 i0 i1 i2 i3 i4 i5 i6 i7 H locs ls hf I hl
      replace hf : b_X6_fewestTo_3 (g_X6_fewestTo fu) fu S p0 p1 i0 i1 i2 i3 i4 i5 i6 i7 = some (r, S') := hf
      unfold b_X6_fewestTo_3 at hf
      refine kx_iload_n 47 C dX6_fewestTo_47 (lv_at hl 1 rfl) ?_
      refine kx_aload_n 48 C dX6_fewestTo_48 (lv_at hl 0 rfl) ?_
      obtain ⟨x37, h36, hf⟩ := ob hf
      refine kx_geti 49 C I fl_X6_fewestTo_198 h36 dX6_fewestTo_49 ?_
      refine kx_icmp_ne 52 59 C dX6_fewestTo_52 (by decide) (fun c38 => ?_) (fun c38 => ?_)
      · have hf := ifn c38 hf
        refine kx_aload_n 59 C dX6_fewestTo_59 (lv_at hl 0 rfl) ?_
        obtain ⟨q40, h39, hf⟩ := ob hf
        refine kx_getp 60 C I fl_X6_fewestTo_39 h39 dX6_fewestTo_60 ?_
        refine kx_aload_n 63 C dX6_fewestTo_63 (lv_at hl 0 rfl) ?_
        obtain ⟨q42, h41, hf⟩ := ob hf
        refine kx_getp 64 C I fl_X6_fewestTo_42 h41 dX6_fewestTo_64 ?_
        refine kx_iload_n 67 C dX6_fewestTo_67 (lv_at hl 1 rfl) ?_
        obtain ⟨x43, h44, hf⟩ := ob hf
        refine kx_iald 68 C I h44 dX6_fewestTo_68 ?_
        obtain ⟨x45, h46, hf⟩ := ob hf
        refine kx_iald 69 C I h46 dX6_fewestTo_69 ?_
        exact kx_iret 70 C I hf dX6_fewestTo_70
      · have hf := ifp c38 hf
        refine kx_iconst 55 C dX6_fewestTo_55 ?_
        refine kx_goto 56 70 C dX6_fewestTo_56 (by decide) ?_
        exact kx_iret 70 C I hf dX6_fewestTo_70
    · intro S p0 p1 i0 i1 i2 i3 i4 i5 i6 i7 H locs ls hf I hl
      replace hf : b_X6_fewestTo_4 (g_X6_fewestTo fu) fu S p0 p1 i0 i1 i2 i3 i4 i5 i6 i7 = some (r, S') := hf
      unfold b_X6_fewestTo_4 at hf
      refine kx_iload 101 C dX6_fewestTo_101 (lv_at hl 4 rfl) ?_
      refine kx_if_lt 103 221 C dX6_fewestTo_103 (by decide) (fun c47 => ?_) (fun c47 => ?_)
      · have hf := ifp c47 hf
        refine kx_aload_n 221 C dX6_fewestTo_221 (lv_at hl 0 rfl) ?_
        obtain ⟨q49, h48, hf⟩ := ob hf
        refine kx_getp 222 C I fl_X6_fewestTo_42 h48 dX6_fewestTo_222 ?_
        refine kx_iconst 225 C dX6_fewestTo_225 ?_
        obtain ⟨x50, h51, hf⟩ := ob hf
        refine kx_iald 226 C I h51 dX6_fewestTo_226 ?_
        refine kx_istore 227 C (lv' := [(5, .int (iI x50)), (0, .ref (xB G + p0)), (1, .int (iI i0)), (2, .int (iI i1)), (4, .int (iI i2))]) dX6_fewestTo_227 hl (by decide) rfl rfl (fun ls hl => ?_)
        refine kx_iconst 229 C dX6_fewestTo_229 ?_
        refine kx_istore 230 C (lv' := [(6, .int (iI 0)), (5, .int (iI x50)), (0, .ref (xB G + p0)), (1, .int (iI i0)), (2, .int (iI i1)), (4, .int (iI i2))]) dX6_fewestTo_230 hl (by decide) rfl rfl (fun ls hl => ?_)
        exact ih11 _ _ _ _ _ _ _ _ _ _ _ _ _ _ hf I (lv_sub hl [2, 4, 1, 0] rfl)
      · have hf := ifn c47 hf
        refine kx_aload_n 106 C dX6_fewestTo_106 (lv_at hl 0 rfl) ?_
        obtain ⟨q53, h52, hf⟩ := ob hf
        refine kx_getp 107 C I fl_X6_fewestTo_42 h52 dX6_fewestTo_107 ?_
        refine kx_iload 110 C dX6_fewestTo_110 (lv_at hl 4 rfl) ?_
        obtain ⟨x54, h55, hf⟩ := ob hf
        refine kx_iald 112 C I h55 dX6_fewestTo_112 ?_
        refine kx_istore 113 C (lv' := [(6, .int (iI x54)), (0, .ref (xB G + p0)), (1, .int (iI i0)), (2, .int (iI i1)), (4, .int (iI i2)), (5, .int (iI i3))]) dX6_fewestTo_113 hl (by decide) rfl rfl (fun ls hl => ?_)
        refine kx_aload_n 115 C dX6_fewestTo_115 (lv_at hl 1 rfl) ?_
        obtain ⟨q57, h56, hf⟩ := ob hf
        refine kx_getp 116 C I fl_X6_fewestTo_45 h56 dX6_fewestTo_116 ?_
        refine kx_iload 119 C dX6_fewestTo_119 (lv_at hl 0 rfl) ?_
        refine kx_aload_n 121 C dX6_fewestTo_121 (lv_at hl 1 rfl) ?_
        obtain ⟨q59, h58, hf⟩ := ob hf
        refine kx_getp 122 C I fl_X6_fewestTo_39 h58 dX6_fewestTo_122 ?_
        refine kx_iload 125 C dX6_fewestTo_125 (lv_at hl 0 rfl) ?_
        obtain ⟨x60, h61, hf⟩ := ob hf
        refine kx_iald 127 C I h61 dX6_fewestTo_127 ?_
        refine kx_iload 128 C dX6_fewestTo_128 (lv_at hl 4 rfl) ?_
        refine kx_icmp_ne 130 147 C dX6_fewestTo_130 (by decide) (fun c62 => ?_) (fun c62 => ?_)
        · have hf := ifn c62 hf
          exact ih5 _ _ _ _ _ _ _ _ _ _ _ _ _ _ hf I (lv_sub hl [1, 2, 3, 4, 5, 0] rfl)
        · have hf := ifp c62 hf
          refine kx_aload_n 133 C dX6_fewestTo_133 (lv_at hl 1 rfl) ?_
          refine kx_iload 134 C dX6_fewestTo_134 (lv_at hl 0 rfl) ?_
          refine kx_iload_n 136 C dX6_fewestTo_136 (lv_at hl 2 rfl) ?_
          obtain ⟨h66, hf⟩ := ift hf
          obtain ⟨x65, S63, h64, hf⟩ := ob2 hf
          refine kx_callVi 137 C hl I (ci := 5) (As := [.int (iI x54), .int (iI i0)]) (rest := [.int (iI x54), .ref (xB G + q57)]) (c_X6_isSought G l fu _ _ _ _ _ _ h64) (cwV 2 C.ts gX6_fewestTo_X6_isSought rfl rfl rfl nyV_X6_isSought ⟨Nat.le_of_ble_eq_true rfl, Nat.le_of_ble_eq_true rfl⟩) rfl h66 rfl rfl (Nat.le_of_ble_eq_true rfl) dX6_fewestTo_137 ⟨Nat.le_of_ble_eq_true rfl, Nat.le_of_ble_eq_true rfl⟩ (fun H locs I => ?_)
          refine kx_if_eq 140 147 C dX6_fewestTo_140 (by decide) (fun c67 => ?_) (fun c67 => ?_)
          · have hf := ifp c67 hf
            exact ih5 _ _ _ _ _ _ _ _ _ _ _ _ _ _ hf I (lv_sub hl [1, 2, 3, 4, 5, 0] rfl)
          · have hf := ifn c67 hf
            refine kx_iconst 143 C dX6_fewestTo_143 ?_
            refine kx_goto 144 148 C dX6_fewestTo_144 (by decide) ?_
            exact ih6 _ _ _ _ _ _ _ _ _ _ _ _ _ _ hf I (lv_sub hl [1, 2, 3, 4, 5, 0] rfl)
    · intro S p0 p1 i0 i1 i2 i3 i4 i5 i6 i7 H locs ls hf I hl
      replace hf : b_X6_fewestTo_5 (g_X6_fewestTo fu) fu S p0 p1 i0 i1 i2 i3 i4 i5 i6 i7 = some (r, S') := hf
      unfold b_X6_fewestTo_5 at hf
      refine kx_iconst 147 C dX6_fewestTo_147 ?_
      exact ih6 _ _ _ _ _ _ _ _ _ _ _ _ _ _ hf I (lv_sub hl [0, 1, 2, 3, 4, 5] rfl)
    · intro S p0 p1 i0 i1 i2 i3 i4 i5 i6 i7 H locs ls hf I hl
      replace hf : b_X6_fewestTo_6 (g_X6_fewestTo fu) fu S p0 p1 i0 i1 i2 i3 i4 i5 i6 i7 = some (r, S') := hf
      unfold b_X6_fewestTo_6 at hf
      obtain ⟨h70, hf⟩ := ift hf
      obtain ⟨S69, h68, hf⟩ := ob hf
      refine kx_zast 148 C I h70 h68 dX6_fewestTo_148 (fun H locs I => ?_)
      refine kx_iconst 149 C dX6_fewestTo_149 ?_
      refine kx_istore 150 C (lv' := [(7, .int (iI 0)), (0, .ref (xB G + p0)), (1, .int (iI i0)), (2, .int (iI i1)), (4, .int (iI i2)), (5, .int (iI i3)), (6, .int (iI i4))]) dX6_fewestTo_150 hl (by decide) rfl rfl (fun ls hl => ?_)
      exact ih7 _ _ _ _ _ _ _ _ _ _ _ _ _ _ hf I (lv_sub hl [1, 2, 3, 4, 5, 6, 0] rfl)
    · intro S p0 p1 i0 i1 i2 i3 i4 i5 i6 i7 H locs ls hf I hl
      replace hf : b_X6_fewestTo_7 (g_X6_fewestTo fu) fu S p0 p1 i0 i1 i2 i3 i4 i5 i6 i7 = some (r, S') := hf
      unfold b_X6_fewestTo_7 at hf
      refine kx_iload 152 C dX6_fewestTo_152 (lv_at hl 6 rfl) ?_
      refine kx_aload_n 154 C dX6_fewestTo_154 (lv_at hl 0 rfl) ?_
      obtain ⟨q72, h71, hf⟩ := ob hf
      refine kx_getp 155 C I fl_X6_fewestTo_7 h71 dX6_fewestTo_155 ?_
      refine kx_bipush 158 C dX6_fewestTo_158 (by decide) ?_
      obtain ⟨x73, h74, hf⟩ := ob hf
      refine kx_iald 160 C I h74 dX6_fewestTo_160 ?_
      refine kx_icmp_ge 161 215 C dX6_fewestTo_161 (by decide) (fun c75 => ?_) (fun c75 => ?_)
      · have hf := ifp c75 hf
        exact ih10 _ _ _ _ _ _ _ _ _ _ _ _ _ _ hf I (lv_sub hl [0, 1, 2, 3, 4] rfl)
      · have hf := ifn c75 hf
        refine kx_aload_n 164 C dX6_fewestTo_164 (lv_at hl 0 rfl) ?_
        obtain ⟨q77, h76, hf⟩ := ob hf
        refine kx_getp 165 C I fl_X6_fewestTo_39 h76 dX6_fewestTo_165 ?_
        refine kx_iload 168 C dX6_fewestTo_168 (lv_at hl 5 rfl) ?_
        obtain ⟨x78, h79, hf⟩ := ob hf
        refine kx_iald 170 C I h79 dX6_fewestTo_170 ?_
        refine kx_iload 171 C dX6_fewestTo_171 (lv_at hl 3 rfl) ?_
        refine kx_icmp_ge 173 215 C dX6_fewestTo_173 (by decide) (fun c80 => ?_) (fun c80 => ?_)
        · have hf := ifp c80 hf
          exact ih10 _ _ _ _ _ _ _ _ _ _ _ _ _ _ hf I (lv_sub hl [0, 1, 2, 3, 4] rfl)
        · have hf := ifn c80 hf
          refine kx_aload_n 176 C dX6_fewestTo_176 (lv_at hl 0 rfl) ?_
          obtain ⟨q82, h81, hf⟩ := ob hf
          refine kx_getp 177 C I fl_X6_fewestTo_45 h81 dX6_fewestTo_177 ?_
          refine kx_iload 180 C dX6_fewestTo_180 (lv_at hl 5 rfl) ?_
          refine kx_aload_n 182 C dX6_fewestTo_182 (lv_at hl 0 rfl) ?_
          obtain ⟨q84, h83, hf⟩ := ob hf
          refine kx_getp 183 C I fl_X6_fewestTo_45 h83 dX6_fewestTo_183 ?_
          refine kx_iload 186 C dX6_fewestTo_186 (lv_at hl 5 rfl) ?_
          obtain ⟨x85, h86, hf⟩ := ob hf
          refine kx_zald 188 C I h86 dX6_fewestTo_188 ?_
          refine kx_if_ne 189 203 C dX6_fewestTo_189 (by decide) (fun c87 => ?_) (fun c87 => ?_)
          · have hf := ifn c87 hf
            exact ih8 _ _ _ _ _ _ _ _ _ _ _ _ _ _ hf I (lv_sub hl [0, 1, 2, 3, 4, 5, 6] rfl)
          · have hf := ifp c87 hf
            refine kx_aload_n 192 C dX6_fewestTo_192 (lv_at hl 0 rfl) ?_
            refine kx_iload 193 C dX6_fewestTo_193 (lv_at hl 5 rfl) ?_
            refine kx_iload 195 C dX6_fewestTo_195 (lv_at hl 6 rfl) ?_
            obtain ⟨h91, hf⟩ := ift hf
            obtain ⟨x90, S88, h89, hf⟩ := ob2 hf
            refine kx_callVi 197 C hl I (ci := 5) (As := [.int (iI i4), .int (iI i5)]) (rest := [.int (iI i4), .ref (xB G + q82)]) (c_X6_leadsOn G l fu _ _ _ _ _ _ h89) (cwV 2 C.ts gX6_fewestTo_X6_leadsOn rfl rfl rfl nyV_X6_leadsOn ⟨Nat.le_of_ble_eq_true rfl, Nat.le_of_ble_eq_true rfl⟩) rfl h91 rfl rfl (Nat.le_of_ble_eq_true rfl) dX6_fewestTo_197 ⟨Nat.le_of_ble_eq_true rfl, Nat.le_of_ble_eq_true rfl⟩ (fun H locs I => ?_)
            refine kx_if_eq 200 207 C dX6_fewestTo_200 (by decide) (fun c92 => ?_) (fun c92 => ?_)
            · have hf := ifp c92 hf
              refine kx_iconst 207 C dX6_fewestTo_207 ?_
              exact ih9 _ _ _ _ _ _ _ _ _ _ _ _ _ _ hf I (lv_sub hl [0, 1, 2, 3, 4, 5, 6] rfl)
            · have hf := ifn c92 hf
              exact ih8 _ _ _ _ _ _ _ _ _ _ _ _ _ _ hf I (lv_sub hl [0, 1, 2, 3, 4, 5, 6] rfl)
    · intro S p0 p1 i0 i1 i2 i3 i4 i5 i6 i7 H locs ls hf I hl
      replace hf : b_X6_fewestTo_8 (g_X6_fewestTo fu) fu S p0 p1 i0 i1 i2 i3 i4 i5 i6 i7 = some (r, S') := hf
      unfold b_X6_fewestTo_8 at hf
      refine kx_iconst 203 C dX6_fewestTo_203 ?_
      refine kx_goto 204 208 C dX6_fewestTo_204 (by decide) ?_
      exact ih9 _ _ _ _ _ _ _ _ _ _ _ _ _ _ hf I (lv_sub hl [0, 1, 2, 3, 4, 5, 6] rfl)
    · intro S p0 p1 i0 i1 i2 i3 i4 i5 i6 i7 H locs ls hf I hl
      replace hf : b_X6_fewestTo_9 (g_X6_fewestTo fu) fu S p0 p1 i0 i1 i2 i3 i4 i5 i6 i7 = some (r, S') := hf
      unfold b_X6_fewestTo_9 at hf
      obtain ⟨h95, hf⟩ := ift hf
      obtain ⟨S94, h93, hf⟩ := ob hf
      refine kx_zast 208 C I h95 h93 dX6_fewestTo_208 (fun H locs I => ?_)
      obtain ⟨x96, e97, hf⟩ := nmx_e hf
      refine kx_iinc 209 C (lv' := [(7, .int (iI x96)), (0, .ref (xB G + p0)), (1, .int (iI i0)), (2, .int (iI i1)), (4, .int (iI i2)), (5, .int (iI i3)), (6, .int (iI i4))]) dX6_fewestTo_209 hl 6 rfl e97 (by decide) rfl (fun ls hl => ?_)
      refine kx_goto 212 152 C dX6_fewestTo_212 (by decide) ?_
      exact ih7 _ _ _ _ _ _ _ _ _ _ _ _ _ _ hf I (lv_sub hl [1, 2, 3, 4, 5, 6, 0] rfl)
    · intro S p0 p1 i0 i1 i2 i3 i4 i5 i6 i7 H locs ls hf I hl
      replace hf : b_X6_fewestTo_10 (g_X6_fewestTo fu) fu S p0 p1 i0 i1 i2 i3 i4 i5 i6 i7 = some (r, S') := hf
      unfold b_X6_fewestTo_10 at hf
      obtain ⟨x98, e99, hf⟩ := nmx_e hf
      refine kx_iinc 215 C (lv' := [(5, .int (iI x98)), (0, .ref (xB G + p0)), (1, .int (iI i0)), (2, .int (iI i1)), (4, .int (iI i2))]) dX6_fewestTo_215 hl 4 rfl e99 (by decide) rfl (fun ls hl => ?_)
      refine kx_goto 218 101 C dX6_fewestTo_218 (by decide) ?_
      exact ih4 _ _ _ _ _ _ _ _ _ _ _ _ _ _ hf I (lv_sub hl [1, 2, 3, 4, 0] rfl)
    · intro S p0 p1 i0 i1 i2 i3 i4 i5 i6 i7 H locs ls hf I hl
      replace hf : b_X6_fewestTo_11 (g_X6_fewestTo fu) fu S p0 p1 i0 i1 i2 i3 i4 i5 i6 i7 = some (r, S') := hf
      unfold b_X6_fewestTo_11 at hf
      refine kx_iload 232 C dX6_fewestTo_232 (lv_at hl 3 rfl) ?_
      refine kx_iload_n 234 C dX6_fewestTo_234 (lv_at hl 1 rfl) ?_
      refine kx_icmp_gt 235 287 C dX6_fewestTo_235 (by decide) (fun c100 => ?_) (fun c100 => ?_)
      · have hf := ifp c100 hf
        refine kx_aload_n 287 C dX6_fewestTo_287 (lv_at hl 0 rfl) ?_
        obtain ⟨x102, h101, hf⟩ := ob hf
        refine kx_geti 288 C I fl_X6_fewestTo_216 h101 dX6_fewestTo_288 ?_
        exact kx_iret 291 C I hf dX6_fewestTo_291
      · have hf := ifn c100 hf
        refine kx_aload_n 238 C dX6_fewestTo_238 (lv_at hl 0 rfl) ?_
        refine kx_iconst 239 C dX6_fewestTo_239 ?_
        obtain ⟨S104, h103, hf⟩ := ob hf
        refine kx_puti 240 C I fl_X6_fewestTo_216 fw_RX6_11 h103 dX6_fewestTo_240 (fun H locs I => ?_)
        exact ih12 _ _ _ _ _ _ _ _ _ _ _ _ _ _ hf I (lv_sub hl [0, 1, 2, 3] rfl)
    · intro S p0 p1 i0 i1 i2 i3 i4 i5 i6 i7 H locs ls hf I hl
      replace hf : b_X6_fewestTo_12 (g_X6_fewestTo fu) fu S p0 p1 i0 i1 i2 i3 i4 i5 i6 i7 = some (r, S') := hf
      unfold b_X6_fewestTo_12 at hf
      refine kx_aload_n 243 C dX6_fewestTo_243 (lv_at hl 0 rfl) ?_
      refine kx_iload 244 C dX6_fewestTo_244 (lv_at hl 2 rfl) ?_
      refine kx_aload_n 246 C dX6_fewestTo_246 (lv_at hl 0 rfl) ?_
      obtain ⟨x106, h105, hf⟩ := ob hf
      refine kx_geti 247 C I fl_X6_fewestTo_216 h105 dX6_fewestTo_247 ?_
      obtain ⟨h110, hf⟩ := ift hf
      obtain ⟨x109, S107, h108, hf⟩ := ob2 hf
      refine kx_callVi 250 C hl I (ci := 5) (As := [.int (iI i1), .int (iI x106)]) (rest := []) (c_X6_leadsOn G l fu _ _ _ _ _ _ h108) (cwV 2 C.ts gX6_fewestTo_X6_leadsOn rfl rfl rfl nyV_X6_leadsOn ⟨Nat.le_of_ble_eq_true rfl, Nat.le_of_ble_eq_true rfl⟩) rfl h110 rfl rfl (Nat.le_of_ble_eq_true rfl) dX6_fewestTo_250 ⟨Nat.le_of_ble_eq_true rfl, Nat.le_of_ble_eq_true rfl⟩ (fun H locs I => ?_)
      refine kx_if_ne 253 269 C dX6_fewestTo_253 (by decide) (fun c111 => ?_) (fun c111 => ?_)
      · have hf := ifn c111 hf
        refine kx_aload_n 269 C dX6_fewestTo_269 (lv_at hl 0 rfl) ?_
        refine kx_iload 270 C dX6_fewestTo_270 (lv_at hl 2 rfl) ?_
        refine kx_aload_n 272 C dX6_fewestTo_272 (lv_at hl 0 rfl) ?_
        obtain ⟨x113, h112, hf⟩ := ob hf
        refine kx_geti 273 C I fl_X6_fewestTo_216 h112 dX6_fewestTo_273 ?_
        obtain ⟨h117, hf⟩ := ift hf
        obtain ⟨x116, S114, h115, hf⟩ := ob2 hf
        refine kx_callVi 276 C hl I (ci := 5) (As := [.int (iI i1), .int (iI x113)]) (rest := []) (c_X6_behind G l fu _ _ _ _ _ _ h115) (cwV 2 C.ts gX6_fewestTo_X6_behind rfl rfl rfl nyV_X6_behind ⟨Nat.le_of_ble_eq_true rfl, Nat.le_of_ble_eq_true rfl⟩) rfl h117 rfl rfl (Nat.le_of_ble_eq_true rfl) dX6_fewestTo_276 ⟨Nat.le_of_ble_eq_true rfl, Nat.le_of_ble_eq_true rfl⟩ (fun H locs I => ?_)
        refine kx_istore 279 C (lv' := [(5, .int (iI x116)), (0, .ref (xB G + p0)), (2, .int (iI i0)), (6, .int (iI i2))]) dX6_fewestTo_279 hl (by decide) rfl rfl (fun ls hl => ?_)
        obtain ⟨x118, e119, hf⟩ := nmx_e hf
        refine kx_iinc 281 C (lv' := [(6, .int (iI x118)), (5, .int (iI x116)), (0, .ref (xB G + p0)), (2, .int (iI i0))]) dX6_fewestTo_281 hl 3 rfl e119 (by decide) rfl (fun ls hl => ?_)
        refine kx_goto 284 232 C dX6_fewestTo_284 (by decide) ?_
        exact ih11 _ _ _ _ _ _ _ _ _ _ _ _ _ _ hf I (lv_sub hl [2, 3, 1, 0] rfl)
      · have hf := ifp c111 hf
        refine kx_aload_n 256 C dX6_fewestTo_256 (lv_at hl 0 rfl) ?_
        refine kx_dup 257 C dX6_fewestTo_257 rfl ?_
        obtain ⟨x121, h120, hf⟩ := ob hf
        refine kx_geti 258 C I fl_X6_fewestTo_216 h120 dX6_fewestTo_258 ?_
        refine kx_iconst 261 C dX6_fewestTo_261 ?_
        refine kx_iadd 262 C dX6_fewestTo_262 ?_
        obtain ⟨S123, h122, hf⟩ := ob hf
        refine kx_puti 263 C I fl_X6_fewestTo_216 fw_RX6_11 h122 dX6_fewestTo_263 (fun H locs I => ?_)
        refine kx_goto 266 243 C dX6_fewestTo_266 (by decide) ?_
        exact ih12 _ _ _ _ _ _ _ _ _ _ _ _ _ _ hf I (lv_sub hl [0, 1, 2, 3] rfl)
set_option maxHeartbeats 4000000 in
set_option maxRecDepth 100000 in
theorem c_X6_fewestTo (G : xG) (l : Launch) (fu : Nat) (S S' : xS) (p0 : Nat) (i0 : Int) (i1 : Int) (r : Int) (hf : f_X6_fewestTo fu S p0 i0 i1 = some (r, S')) : Met l yX6_fewestTo vsX6_fewestTo rm_X6_fewestTo (va_Pc [.ref (xB G + p0), .int (iI i0), .int (iI i1)] (xPre G S)) (xQi G r S') 0 0 (xA G) := by
  refine kx_met (ret := (some .int)) RX6 [(0, .ref (xB G + p0)), (1, .int (iI i0)), (2, .int (iI i1))] (by decide) rfl rfl (Nat.le_of_ble_eq_true rfl) rfl (fun p e s m below meth c ls C hin I hl => ?_)
  exact (w_X6_fewestTo C r S' fu).1 S _ _ _ _ _ _ _ _ _ _ _ _ _ hf I hl
def rm_X6_fewest : Room := { frames := 7, cells := 0, slots := 0, locals := 162 }
theorem nyS_X6_fewest : yX6_fewest.cls ≠ "java/lang/invoke/MethodHandle" ∧ yX6_fewest.cls ≠ "java/lang/invoke/VarHandle" ∧ (parseMethodDescriptor yX6_fewest.desc).map (fun d => d.parameters.length) = some 2 := by decide +kernel
theorem nyV_X6_fewest : yX6_fewest.cls = RX6 ∧ yX6_fewest.cls ≠ "java/lang/invoke/MethodHandle" ∧ yX6_fewest.cls ≠ "java/lang/invoke/VarHandle" ∧ (parseMethodDescriptor yX6_fewest.desc).map (fun d => d.parameters.length) = some 2 := by decide +kernel
set_option maxHeartbeats 4000000 in
set_option maxRecDepth 100000 in
theorem w_X6_fewest {G : xG} {p : Program} {l : Launch} {e : Env} {s : State} {m : MethodId} {args : Array Value} {below : List Frame} {meth : Method} {c : Code} (C : xK G p s m args meth c cX6_fewest 3 vsX6_fewest RX6 (some .int)) (r : Int) (S' : xS) : ∀ k : Nat,
  (∀ (S : xS) (p0 : Nat) (i0 i1 : Int) (H : Heap) (locs : List Loc) (ls : Array Slot), g_X6_fewest k 0 S p0 i0 i1 = some (r, S') → xI G S s H locs → lv_has ls 3 [(0, .ref (xB G + p0)), (1, .int (iI i0)), (2, .int (iI i1))] → W p l e rm_X6_fewest s m args below meth c H locs 0 0 (MQ below (xQi G r S') args s 0 0 (xA G)) (F0 m 0 ls [])) ∧
  (∀ (S : xS) (p0 : Nat) (i0 i1 : Int) (H : Heap) (locs : List Loc) (ls : Array Slot), g_X6_fewest k 1 S p0 i0 i1 = some (r, S') → xI G S s H locs → lv_has ls 3 [(0, .ref (xB G + p0))] → W p l e rm_X6_fewest s m args below meth c H locs 0 0 (MQ below (xQi G r S') args s 0 0 (xA G)) (F0 m 22 ls [])) := by
  intro k
  induction k with
  | zero => exact ⟨fun _ _ _ _ _ _ _ hf => (by cases hf), fun _ _ _ _ _ _ _ hf => (by cases hf)⟩
  | succ fu ih =>
    obtain ⟨ih0, ih1⟩ := ih
    refine ⟨?_, ?_⟩
    · intro S p0 i0 i1 H locs ls hf I hl
      replace hf : b_X6_fewest_0 (g_X6_fewest fu) fu S p0 i0 i1 = some (r, S') := hf
      unfold b_X6_fewest_0 at hf
      refine kx_aload_n 0 C dX6_fewest_0 (lv_at hl 0 rfl) ?_
      refine kx_iload_n 1 C dX6_fewest_1 (lv_at hl 1 rfl) ?_
      obtain ⟨h4, hf⟩ := ift hf
      obtain ⟨x3, S1, h2, hf⟩ := ob2 hf
      refine kx_callVi 2 C hl I (ci := 5) (As := [.int (iI i0)]) (rest := []) (c_X6_isRank G l fu _ _ _ _ _ h2) (cwV 1 C.ts gX6_fewest_X6_isRank rfl rfl rfl nyV_X6_isRank ⟨Nat.le_of_ble_eq_true rfl, Nat.le_of_ble_eq_true rfl⟩) rfl h4 rfl rfl (Nat.le_of_ble_eq_true rfl) dX6_fewest_2 ⟨Nat.le_of_ble_eq_true rfl, Nat.le_of_ble_eq_true rfl⟩ (fun H locs I => ?_)
      refine kx_if_eq 5 22 C dX6_fewest_5 (by decide) (fun c5 => ?_) (fun c5 => ?_)
      · have hf := ifp c5 hf
        exact ih1 _ _ _ _ _ _ _ hf I (lv_sub hl [0] rfl)
      · have hf := ifn c5 hf
        refine kx_iload_n 8 C dX6_fewest_8 (lv_at hl 2 rfl) ?_
        refine kx_iconst 9 C dX6_fewest_9 ?_
        refine kx_icmp_lt 10 22 C dX6_fewest_10 (by decide) (fun c6 => ?_) (fun c6 => ?_)
        · have hf := ifp c6 hf
          exact ih1 _ _ _ _ _ _ _ hf I (lv_sub hl [0] rfl)
        · have hf := ifn c6 hf
          refine kx_aload_n 13 C dX6_fewest_13 (lv_at hl 0 rfl) ?_
          refine kx_iload_n 14 C dX6_fewest_14 (lv_at hl 1 rfl) ?_
          refine kx_iload_n 15 C dX6_fewest_15 (lv_at hl 2 rfl) ?_
          obtain ⟨h10, hf⟩ := ift hf
          obtain ⟨x9, S7, h8, hf⟩ := ob2 hf
          refine kx_callVi 16 C hl I (ci := 5) (As := [.int (iI i0), .int (iI i1)]) (rest := []) (c_X6_fewestTo G l fu _ _ _ _ _ _ h8) (cwV 2 C.ts gX6_fewest_X6_fewestTo rfl rfl rfl nyV_X6_fewestTo ⟨Nat.le_of_ble_eq_true rfl, Nat.le_of_ble_eq_true rfl⟩) rfl h10 rfl rfl (Nat.le_of_ble_eq_true rfl) dX6_fewest_16 ⟨Nat.le_of_ble_eq_true rfl, Nat.le_of_ble_eq_true rfl⟩ (fun H locs I => ?_)
          refine kx_goto 19 28 C dX6_fewest_19 (by decide) ?_
          exact kx_iret 28 C I hf dX6_fewest_28
    · intro S p0 i0 i1 H locs ls hf I hl
      replace hf : b_X6_fewest_1 (g_X6_fewest fu) fu S p0 i0 i1 = some (r, S') := hf
      unfold b_X6_fewest_1 at hf
      refine kx_aload_n 22 C dX6_fewest_22 (lv_at hl 0 rfl) ?_
      refine kx_bipush 23 C dX6_fewest_23 (by decide) ?_
      obtain ⟨h14, hf⟩ := ift hf
      obtain ⟨x13, S11, h12, hf⟩ := ob2 hf
      refine kx_callVi 25 C hl I (ci := 5) (As := [.int (iI ((-10)))]) (rest := []) (c_X6_bad G l fu _ _ _ _ _ h12) (cwV 1 C.ts gX6_fewest_X6_bad rfl rfl rfl nyV_X6_bad ⟨Nat.le_of_ble_eq_true rfl, Nat.le_of_ble_eq_true rfl⟩) rfl h14 rfl rfl (Nat.le_of_ble_eq_true rfl) dX6_fewest_25 ⟨Nat.le_of_ble_eq_true rfl, Nat.le_of_ble_eq_true rfl⟩ (fun H locs I => ?_)
      exact kx_iret 28 C I hf dX6_fewest_28
set_option maxHeartbeats 4000000 in
set_option maxRecDepth 100000 in
theorem c_X6_fewest (G : xG) (l : Launch) (fu : Nat) (S S' : xS) (p0 : Nat) (i0 : Int) (i1 : Int) (r : Int) (hf : f_X6_fewest fu S p0 i0 i1 = some (r, S')) : Met l yX6_fewest vsX6_fewest rm_X6_fewest (va_Pc [.ref (xB G + p0), .int (iI i0), .int (iI i1)] (xPre G S)) (xQi G r S') 0 0 (xA G) := by
  refine kx_met (ret := (some .int)) RX6 [(0, .ref (xB G + p0)), (1, .int (iI i0)), (2, .int (iI i1))] (by decide) rfl rfl (Nat.le_of_ble_eq_true rfl) rfl (fun p e s m below meth c ls C hin I hl => ?_)
  exact (w_X6_fewest C r S' fu).1 S _ _ _ _ _ _ hf I hl
def rm_X6_till : Room := { frames := 7, cells := 0, slots := 0, locals := 162 }
theorem nyS_X6_till : yX6_till.cls ≠ "java/lang/invoke/MethodHandle" ∧ yX6_till.cls ≠ "java/lang/invoke/VarHandle" ∧ (parseMethodDescriptor yX6_till.desc).map (fun d => d.parameters.length) = some 1 := by decide +kernel
theorem nyV_X6_till : yX6_till.cls = RX6 ∧ yX6_till.cls ≠ "java/lang/invoke/MethodHandle" ∧ yX6_till.cls ≠ "java/lang/invoke/VarHandle" ∧ (parseMethodDescriptor yX6_till.desc).map (fun d => d.parameters.length) = some 1 := by decide +kernel
set_option maxHeartbeats 4000000 in
set_option maxRecDepth 100000 in
theorem c_X6_till (G : xG) (l : Launch) (fu : Nat) (S S' : xS) (p0 : Nat) (i0 : Int) (r : Int) (hf : f_X6_till fu S p0 i0 = some (r, S')) : Met l yX6_till vsX6_till rm_X6_till (va_Pc [.ref (xB G + p0), .int (iI i0)] (xPre G S)) (xQi G r S') 0 0 (xA G) := by
  refine kx_met (ret := (some .int)) RX6 [(0, .ref (xB G + p0)), (1, .int (iI i0))] (by decide) rfl rfl (Nat.le_of_ble_eq_true rfl) rfl (fun p e s m below meth c ls C hin I hl => ?_)
  unfold f_X6_till at hf
  refine kx_iload_n 0 C dX6_till_0 (lv_at hl 1 rfl) ?_
  refine kx_iconst 1 C dX6_till_1 ?_
  refine kx_icmp_lt 2 14 C dX6_till_2 (by decide) (fun c1 => ?_) (fun c1 => ?_)
  · have hf := ifp c1 hf
    refine kx_aload_n 14 C dX6_till_14 (lv_at hl 0 rfl) ?_
    refine kx_bipush 15 C dX6_till_15 (by decide) ?_
    obtain ⟨h5, hf⟩ := ift hf
    obtain ⟨x4, S2, h3, hf⟩ := ob2 hf
    refine kx_callVi 17 C hl I (ci := 5) (As := [.int (iI ((-10)))]) (rest := []) (c_X6_bad G l fu _ _ _ _ _ h3) (cwV 1 C.ts gX6_till_X6_bad rfl rfl rfl nyV_X6_bad ⟨Nat.le_of_ble_eq_true rfl, Nat.le_of_ble_eq_true rfl⟩) rfl h5 rfl rfl (Nat.le_of_ble_eq_true rfl) dX6_till_17 ⟨Nat.le_of_ble_eq_true rfl, Nat.le_of_ble_eq_true rfl⟩ (fun H locs I => ?_)
    exact kx_iret 20 C I hf dX6_till_20
  · have hf := ifn c1 hf
    refine kx_aload_n 5 C dX6_till_5 (lv_at hl 0 rfl) ?_
    refine kx_iconst 6 C dX6_till_6 ?_
    refine kx_iload_n 7 C dX6_till_7 (lv_at hl 1 rfl) ?_
    obtain ⟨h9, hf⟩ := ift hf
    obtain ⟨x8, S6, h7, hf⟩ := ob2 hf
    refine kx_callVi 8 C hl I (ci := 5) (As := [.int (iI ((-1))), .int (iI i0)]) (rest := []) (c_X6_fewestTo G l fu _ _ _ _ _ _ h7) (cwV 2 C.ts gX6_till_X6_fewestTo rfl rfl rfl nyV_X6_fewestTo ⟨Nat.le_of_ble_eq_true rfl, Nat.le_of_ble_eq_true rfl⟩) rfl h9 rfl rfl (Nat.le_of_ble_eq_true rfl) dX6_till_8 ⟨Nat.le_of_ble_eq_true rfl, Nat.le_of_ble_eq_true rfl⟩ (fun H locs I => ?_)
    refine kx_goto 11 20 C dX6_till_11 (by decide) ?_
    exact kx_iret 20 C I hf dX6_till_20
def rm_X6_isSo : Room := { frames := 4, cells := 0, slots := 0, locals := 91 }
theorem hin_X6_isSo_RX6 : ∀ w ∈ wsX60, w ∈ vsX6_isSo := fun w h => inM (inlX6 w h)
theorem fl_X6_isSo_7 : xFl vsX6_isSo RX6 7 5 0 := ⟨RX6, TX6, 30, rfl, by decide, hin_X6_isSo_RX6, inM mq_4_16, rfl⟩
theorem fl_X6_isSo_27 : xFl vsX6_isSo RX6 27 5 6 := ⟨RX6, TX6, 30, rfl, by decide, hin_X6_isSo_RX6, inM mq_4_22, rfl⟩
theorem fl_X6_isSo_151 : xFl vsX6_isSo RX6 151 5 9 := ⟨RX6, TX6, 30, rfl, by decide, hin_X6_isSo_RX6, inM mq_26_14, rfl⟩
theorem fl_X6_isSo_154 : xFl vsX6_isSo RX6 154 5 10 := ⟨RX6, TX6, 30, rfl, by decide, hin_X6_isSo_RX6, inM mq_26_19, rfl⟩
theorem nyS_X6_isSo : yX6_isSo.cls ≠ "java/lang/invoke/MethodHandle" ∧ yX6_isSo.cls ≠ "java/lang/invoke/VarHandle" ∧ (parseMethodDescriptor yX6_isSo.desc).map (fun d => d.parameters.length) = some 0 := by decide +kernel
theorem nyV_X6_isSo : yX6_isSo.cls = RX6 ∧ yX6_isSo.cls ≠ "java/lang/invoke/MethodHandle" ∧ yX6_isSo.cls ≠ "java/lang/invoke/VarHandle" ∧ (parseMethodDescriptor yX6_isSo.desc).map (fun d => d.parameters.length) = some 0 := by decide +kernel
set_option maxHeartbeats 4000000 in
set_option maxRecDepth 100000 in
theorem w_X6_isSo {G : xG} {p : Program} {l : Launch} {e : Env} {s : State} {m : MethodId} {args : Array Value} {below : List Frame} {meth : Method} {c : Code} (C : xK G p s m args meth c cX6_isSo 3 vsX6_isSo RX6 (some .boolean)) (r : Int) (S' : xS) : ∀ k : Nat,
  (∀ (S : xS) (p0 : Nat) (i0 i1 : Int) (H : Heap) (locs : List Loc) (ls : Array Slot), g_X6_isSo k 0 S p0 i0 i1 = some (r, S') → xI G S s H locs → lv_has ls 3 [(0, .ref (xB G + p0))] → W p l e rm_X6_isSo s m args below meth c H locs 0 0 (MQ below (xQi G r S') args s 0 0 (xA G)) (F0 m 0 ls [])) ∧
  (∀ (S : xS) (p0 : Nat) (i0 i1 : Int) (H : Heap) (locs : List Loc) (ls : Array Slot), g_X6_isSo k 1 S p0 i0 i1 = some (r, S') → xI G S s H locs → lv_has ls 3 [(0, .ref (xB G + p0)), (1, .int (iI i0)), (2, .int (iI i1))] → W p l e rm_X6_isSo s m args below meth c H locs 0 0 (MQ below (xQi G r S') args s 0 0 (xA G)) (F0 m 4 ls [])) ∧
  (∀ (S : xS) (p0 : Nat) (i0 i1 : Int) (H : Heap) (locs : List Loc) (ls : Array Slot), g_X6_isSo k 2 S p0 i0 i1 = some (r, S') → xI G S s H locs → lv_has ls 3 [(0, .ref (xB G + p0)), (2, .int (iI i0))] → W p l e rm_X6_isSo s m args below meth c H locs 0 0 (MQ below (xQi G r S') args s 0 0 (xA G)) (F0 m 47 ls [])) ∧
  (∀ (S : xS) (p0 : Nat) (i0 i1 : Int) (H : Heap) (locs : List Loc) (ls : Array Slot), g_X6_isSo k 3 S p0 i0 i1 = some (r, S') → xI G S s H locs → lv_has ls 3 [(0, .ref (xB G + p0)), (2, .int (iI i0))] → W p l e rm_X6_isSo s m args below meth c H locs 0 0 (MQ below (xQi G r S') args s 0 0 (xA G)) (F0 m 51 ls [])) ∧
  (∀ (S : xS) (p0 : Nat) (i0 i1 : Int) (H : Heap) (locs : List Loc) (ls : Array Slot), g_X6_isSo k 4 S p0 i0 i1 = some (r, S') → xI G S s H locs → lv_has ls 3 [(0, .ref (xB G + p0)), (2, .int (iI i0))] → W p l e rm_X6_isSo s m args below meth c H locs 0 0 (MQ below (xQi G r S') args s 0 0 (xA G)) (F0 m 52 ls [.int (iI i1)])) ∧
  (∀ (S : xS) (p0 : Nat) (i0 i1 : Int) (H : Heap) (locs : List Loc) (ls : Array Slot), g_X6_isSo k 5 S p0 i0 i1 = some (r, S') → xI G S s H locs → lv_has ls 3 [(0, .ref (xB G + p0)), (1, .int (iI i0)), (2, .int (iI i1))] → W p l e rm_X6_isSo s m args below meth c H locs 0 0 (MQ below (xQi G r S') args s 0 0 (xA G)) (F0 m 61 ls [])) ∧
  (∀ (S : xS) (p0 : Nat) (i0 i1 : Int) (H : Heap) (locs : List Loc) (ls : Array Slot), g_X6_isSo k 6 S p0 i0 i1 = some (r, S') → xI G S s H locs → lv_has ls 3 [(0, .ref (xB G + p0)), (2, .int (iI i0))] → W p l e rm_X6_isSo s m args below meth c H locs 0 0 (MQ below (xQi G r S') args s 0 0 (xA G)) (F0 m 106 ls [.int (iI i1)])) ∧
  (∀ (S : xS) (p0 : Nat) (i0 i1 : Int) (H : Heap) (locs : List Loc) (ls : Array Slot), g_X6_isSo k 7 S p0 i0 i1 = some (r, S') → xI G S s H locs → lv_has ls 3 [(0, .ref (xB G + p0)), (2, .int (iI i0))] → W p l e rm_X6_isSo s m args below meth c H locs 0 0 (MQ below (xQi G r S') args s 0 0 (xA G)) (F0 m 127 ls [.int (iI i1)])) := by
  intro k
  induction k with
  | zero => exact ⟨fun _ _ _ _ _ _ _ hf => (by cases hf), fun _ _ _ _ _ _ _ hf => (by cases hf), fun _ _ _ _ _ _ _ hf => (by cases hf), fun _ _ _ _ _ _ _ hf => (by cases hf), fun _ _ _ _ _ _ _ hf => (by cases hf), fun _ _ _ _ _ _ _ hf => (by cases hf), fun _ _ _ _ _ _ _ hf => (by cases hf), fun _ _ _ _ _ _ _ hf => (by cases hf)⟩
  | succ fu ih =>
    obtain ⟨ih0, ih1, ih2, ih3, ih4, ih5, ih6, ih7⟩ := ih
    refine ⟨?_, ?_, ?_, ?_, ?_, ?_, ?_, ?_⟩
    · intro S p0 i0 i1 H locs ls hf I hl
      replace hf : b_X6_isSo_0 (g_X6_isSo fu) fu S p0 i0 i1 = some (r, S') := hf
      unfold b_X6_isSo_0 at hf
      refine kx_iconst 0 C dX6_isSo_0 ?_
      refine kx_istore_n 1 C (lv' := [(1, .int (iI 1)), (0, .ref (xB G + p0))]) dX6_isSo_1 hl (by decide) rfl rfl (fun ls hl => ?_)
      refine kx_iconst 2 C dX6_isSo_2 ?_
      refine kx_istore_n 3 C (lv' := [(2, .int (iI 0)), (1, .int (iI 1)), (0, .ref (xB G + p0))]) dX6_isSo_3 hl (by decide) rfl rfl (fun ls hl => ?_)
      exact ih1 _ _ _ _ _ _ _ hf I (lv_sub hl [2, 1, 0] rfl)
    · intro S p0 i0 i1 H locs ls hf I hl
      replace hf : b_X6_isSo_1 (g_X6_isSo fu) fu S p0 i0 i1 = some (r, S') := hf
      unfold b_X6_isSo_1 at hf
      refine kx_iload_n 4 C dX6_isSo_4 (lv_at hl 2 rfl) ?_
      refine kx_aload_n 5 C dX6_isSo_5 (lv_at hl 0 rfl) ?_
      obtain ⟨h4, hf⟩ := ift hf
      obtain ⟨x3, S1, h2, hf⟩ := ob2 hf
      refine kx_callVi 6 C hl I (ci := 5) (As := []) (rest := [.int (iI i1)]) (c_X6_n G l fu _ _ _ _ h2) (cwV 0 C.ts gX6_isSo_X6_n rfl rfl rfl nyV_X6_n ⟨Nat.le_of_ble_eq_true rfl, Nat.le_of_ble_eq_true rfl⟩) rfl h4 rfl rfl (Nat.le_of_ble_eq_true rfl) dX6_isSo_6 ⟨Nat.le_of_ble_eq_true rfl, Nat.le_of_ble_eq_true rfl⟩ (fun H locs I => ?_)
      refine kx_icmp_ge 9 59 C dX6_isSo_9 (by decide) (fun c5 => ?_) (fun c5 => ?_)
      · have hf := ifp c5 hf
        refine kx_iconst 59 C dX6_isSo_59 ?_
        refine kx_istore_n 60 C (lv' := [(2, .int (iI 0)), (0, .ref (xB G + p0)), (1, .int (iI i0))]) dX6_isSo_60 hl (by decide) rfl rfl (fun ls hl => ?_)
        exact ih5 _ _ _ _ _ _ _ hf I (lv_sub hl [1, 2, 0] rfl)
      · have hf := ifn c5 hf
        refine kx_iload_n 12 C dX6_isSo_12 (lv_at hl 1 rfl) ?_
        refine kx_if_eq 13 51 C dX6_isSo_13 (by decide) (fun c6 => ?_) (fun c6 => ?_)
        · have hf := ifp c6 hf
          exact ih3 _ _ _ _ _ _ _ hf I (lv_sub hl [0, 2] rfl)
        · have hf := ifn c6 hf
          refine kx_aload_n 16 C dX6_isSo_16 (lv_at hl 0 rfl) ?_
          obtain ⟨q8, h7, hf⟩ := ob hf
          refine kx_getp 17 C I fl_X6_isSo_7 h7 dX6_isSo_17 ?_
          refine kx_bipush 20 C dX6_isSo_20 (by decide) ?_
          refine kx_iload_n 22 C dX6_isSo_22 (lv_at hl 2 rfl) ?_
          refine kx_iadd 23 C dX6_isSo_23 ?_
          obtain ⟨x9, h10, hf⟩ := ob hf
          refine kx_iald 24 C I h10 dX6_isSo_24 ?_
          refine kx_iconst 25 C dX6_isSo_25 ?_
          refine kx_icmp_eq 26 47 C dX6_isSo_26 (by decide) (fun c11 => ?_) (fun c11 => ?_)
          · have hf := ifp c11 hf
            exact ih2 _ _ _ _ _ _ _ hf I (lv_sub hl [0, 2] rfl)
          · have hf := ifn c11 hf
            refine kx_aload_n 29 C dX6_isSo_29 (lv_at hl 0 rfl) ?_
            obtain ⟨q13, h12, hf⟩ := ob hf
            refine kx_getp 30 C I fl_X6_isSo_7 h12 dX6_isSo_30 ?_
            refine kx_bipush 33 C dX6_isSo_33 (by decide) ?_
            refine kx_iload_n 35 C dX6_isSo_35 (lv_at hl 2 rfl) ?_
            refine kx_iadd 36 C dX6_isSo_36 ?_
            obtain ⟨x14, h15, hf⟩ := ob hf
            refine kx_iald 37 C I h15 dX6_isSo_37 ?_
            refine kx_aload_n 38 C dX6_isSo_38 (lv_at hl 0 rfl) ?_
            obtain ⟨q17, h16, hf⟩ := ob hf
            refine kx_getp 39 C I fl_X6_isSo_27 h16 dX6_isSo_39 ?_
            refine kx_iload_n 42 C dX6_isSo_42 (lv_at hl 2 rfl) ?_
            obtain ⟨x18, h19, hf⟩ := ob hf
            refine kx_iald 43 C I h19 dX6_isSo_43 ?_
            refine kx_icmp_ne 44 51 C dX6_isSo_44 (by decide) (fun c20 => ?_) (fun c20 => ?_)
            · have hf := ifn c20 hf
              exact ih3 _ _ _ _ _ _ _ hf I (lv_sub hl [0, 2] rfl)
            · have hf := ifp c20 hf
              exact ih2 _ _ _ _ _ _ _ hf I (lv_sub hl [0, 2] rfl)
    · intro S p0 i0 i1 H locs ls hf I hl
      replace hf : b_X6_isSo_2 (g_X6_isSo fu) fu S p0 i0 i1 = some (r, S') := hf
      unfold b_X6_isSo_2 at hf
      refine kx_iconst 47 C dX6_isSo_47 ?_
      refine kx_goto 48 52 C dX6_isSo_48 (by decide) ?_
      exact ih4 _ _ _ _ _ _ _ hf I (lv_sub hl [0, 1] rfl)
    · intro S p0 i0 i1 H locs ls hf I hl
      replace hf : b_X6_isSo_3 (g_X6_isSo fu) fu S p0 i0 i1 = some (r, S') := hf
      unfold b_X6_isSo_3 at hf
      refine kx_iconst 51 C dX6_isSo_51 ?_
      exact ih4 _ _ _ _ _ _ _ hf I (lv_sub hl [0, 1] rfl)
    · intro S p0 i0 i1 H locs ls hf I hl
      replace hf : b_X6_isSo_4 (g_X6_isSo fu) fu S p0 i0 i1 = some (r, S') := hf
      unfold b_X6_isSo_4 at hf
      refine kx_istore_n 52 C (lv' := [(1, .int (iI i1)), (0, .ref (xB G + p0)), (2, .int (iI i0))]) dX6_isSo_52 hl (by decide) rfl rfl (fun ls hl => ?_)
      obtain ⟨x21, e22, hf⟩ := nmx_e hf
      refine kx_iinc 53 C (lv' := [(2, .int (iI x21)), (1, .int (iI i1)), (0, .ref (xB G + p0))]) dX6_isSo_53 hl 2 rfl e22 (by decide) rfl (fun ls hl => ?_)
      refine kx_goto 56 4 C dX6_isSo_56 (by decide) ?_
      exact ih1 _ _ _ _ _ _ _ hf I (lv_sub hl [2, 1, 0] rfl)
    · intro S p0 i0 i1 H locs ls hf I hl
      replace hf : b_X6_isSo_5 (g_X6_isSo fu) fu S p0 i0 i1 = some (r, S') := hf
      unfold b_X6_isSo_5 at hf
      refine kx_iload_n 61 C dX6_isSo_61 (lv_at hl 2 rfl) ?_
      refine kx_aload_n 62 C dX6_isSo_62 (lv_at hl 0 rfl) ?_
      obtain ⟨q24, h23, hf⟩ := ob hf
      refine kx_getp 63 C I fl_X6_isSo_7 h23 dX6_isSo_63 ?_
      refine kx_bipush 66 C dX6_isSo_66 (by decide) ?_
      obtain ⟨x25, h26, hf⟩ := ob hf
      refine kx_iald 68 C I h26 dX6_isSo_68 ?_
      refine kx_icmp_ge 69 134 C dX6_isSo_69 (by decide) (fun c27 => ?_) (fun c27 => ?_)
      · have hf := ifp c27 hf
        refine kx_iload_n 134 C dX6_isSo_134 (lv_at hl 1 rfl) ?_
        obtain ⟨h28, hf⟩ := ift hf
        exact kx_zret 135 C I h28 hf dX6_isSo_135
      · have hf := ifn c27 hf
        refine kx_iload_n 72 C dX6_isSo_72 (lv_at hl 1 rfl) ?_
        refine kx_if_eq 73 134 C dX6_isSo_73 (by decide) (fun c29 => ?_) (fun c29 => ?_)
        · have hf := ifp c29 hf
          refine kx_iload_n 134 C dX6_isSo_134 (lv_at hl 1 rfl) ?_
          obtain ⟨h30, hf⟩ := ift hf
          exact kx_zret 135 C I h30 hf dX6_isSo_135
        · have hf := ifn c29 hf
          refine kx_aload_n 76 C dX6_isSo_76 (lv_at hl 0 rfl) ?_
          refine kx_aload_n 77 C dX6_isSo_77 (lv_at hl 0 rfl) ?_
          obtain ⟨q32, h31, hf⟩ := ob hf
          refine kx_getp 78 C I fl_X6_isSo_7 h31 dX6_isSo_78 ?_
          refine kx_bipush 81 C dX6_isSo_81 (by decide) ?_
          refine kx_iconst 83 C dX6_isSo_83 ?_
          refine kx_iload_n 84 C dX6_isSo_84 (lv_at hl 2 rfl) ?_
          refine kx_imul 85 C dX6_isSo_85 ?_
          refine kx_iadd 86 C dX6_isSo_86 ?_
          obtain ⟨x33, h34, hf⟩ := ob hf
          refine kx_iald 87 C I h34 dX6_isSo_87 ?_
          obtain ⟨h38, hf⟩ := ift hf
          obtain ⟨z37, S35, h36, hf⟩ := ob2 hf
          refine kx_callVv 88 C hl I (ci := 5) (As := [.int (iI x33)]) (rest := []) (c_X6_seek G l fu _ _ _ _ _ h36) (cwV 1 C.ts gX6_isSo_X6_seek rfl rfl rfl nyV_X6_seek ⟨Nat.le_of_ble_eq_true rfl, Nat.le_of_ble_eq_true rfl⟩) rfl h38 rfl rfl (Nat.le_of_ble_eq_true rfl) dX6_isSo_88 ⟨Nat.le_of_ble_eq_true rfl, Nat.le_of_ble_eq_true rfl⟩ (fun H locs I => ?_)
          refine kx_aload_n 91 C dX6_isSo_91 (lv_at hl 0 rfl) ?_
          obtain ⟨x40, h39, hf⟩ := ob hf
          refine kx_geti 92 C I fl_X6_isSo_154 h39 dX6_isSo_92 ?_
          refine kx_if_eq 95 105 C dX6_isSo_95 (by decide) (fun c41 => ?_) (fun c41 => ?_)
          · have hf := ifp c41 hf
            refine kx_iconst 105 C dX6_isSo_105 ?_
            exact ih6 _ _ _ _ _ _ _ hf I (lv_sub hl [0, 2] rfl)
          · have hf := ifn c41 hf
            refine kx_aload_n 98 C dX6_isSo_98 (lv_at hl 0 rfl) ?_
            obtain ⟨x43, h42, hf⟩ := ob hf
            refine kx_geti 99 C I fl_X6_isSo_151 h42 dX6_isSo_99 ?_
            refine kx_goto 102 106 C dX6_isSo_102 (by decide) ?_
            exact ih6 _ _ _ _ _ _ _ hf I (lv_sub hl [0, 2] rfl)
    · intro S p0 i0 i1 H locs ls hf I hl
      replace hf : b_X6_isSo_6 (g_X6_isSo fu) fu S p0 i0 i1 = some (r, S') := hf
      unfold b_X6_isSo_6 at hf
      refine kx_aload_n 106 C dX6_isSo_106 (lv_at hl 0 rfl) ?_
      obtain ⟨q45, h44, hf⟩ := ob hf
      refine kx_getp 107 C I fl_X6_isSo_7 h44 dX6_isSo_107 ?_
      refine kx_bipush 110 C dX6_isSo_110 (by decide) ?_
      refine kx_iconst 112 C dX6_isSo_112 ?_
      refine kx_iload_n 113 C dX6_isSo_113 (lv_at hl 1 rfl) ?_
      refine kx_imul 114 C dX6_isSo_114 ?_
      refine kx_iadd 115 C dX6_isSo_115 ?_
      refine kx_iconst 116 C dX6_isSo_116 ?_
      refine kx_iadd 117 C dX6_isSo_117 ?_
      obtain ⟨x46, h47, hf⟩ := ob hf
      refine kx_iald 118 C I h47 dX6_isSo_118 ?_
      refine kx_icmp_ne 119 126 C dX6_isSo_119 (by decide) (fun c48 => ?_) (fun c48 => ?_)
      · have hf := ifn c48 hf
        refine kx_iconst 126 C dX6_isSo_126 ?_
        exact ih7 _ _ _ _ _ _ _ hf I (lv_sub hl [0, 1] rfl)
      · have hf := ifp c48 hf
        refine kx_iconst 122 C dX6_isSo_122 ?_
        refine kx_goto 123 127 C dX6_isSo_123 (by decide) ?_
        exact ih7 _ _ _ _ _ _ _ hf I (lv_sub hl [0, 1] rfl)
    · intro S p0 i0 i1 H locs ls hf I hl
      replace hf : b_X6_isSo_7 (g_X6_isSo fu) fu S p0 i0 i1 = some (r, S') := hf
      unfold b_X6_isSo_7 at hf
      refine kx_istore_n 127 C (lv' := [(1, .int (iI i1)), (0, .ref (xB G + p0)), (2, .int (iI i0))]) dX6_isSo_127 hl (by decide) rfl rfl (fun ls hl => ?_)
      obtain ⟨x49, e50, hf⟩ := nmx_e hf
      refine kx_iinc 128 C (lv' := [(2, .int (iI x49)), (1, .int (iI i1)), (0, .ref (xB G + p0))]) dX6_isSo_128 hl 2 rfl e50 (by decide) rfl (fun ls hl => ?_)
      refine kx_goto 131 61 C dX6_isSo_131 (by decide) ?_
      exact ih5 _ _ _ _ _ _ _ hf I (lv_sub hl [2, 1, 0] rfl)
set_option maxHeartbeats 4000000 in
set_option maxRecDepth 100000 in
theorem c_X6_isSo (G : xG) (l : Launch) (fu : Nat) (S S' : xS) (p0 : Nat) (r : Int) (hf : f_X6_isSo fu S p0 = some (r, S')) : Met l yX6_isSo vsX6_isSo rm_X6_isSo (va_Pc [.ref (xB G + p0)] (xPre G S)) (xQi G r S') 0 0 (xA G) := by
  refine kx_met (ret := (some .boolean)) RX6 [(0, .ref (xB G + p0))] (by decide) rfl rfl (Nat.le_of_ble_eq_true rfl) rfl (fun p e s m below meth c ls C hin I hl => ?_)
  exact (w_X6_isSo C r S' fu).1 S _ _ _ _ _ _ hf I hl
def rm_X6_mayBe : Room := { frames := 5, cells := 0, slots := 0, locals := 113 }
theorem nyS_X6_mayBe : yX6_mayBe.cls ≠ "java/lang/invoke/MethodHandle" ∧ yX6_mayBe.cls ≠ "java/lang/invoke/VarHandle" ∧ (parseMethodDescriptor yX6_mayBe.desc).map (fun d => d.parameters.length) = some 1 := by decide +kernel
theorem nyV_X6_mayBe : yX6_mayBe.cls = RX6 ∧ yX6_mayBe.cls ≠ "java/lang/invoke/MethodHandle" ∧ yX6_mayBe.cls ≠ "java/lang/invoke/VarHandle" ∧ (parseMethodDescriptor yX6_mayBe.desc).map (fun d => d.parameters.length) = some 1 := by decide +kernel
set_option maxHeartbeats 4000000 in
set_option maxRecDepth 100000 in
theorem w_X6_mayBe {G : xG} {p : Program} {l : Launch} {e : Env} {s : State} {m : MethodId} {args : Array Value} {below : List Frame} {meth : Method} {c : Code} (C : xK G p s m args meth c cX6_mayBe 5 vsX6_mayBe RX6 (some .int)) (r : Int) (S' : xS) : ∀ k : Nat,
  (∀ (S : xS) (p0 : Nat) (i0 i1 i2 i3 : Int) (H : Heap) (locs : List Loc) (ls : Array Slot), g_X6_mayBe k 0 S p0 i0 i1 i2 i3 = some (r, S') → xI G S s H locs → lv_has ls 5 [(0, .ref (xB G + p0)), (1, .int (iI i0))] → W p l e rm_X6_mayBe s m args below meth c H locs 0 0 (MQ below (xQi G r S') args s 0 0 (xA G)) (F0 m 0 ls [])) ∧
  (∀ (S : xS) (p0 : Nat) (i0 i1 i2 i3 : Int) (H : Heap) (locs : List Loc) (ls : Array Slot), g_X6_mayBe k 1 S p0 i0 i1 i2 i3 = some (r, S') → xI G S s H locs → lv_has ls 5 [(0, .ref (xB G + p0)), (1, .int (iI i0)), (2, .int (iI i1)), (3, .int (iI i2)), (4, .int (iI i3))] → W p l e rm_X6_mayBe s m args below meth c H locs 0 0 (MQ below (xQi G r S') args s 0 0 (xA G)) (F0 m 20 ls [])) ∧
  (∀ (S : xS) (p0 : Nat) (i0 i1 i2 i3 : Int) (H : Heap) (locs : List Loc) (ls : Array Slot), g_X6_mayBe k 2 S p0 i0 i1 i2 i3 = some (r, S') → xI G S s H locs → lv_has ls 5 [(0, .ref (xB G + p0)), (1, .int (iI i0)), (2, .int (iI i1)), (4, .int (iI i2))] → W p l e rm_X6_mayBe s m args below meth c H locs 0 0 (MQ below (xQi G r S') args s 0 0 (xA G)) (F0 m 53 ls [.int (iI i3)])) ∧
  (∀ (S : xS) (p0 : Nat) (i0 i1 i2 i3 : Int) (H : Heap) (locs : List Loc) (ls : Array Slot), g_X6_mayBe k 3 S p0 i0 i1 i2 i3 = some (r, S') → xI G S s H locs → lv_has ls 5 [(0, .ref (xB G + p0)), (1, .int (iI i0)), (2, .int (iI i1)), (3, .int (iI i2)), (4, .int (iI i3))] → W p l e rm_X6_mayBe s m args below meth c H locs 0 0 (MQ below (xQi G r S') args s 0 0 (xA G)) (F0 m 57 ls [])) := by
  intro k
  induction k with
  | zero => exact ⟨fun _ _ _ _ _ _ _ _ _ hf => (by cases hf), fun _ _ _ _ _ _ _ _ _ hf => (by cases hf), fun _ _ _ _ _ _ _ _ _ hf => (by cases hf), fun _ _ _ _ _ _ _ _ _ hf => (by cases hf)⟩
  | succ fu ih =>
    obtain ⟨ih0, ih1, ih2, ih3⟩ := ih
    refine ⟨?_, ?_, ?_, ?_⟩
    · intro S p0 i0 i1 i2 i3 H locs ls hf I hl
      replace hf : b_X6_mayBe_0 (g_X6_mayBe fu) fu S p0 i0 i1 i2 i3 = some (r, S') := hf
      unfold b_X6_mayBe_0 at hf
      refine kx_iload_n 0 C dX6_mayBe_0 (lv_at hl 1 rfl) ?_
      refine kx_iconst 1 C dX6_mayBe_1 ?_
      refine kx_icmp_ge 2 12 C dX6_mayBe_2 (by decide) (fun c1 => ?_) (fun c1 => ?_)
      · have hf := ifp c1 hf
        refine kx_iconst 12 C dX6_mayBe_12 ?_
        refine kx_istore_n 13 C (lv' := [(2, .int (iI 0)), (0, .ref (xB G + p0)), (1, .int (iI i0))]) dX6_mayBe_13 hl (by decide) rfl rfl (fun ls hl => ?_)
        refine kx_bipush 14 C dX6_mayBe_14 (by decide) ?_
        refine kx_istore_n 16 C (lv' := [(3, .int (iI ((-5)))), (2, .int (iI 0)), (0, .ref (xB G + p0)), (1, .int (iI i0))]) dX6_mayBe_16 hl (by decide) rfl rfl (fun ls hl => ?_)
        refine kx_iconst 17 C dX6_mayBe_17 ?_
        refine kx_istore 18 C (lv' := [(4, .int (iI 0)), (3, .int (iI ((-5)))), (2, .int (iI 0)), (0, .ref (xB G + p0)), (1, .int (iI i0))]) dX6_mayBe_18 hl (by decide) rfl rfl (fun ls hl => ?_)
        exact ih1 _ _ _ _ _ _ _ _ _ hf I (lv_sub hl [3, 4, 2, 1, 0] rfl)
      · have hf := ifn c1 hf
        refine kx_aload_n 5 C dX6_mayBe_5 (lv_at hl 0 rfl) ?_
        refine kx_bipush 6 C dX6_mayBe_6 (by decide) ?_
        obtain ⟨h5, hf⟩ := ift hf
        obtain ⟨x4, S2, h3, hf⟩ := ob2 hf
        refine kx_callVi 8 C hl I (ci := 5) (As := [.int (iI ((-10)))]) (rest := []) (c_X6_bad G l fu _ _ _ _ _ h3) (cwV 1 C.ts gX6_mayBe_X6_bad rfl rfl rfl nyV_X6_bad ⟨Nat.le_of_ble_eq_true rfl, Nat.le_of_ble_eq_true rfl⟩) rfl h5 rfl rfl (Nat.le_of_ble_eq_true rfl) dX6_mayBe_8 ⟨Nat.le_of_ble_eq_true rfl, Nat.le_of_ble_eq_true rfl⟩ (fun H locs I => ?_)
        exact kx_iret 11 C I hf dX6_mayBe_11
    · intro S p0 i0 i1 i2 i3 H locs ls hf I hl
      replace hf : b_X6_mayBe_1 (g_X6_mayBe fu) fu S p0 i0 i1 i2 i3 = some (r, S') := hf
      unfold b_X6_mayBe_1 at hf
      refine kx_iload 20 C dX6_mayBe_20 (lv_at hl 4 rfl) ?_
      refine kx_aload_n 22 C dX6_mayBe_22 (lv_at hl 0 rfl) ?_
      obtain ⟨h9, hf⟩ := ift hf
      obtain ⟨x8, S6, h7, hf⟩ := ob2 hf
      refine kx_callVi 23 C hl I (ci := 5) (As := []) (rest := [.int (iI i3)]) (c_X6_ways G l fu _ _ _ _ h7) (cwV 0 C.ts gX6_mayBe_X6_ways rfl rfl rfl nyV_X6_ways ⟨Nat.le_of_ble_eq_true rfl, Nat.le_of_ble_eq_true rfl⟩) rfl h9 rfl rfl (Nat.le_of_ble_eq_true rfl) dX6_mayBe_23 ⟨Nat.le_of_ble_eq_true rfl, Nat.le_of_ble_eq_true rfl⟩ (fun H locs I => ?_)
      refine kx_icmp_ge 26 63 C dX6_mayBe_26 (by decide) (fun c10 => ?_) (fun c10 => ?_)
      · have hf := ifp c10 hf
        refine kx_iload_n 63 C dX6_mayBe_63 (lv_at hl 1 rfl) ?_
        refine kx_iconst 64 C dX6_mayBe_64 ?_
        refine kx_icmp_ne 65 72 C dX6_mayBe_65 (by decide) (fun c11 => ?_) (fun c11 => ?_)
        · have hf := ifn c11 hf
          refine kx_iload_n 72 C dX6_mayBe_72 (lv_at hl 3 rfl) ?_
          exact kx_iret 73 C I hf dX6_mayBe_73
        · have hf := ifp c11 hf
          refine kx_iload_n 68 C dX6_mayBe_68 (lv_at hl 2 rfl) ?_
          refine kx_goto 69 73 C dX6_mayBe_69 (by decide) ?_
          exact kx_iret 73 C I hf dX6_mayBe_73
      · have hf := ifn c10 hf
        refine kx_aload_n 29 C dX6_mayBe_29 (lv_at hl 0 rfl) ?_
        refine kx_iload 30 C dX6_mayBe_30 (lv_at hl 4 rfl) ?_
        obtain ⟨h15, hf⟩ := ift hf
        obtain ⟨z14, S12, h13, hf⟩ := ob2 hf
        refine kx_callVv 32 C hl I (ci := 5) (As := [.int (iI i3)]) (rest := []) (c_X6_takeRank G l fu _ _ _ _ _ h13) (cwV 1 C.ts gX6_mayBe_X6_takeRank rfl rfl rfl nyV_X6_takeRank ⟨Nat.le_of_ble_eq_true rfl, Nat.le_of_ble_eq_true rfl⟩) rfl h15 rfl rfl (Nat.le_of_ble_eq_true rfl) dX6_mayBe_32 ⟨Nat.le_of_ble_eq_true rfl, Nat.le_of_ble_eq_true rfl⟩ (fun H locs I => ?_)
        refine kx_aload_n 35 C dX6_mayBe_35 (lv_at hl 0 rfl) ?_
        obtain ⟨h19, hf⟩ := ift hf
        obtain ⟨x18, S16, h17, hf⟩ := ob2 hf
        refine kx_callVi 36 C hl I (ci := 5) (As := []) (rest := []) (c_X6_isSo G l fu _ _ _ _ h17) (cwV 0 C.ts gX6_mayBe_X6_isSo rfl rfl rfl nyV_X6_isSo ⟨Nat.le_of_ble_eq_true rfl, Nat.le_of_ble_eq_true rfl⟩) rfl h19 rfl rfl (Nat.le_of_ble_eq_true rfl) dX6_mayBe_36 ⟨Nat.le_of_ble_eq_true rfl, Nat.le_of_ble_eq_true rfl⟩ (fun H locs I => ?_)
        refine kx_if_eq 39 57 C dX6_mayBe_39 (by decide) (fun c20 => ?_) (fun c20 => ?_)
        · have hf := ifp c20 hf
          exact ih3 _ _ _ _ _ _ _ _ _ hf I (lv_sub hl [0, 1, 2, 3, 4] rfl)
        · have hf := ifn c20 hf
          refine kx_iload_n 42 C dX6_mayBe_42 (lv_at hl 2 rfl) ?_
          refine kx_iload_n 43 C dX6_mayBe_43 (lv_at hl 1 rfl) ?_
          refine kx_icmp_ne 44 52 C dX6_mayBe_44 (by decide) (fun c21 => ?_) (fun c21 => ?_)
          · have hf := ifn c21 hf
            refine kx_iload_n 52 C dX6_mayBe_52 (lv_at hl 3 rfl) ?_
            exact ih2 _ _ _ _ _ _ _ _ _ hf I (lv_sub hl [0, 1, 2, 4] rfl)
          · have hf := ifp c21 hf
            refine kx_iload 47 C dX6_mayBe_47 (lv_at hl 4 rfl) ?_
            refine kx_goto 49 53 C dX6_mayBe_49 (by decide) ?_
            exact ih2 _ _ _ _ _ _ _ _ _ hf I (lv_sub hl [0, 1, 2, 4] rfl)
    · intro S p0 i0 i1 i2 i3 H locs ls hf I hl
      replace hf : b_X6_mayBe_2 (g_X6_mayBe fu) fu S p0 i0 i1 i2 i3 = some (r, S') := hf
      unfold b_X6_mayBe_2 at hf
      refine kx_istore_n 53 C (lv' := [(3, .int (iI i3)), (0, .ref (xB G + p0)), (1, .int (iI i0)), (2, .int (iI i1)), (4, .int (iI i2))]) dX6_mayBe_53 hl (by decide) rfl rfl (fun ls hl => ?_)
      obtain ⟨x22, e23, hf⟩ := nmx_e hf
      refine kx_iinc 54 C (lv' := [(2, .int (iI x22)), (3, .int (iI i3)), (0, .ref (xB G + p0)), (1, .int (iI i0)), (4, .int (iI i2))]) dX6_mayBe_54 hl 3 rfl e23 (by decide) rfl (fun ls hl => ?_)
      exact ih3 _ _ _ _ _ _ _ _ _ hf I (lv_sub hl [2, 3, 0, 1, 4] rfl)
    · intro S p0 i0 i1 i2 i3 H locs ls hf I hl
      replace hf : b_X6_mayBe_3 (g_X6_mayBe fu) fu S p0 i0 i1 i2 i3 = some (r, S') := hf
      unfold b_X6_mayBe_3 at hf
      obtain ⟨x24, e25, hf⟩ := nmx_e hf
      refine kx_iinc 57 C (lv' := [(4, .int (iI x24)), (0, .ref (xB G + p0)), (1, .int (iI i0)), (2, .int (iI i1)), (3, .int (iI i2))]) dX6_mayBe_57 hl 4 rfl e25 (by decide) rfl (fun ls hl => ?_)
      refine kx_goto 60 20 C dX6_mayBe_60 (by decide) ?_
      exact ih1 _ _ _ _ _ _ _ _ _ hf I (lv_sub hl [1, 2, 3, 4, 0] rfl)
set_option maxHeartbeats 4000000 in
set_option maxRecDepth 100000 in
theorem c_X6_mayBe (G : xG) (l : Launch) (fu : Nat) (S S' : xS) (p0 : Nat) (i0 : Int) (r : Int) (hf : f_X6_mayBe fu S p0 i0 = some (r, S')) : Met l yX6_mayBe vsX6_mayBe rm_X6_mayBe (va_Pc [.ref (xB G + p0), .int (iI i0)] (xPre G S)) (xQi G r S') 0 0 (xA G) := by
  refine kx_met (ret := (some .int)) RX6 [(0, .ref (xB G + p0)), (1, .int (iI i0))] (by decide) rfl rfl (Nat.le_of_ble_eq_true rfl) rfl (fun p e s m below meth c ls C hin I hl => ?_)
  exact (w_X6_mayBe C r S' fu).1 S _ _ _ _ _ _ _ _ hf I hl
def rm_X6_tell : Room := { frames := 0, cells := 0, slots := 0, locals := 0 }
theorem hin_X6_tell_RX6 : ∀ w ∈ wsX60, w ∈ vsX6_tell := fun w h => inM (inlX6 w h)
theorem fl_X6_tell_23 : xFl vsX6_tell RX6 23 5 5 := ⟨RX6, TX6, 30, rfl, by decide, hin_X6_tell_RX6, inM mq_4_21, rfl⟩
theorem fl_X6_tell_226 : xFl vsX6_tell RX6 226 5 4 := ⟨RX6, TX6, 30, rfl, by decide, hin_X6_tell_RX6, inM mq_40_0, rfl⟩
theorem nyS_X6_tell : yX6_tell.cls ≠ "java/lang/invoke/MethodHandle" ∧ yX6_tell.cls ≠ "java/lang/invoke/VarHandle" ∧ (parseMethodDescriptor yX6_tell.desc).map (fun d => d.parameters.length) = some 2 := by decide +kernel
theorem nyV_X6_tell : yX6_tell.cls = RX6 ∧ yX6_tell.cls ≠ "java/lang/invoke/MethodHandle" ∧ yX6_tell.cls ≠ "java/lang/invoke/VarHandle" ∧ (parseMethodDescriptor yX6_tell.desc).map (fun d => d.parameters.length) = some 2 := by decide +kernel
set_option maxHeartbeats 4000000 in
set_option maxRecDepth 100000 in
theorem w_X6_tell {G : xG} {p : Program} {l : Launch} {e : Env} {s : State} {m : MethodId} {args : Array Value} {below : List Frame} {meth : Method} {c : Code} (C : xK G p s m args meth c cX6_tell 11 vsX6_tell RX6 (some .int)) (r : Int) (S' : xS) : ∀ k : Nat,
  (∀ (S : xS) (p0 : Nat) (i0 i1 i2 i3 : Int) (H : Heap) (locs : List Loc) (ls : Array Slot), g_X6_tell k 0 S p0 i0 i1 i2 i3 = some (r, S') → xI G S s H locs → lv_has ls 11 [(0, .ref (xB G + p0)), (1, .long (lI i0)), (3, .long (lI i1))] → W p l e rm_X6_tell s m args below meth c H locs 0 0 (MQ below (xQi G r S') args s 0 0 (xA G)) (F0 m 0 ls [])) ∧
  (∀ (S : xS) (p0 : Nat) (i0 i1 i2 i3 : Int) (H : Heap) (locs : List Loc) (ls : Array Slot), g_X6_tell k 1 S p0 i0 i1 i2 i3 = some (r, S') → xI G S s H locs → lv_has ls 11 [(0, .ref (xB G + p0)), (1, .long (lI i0)), (3, .long (lI i1)), (5, .long (lI i2)), (7, .long (lI i3))] → W p l e rm_X6_tell s m args below meth c H locs 0 0 (MQ below (xQi G r S') args s 0 0 (xA G)) (F0 m 6 ls [])) := by
  intro k
  induction k with
  | zero => exact ⟨fun _ _ _ _ _ _ _ _ _ hf => (by cases hf), fun _ _ _ _ _ _ _ _ _ hf => (by cases hf)⟩
  | succ fu ih =>
    obtain ⟨ih0, ih1⟩ := ih
    refine ⟨?_, ?_⟩
    · intro S p0 i0 i1 i2 i3 H locs ls hf I hl
      replace hf : b_X6_tell_0 (g_X6_tell fu) fu S p0 i0 i1 i2 i3 = some (r, S') := hf
      unfold b_X6_tell_0 at hf
      refine kx_lload_n 0 C dX6_tell_0 (lv_at hl 1 rfl) ?_
      refine kx_lstore 1 C (lv' := [(5, .long (lI i0)), (0, .ref (xB G + p0)), (1, .long (lI i0)), (3, .long (lI i1))]) dX6_tell_1 hl (by decide) rfl rfl (fun ls hl => ?_)
      refine kx_lload_n 3 C dX6_tell_3 (lv_at hl 3 rfl) ?_
      refine kx_lstore 4 C (lv' := [(7, .long (lI i1)), (5, .long (lI i0)), (0, .ref (xB G + p0)), (1, .long (lI i0)), (3, .long (lI i1))]) dX6_tell_4 hl (by decide) rfl rfl (fun ls hl => ?_)
      exact ih1 _ _ _ _ _ _ _ _ _ hf I (lv_sub hl [2, 3, 4, 1, 0] rfl)
    · intro S p0 i0 i1 i2 i3 H locs ls hf I hl
      replace hf : b_X6_tell_1 (g_X6_tell fu) fu S p0 i0 i1 i2 i3 = some (r, S') := hf
      unfold b_X6_tell_1 at hf
      refine kx_lload 6 C dX6_tell_6 (lv_at hl 4 rfl) ?_
      refine kx_lconst 8 C (z := 0) dX6_tell_8 rfl ?_
      refine kx_lcmp 9 C dX6_tell_9 ?_
      refine kx_if_eq 10 31 C dX6_tell_10 (by decide) (fun c1 => ?_) (fun c1 => ?_)
      · have hf := ifp c1 hf
        refine kx_aload_n 31 C dX6_tell_31 (lv_at hl 0 rfl) ?_
        refine kx_lload_n 32 C dX6_tell_32 (lv_at hl 1 rfl) ?_
        refine kx_lload 33 C dX6_tell_33 (lv_at hl 3 rfl) ?_
        obtain ⟨h2, hf⟩ := ifz hf
        refine kx_ldiv 35 C dX6_tell_35 h2 ?_
        obtain ⟨S4, h3, hf⟩ := ob hf
        refine kx_putl 36 C I fl_X6_tell_226 fw_RX6_4 h3 dX6_tell_36 (fun H locs I => ?_)
        refine kx_aload_n 39 C dX6_tell_39 (lv_at hl 0 rfl) ?_
        refine kx_lload_n 40 C dX6_tell_40 (lv_at hl 2 rfl) ?_
        refine kx_lload 41 C dX6_tell_41 (lv_at hl 3 rfl) ?_
        obtain ⟨h5, hf⟩ := ifz hf
        refine kx_ldiv 43 C dX6_tell_43 h5 ?_
        obtain ⟨S7, h6, hf⟩ := ob hf
        refine kx_putl 44 C I fl_X6_tell_23 fw_RX6_5 h6 dX6_tell_44 (fun H locs I => ?_)
        refine kx_iconst 47 C dX6_tell_47 ?_
        exact kx_iret 48 C I hf dX6_tell_48
      · have hf := ifn c1 hf
        refine kx_lload 13 C dX6_tell_13 (lv_at hl 3 rfl) ?_
        refine kx_lload 15 C dX6_tell_15 (lv_at hl 4 rfl) ?_
        obtain ⟨h8, hf⟩ := ifz hf
        refine kx_lrem 17 C dX6_tell_17 h8 ?_
        obtain ⟨x9, e10, hf⟩ := nmx_e hf
        refine kx_lstore 18 C (lv' := [(9, .long (lI x9)), (0, .ref (xB G + p0)), (1, .long (lI i0)), (3, .long (lI i1)), (5, .long (lI i2)), (7, .long (lI i3))]) dX6_tell_18 hl (by decide) e10 rfl (fun ls hl => ?_)
        refine kx_lload 20 C dX6_tell_20 (lv_at hl 5 rfl) ?_
        refine kx_lstore 22 C (lv' := [(5, .long (lI i3)), (9, .long (lI x9)), (0, .ref (xB G + p0)), (1, .long (lI i0)), (3, .long (lI i1)), (7, .long (lI i3))]) dX6_tell_22 hl (by decide) rfl rfl (fun ls hl => ?_)
        refine kx_lload 24 C dX6_tell_24 (lv_at hl 1 rfl) ?_
        refine kx_lstore 26 C (lv' := [(7, .long (lI x9)), (5, .long (lI i3)), (9, .long (lI x9)), (0, .ref (xB G + p0)), (1, .long (lI i0)), (3, .long (lI i1))]) dX6_tell_26 hl (by decide) rfl rfl (fun ls hl => ?_)
        refine kx_goto 28 6 C dX6_tell_28 (by decide) ?_
        exact ih1 _ _ _ _ _ _ _ _ _ hf I (lv_sub hl [3, 4, 5, 1, 0] rfl)
set_option maxHeartbeats 4000000 in
set_option maxRecDepth 100000 in
theorem c_X6_tell (G : xG) (l : Launch) (fu : Nat) (S S' : xS) (p0 : Nat) (i0 : Int) (i1 : Int) (r : Int) (hf : f_X6_tell fu S p0 i0 i1 = some (r, S')) : Met l yX6_tell vsX6_tell rm_X6_tell (va_Pc [.ref (xB G + p0), .long (lI i0), .long (lI i1)] (xPre G S)) (xQi G r S') 0 0 (xA G) := by
  refine kx_met (ret := (some .int)) RX6 [(0, .ref (xB G + p0)), (1, .long (lI i0)), (3, .long (lI i1))] (by decide) rfl rfl (Nat.le_of_ble_eq_true rfl) rfl (fun p e s m below meth c ls C hin I hl => ?_)
  exact (w_X6_tell C r S' fu).1 S _ _ _ _ _ _ _ _ hf I hl
def rm_X6_chance : Room := { frames := 5, cells := 0, slots := 0, locals := 113 }
theorem nyS_X6_chance : yX6_chance.cls ≠ "java/lang/invoke/MethodHandle" ∧ yX6_chance.cls ≠ "java/lang/invoke/VarHandle" ∧ (parseMethodDescriptor yX6_chance.desc).map (fun d => d.parameters.length) = some 1 := by decide +kernel
theorem nyV_X6_chance : yX6_chance.cls = RX6 ∧ yX6_chance.cls ≠ "java/lang/invoke/MethodHandle" ∧ yX6_chance.cls ≠ "java/lang/invoke/VarHandle" ∧ (parseMethodDescriptor yX6_chance.desc).map (fun d => d.parameters.length) = some 1 := by decide +kernel
set_option maxHeartbeats 4000000 in
set_option maxRecDepth 100000 in
theorem w_X6_chance {G : xG} {p : Program} {l : Launch} {e : Env} {s : State} {m : MethodId} {args : Array Value} {below : List Frame} {meth : Method} {c : Code} (C : xK G p s m args meth c cX6_chance 5 vsX6_chance RX6 (some .int)) (r : Int) (S' : xS) : ∀ k : Nat,
  (∀ (S : xS) (p0 : Nat) (i0 i1 i2 i3 i4 : Int) (H : Heap) (locs : List Loc) (ls : Array Slot), g_X6_chance k 0 S p0 i0 i1 i2 i3 i4 = some (r, S') → xI G S s H locs → lv_has ls 5 [(0, .ref (xB G + p0)), (1, .int (iI i0))] → W p l e rm_X6_chance s m args below meth c H locs 0 0 (MQ below (xQi G r S') args s 0 0 (xA G)) (F0 m 0 ls [])) ∧
  (∀ (S : xS) (p0 : Nat) (i0 i1 i2 i3 i4 : Int) (H : Heap) (locs : List Loc) (ls : Array Slot), g_X6_chance k 1 S p0 i0 i1 i2 i3 i4 = some (r, S') → xI G S s H locs → lv_has ls 5 [(0, .ref (xB G + p0)), (1, .int (iI i0)), (2, .int (iI i1)), (3, .int (iI i2)), (4, .int (iI i3))] → W p l e rm_X6_chance s m args below meth c H locs 0 0 (MQ below (xQi G r S') args s 0 0 (xA G)) (F0 m 28 ls [])) ∧
  (∀ (S : xS) (p0 : Nat) (i0 i1 i2 i3 i4 : Int) (H : Heap) (locs : List Loc) (ls : Array Slot), g_X6_chance k 2 S p0 i0 i1 i2 i3 i4 = some (r, S') → xI G S s H locs → lv_has ls 5 [(0, .ref (xB G + p0)), (1, .int (iI i0)), (2, .int (iI i1)), (4, .int (iI i2))] → W p l e rm_X6_chance s m args below meth c H locs 0 0 (MQ below (xQi G r S') args s 0 0 (xA G)) (F0 m 69 ls [.int (iI i4), .int (iI i3)])) ∧
  (∀ (S : xS) (p0 : Nat) (i0 i1 i2 i3 i4 : Int) (H : Heap) (locs : List Loc) (ls : Array Slot), g_X6_chance k 3 S p0 i0 i1 i2 i3 i4 = some (r, S') → xI G S s H locs → lv_has ls 5 [(0, .ref (xB G + p0)), (1, .int (iI i0)), (2, .int (iI i1)), (3, .int (iI i2)), (4, .int (iI i3))] → W p l e rm_X6_chance s m args below meth c H locs 0 0 (MQ below (xQi G r S') args s 0 0 (xA G)) (F0 m 71 ls [])) := by
  intro k
  induction k with
  | zero => exact ⟨fun _ _ _ _ _ _ _ _ _ _ hf => (by cases hf), fun _ _ _ _ _ _ _ _ _ _ hf => (by cases hf), fun _ _ _ _ _ _ _ _ _ _ hf => (by cases hf), fun _ _ _ _ _ _ _ _ _ _ hf => (by cases hf)⟩
  | succ fu ih =>
    obtain ⟨ih0, ih1, ih2, ih3⟩ := ih
    refine ⟨?_, ?_, ?_, ?_⟩
    · intro S p0 i0 i1 i2 i3 i4 H locs ls hf I hl
      replace hf : b_X6_chance_0 (g_X6_chance fu) fu S p0 i0 i1 i2 i3 i4 = some (r, S') := hf
      unfold b_X6_chance_0 at hf
      refine kx_iload_n 0 C dX6_chance_0 (lv_at hl 1 rfl) ?_
      refine kx_i2l 1 C dX6_chance_1 ?_
      refine kx_lconst 2 C (z := 0) dX6_chance_2 rfl ?_
      refine kx_aload_n 3 C dX6_chance_3 (lv_at hl 0 rfl) ?_
      obtain ⟨h4, hf⟩ := ift hf
      obtain ⟨x3, S1, h2, hf⟩ := ob2 hf
      refine kx_callVi 4 C hl I (ci := 5) (As := []) (rest := [.long (lI 0), .long (lI (wI i0))]) (c_X6_all G l fu _ _ _ _ h2) (cwV 0 C.ts gX6_chance_X6_all rfl rfl rfl nyV_X6_all ⟨Nat.le_of_ble_eq_true rfl, Nat.le_of_ble_eq_true rfl⟩) rfl h4 rfl rfl (Nat.le_of_ble_eq_true rfl) dX6_chance_4 ⟨Nat.le_of_ble_eq_true rfl, Nat.le_of_ble_eq_true rfl⟩ (fun H locs I => ?_)
      refine kx_i2l 7 C dX6_chance_7 ?_
      obtain ⟨x7, S5, h6, hf⟩ := ob2 hf
      refine kx_callSi 8 C hl I (As := [.long (lI (wI i0)), .long (lI 0), .long (lI (wI x3))]) (rest := []) (c_X6_in G l fu _ _ _ _ _ _ h6) (va_cwS 3 C.ts gX6_chance_X6_in rfl rfl rfl nyS_X6_in ⟨Nat.le_of_ble_eq_true rfl, Nat.le_of_ble_eq_true rfl⟩) rfl rfl (Nat.le_of_ble_eq_true rfl) dX6_chance_8 ⟨Nat.le_of_ble_eq_true rfl, Nat.le_of_ble_eq_true rfl⟩ (fun H locs I => ?_)
      refine kx_if_ne 11 21 C dX6_chance_11 (by decide) (fun c8 => ?_) (fun c8 => ?_)
      · have hf := ifn c8 hf
        refine kx_iconst 21 C dX6_chance_21 ?_
        refine kx_istore_n 22 C (lv' := [(2, .int (iI 0)), (0, .ref (xB G + p0)), (1, .int (iI i0))]) dX6_chance_22 hl (by decide) rfl rfl (fun ls hl => ?_)
        refine kx_iconst 23 C dX6_chance_23 ?_
        refine kx_istore_n 24 C (lv' := [(3, .int (iI 0)), (2, .int (iI 0)), (0, .ref (xB G + p0)), (1, .int (iI i0))]) dX6_chance_24 hl (by decide) rfl rfl (fun ls hl => ?_)
        refine kx_iconst 25 C dX6_chance_25 ?_
        refine kx_istore 26 C (lv' := [(4, .int (iI 0)), (3, .int (iI 0)), (2, .int (iI 0)), (0, .ref (xB G + p0)), (1, .int (iI i0))]) dX6_chance_26 hl (by decide) rfl rfl (fun ls hl => ?_)
        exact ih1 _ _ _ _ _ _ _ _ _ _ hf I (lv_sub hl [3, 4, 2, 1, 0] rfl)
      · have hf := ifp c8 hf
        refine kx_aload_n 14 C dX6_chance_14 (lv_at hl 0 rfl) ?_
        refine kx_bipush 15 C dX6_chance_15 (by decide) ?_
        obtain ⟨h12, hf⟩ := ift hf
        obtain ⟨x11, S9, h10, hf⟩ := ob2 hf
        refine kx_callVi 17 C hl I (ci := 5) (As := [.int (iI ((-2)))]) (rest := []) (c_X6_bad G l fu _ _ _ _ _ h10) (cwV 1 C.ts gX6_chance_X6_bad rfl rfl rfl nyV_X6_bad ⟨Nat.le_of_ble_eq_true rfl, Nat.le_of_ble_eq_true rfl⟩) rfl h12 rfl rfl (Nat.le_of_ble_eq_true rfl) dX6_chance_17 ⟨Nat.le_of_ble_eq_true rfl, Nat.le_of_ble_eq_true rfl⟩ (fun H locs I => ?_)
        exact kx_iret 20 C I hf dX6_chance_20
    · intro S p0 i0 i1 i2 i3 i4 H locs ls hf I hl
      replace hf : b_X6_chance_1 (g_X6_chance fu) fu S p0 i0 i1 i2 i3 i4 = some (r, S') := hf
      unfold b_X6_chance_1 at hf
      refine kx_iload 28 C dX6_chance_28 (lv_at hl 4 rfl) ?_
      refine kx_aload_n 30 C dX6_chance_30 (lv_at hl 0 rfl) ?_
      obtain ⟨h16, hf⟩ := ift hf
      obtain ⟨x15, S13, h14, hf⟩ := ob2 hf
      refine kx_callVi 31 C hl I (ci := 5) (As := []) (rest := [.int (iI i3)]) (c_X6_ways G l fu _ _ _ _ h14) (cwV 0 C.ts gX6_chance_X6_ways rfl rfl rfl nyV_X6_ways ⟨Nat.le_of_ble_eq_true rfl, Nat.le_of_ble_eq_true rfl⟩) rfl h16 rfl rfl (Nat.le_of_ble_eq_true rfl) dX6_chance_31 ⟨Nat.le_of_ble_eq_true rfl, Nat.le_of_ble_eq_true rfl⟩ (fun H locs I => ?_)
      refine kx_icmp_ge 34 77 C dX6_chance_34 (by decide) (fun c17 => ?_) (fun c17 => ?_)
      · have hf := ifp c17 hf
        refine kx_iload_n 77 C dX6_chance_77 (lv_at hl 2 rfl) ?_
        refine kx_if_ne 78 88 C dX6_chance_78 (by decide) (fun c18 => ?_) (fun c18 => ?_)
        · have hf := ifn c18 hf
          refine kx_aload_n 88 C dX6_chance_88 (lv_at hl 0 rfl) ?_
          refine kx_iload_n 89 C dX6_chance_89 (lv_at hl 3 rfl) ?_
          refine kx_i2l 90 C dX6_chance_90 ?_
          refine kx_iload_n 91 C dX6_chance_91 (lv_at hl 2 rfl) ?_
          refine kx_i2l 92 C dX6_chance_92 ?_
          obtain ⟨h22, hf⟩ := ift hf
          obtain ⟨x21, S19, h20, hf⟩ := ob2 hf
          refine kx_callVi 93 C hl I (ci := 5) (As := [.long (lI (wI i2)), .long (lI (wI i1))]) (rest := []) (c_X6_tell G l fu _ _ _ _ _ _ h20) (cwV 2 C.ts gX6_chance_X6_tell rfl rfl rfl nyV_X6_tell ⟨Nat.le_of_ble_eq_true rfl, Nat.le_of_ble_eq_true rfl⟩) rfl h22 rfl rfl (Nat.le_of_ble_eq_true rfl) dX6_chance_93 ⟨Nat.le_of_ble_eq_true rfl, Nat.le_of_ble_eq_true rfl⟩ (fun H locs I => ?_)
          exact kx_iret 96 C I hf dX6_chance_96
        · have hf := ifp c18 hf
          refine kx_aload_n 81 C dX6_chance_81 (lv_at hl 0 rfl) ?_
          obtain ⟨h26, hf⟩ := ift hf
          obtain ⟨x25, S23, h24, hf⟩ := ob2 hf
          refine kx_callVi 82 C hl I (ci := 5) (As := []) (rest := []) (c_X6_no G l fu _ _ _ _ h24) (cwV 0 C.ts gX6_chance_X6_no rfl rfl rfl nyV_X6_no ⟨Nat.le_of_ble_eq_true rfl, Nat.le_of_ble_eq_true rfl⟩) rfl h26 rfl rfl (Nat.le_of_ble_eq_true rfl) dX6_chance_82 ⟨Nat.le_of_ble_eq_true rfl, Nat.le_of_ble_eq_true rfl⟩ (fun H locs I => ?_)
          refine kx_goto 85 96 C dX6_chance_85 (by decide) ?_
          exact kx_iret 96 C I hf dX6_chance_96
      · have hf := ifn c17 hf
        refine kx_aload_n 37 C dX6_chance_37 (lv_at hl 0 rfl) ?_
        refine kx_iload 38 C dX6_chance_38 (lv_at hl 4 rfl) ?_
        obtain ⟨h30, hf⟩ := ift hf
        obtain ⟨z29, S27, h28, hf⟩ := ob2 hf
        refine kx_callVv 40 C hl I (ci := 5) (As := [.int (iI i3)]) (rest := []) (c_X6_takeRank G l fu _ _ _ _ _ h28) (cwV 1 C.ts gX6_chance_X6_takeRank rfl rfl rfl nyV_X6_takeRank ⟨Nat.le_of_ble_eq_true rfl, Nat.le_of_ble_eq_true rfl⟩) rfl h30 rfl rfl (Nat.le_of_ble_eq_true rfl) dX6_chance_40 ⟨Nat.le_of_ble_eq_true rfl, Nat.le_of_ble_eq_true rfl⟩ (fun H locs I => ?_)
        refine kx_aload_n 43 C dX6_chance_43 (lv_at hl 0 rfl) ?_
        obtain ⟨h34, hf⟩ := ift hf
        obtain ⟨x33, S31, h32, hf⟩ := ob2 hf
        refine kx_callVi 44 C hl I (ci := 5) (As := []) (rest := []) (c_X6_isSo G l fu _ _ _ _ h32) (cwV 0 C.ts gX6_chance_X6_isSo rfl rfl rfl nyV_X6_isSo ⟨Nat.le_of_ble_eq_true rfl, Nat.le_of_ble_eq_true rfl⟩) rfl h34 rfl rfl (Nat.le_of_ble_eq_true rfl) dX6_chance_44 ⟨Nat.le_of_ble_eq_true rfl, Nat.le_of_ble_eq_true rfl⟩ (fun H locs I => ?_)
        refine kx_if_eq 47 71 C dX6_chance_47 (by decide) (fun c35 => ?_) (fun c35 => ?_)
        · have hf := ifp c35 hf
          exact ih3 _ _ _ _ _ _ _ _ _ _ hf I (lv_sub hl [0, 1, 2, 3, 4] rfl)
        · have hf := ifn c35 hf
          obtain ⟨x36, e37, hf⟩ := nmx_e hf
          refine kx_iinc 50 C (lv' := [(2, .int (iI x36)), (0, .ref (xB G + p0)), (1, .int (iI i0)), (3, .int (iI i2)), (4, .int (iI i3))]) dX6_chance_50 hl 2 rfl e37 (by decide) rfl (fun ls hl => ?_)
          refine kx_iload_n 53 C dX6_chance_53 (lv_at hl 3 rfl) ?_
          refine kx_aload_n 54 C dX6_chance_54 (lv_at hl 1 rfl) ?_
          obtain ⟨h41, hf⟩ := ift hf
          obtain ⟨x40, S38, h39, hf⟩ := ob2 hf
          refine kx_callVi 55 C hl I (ci := 5) (As := []) (rest := [.int (iI i2)]) (c_X6_findsHand G l fu _ _ _ _ h39) (cwV 0 C.ts gX6_chance_X6_findsHand rfl rfl rfl nyV_X6_findsHand ⟨Nat.le_of_ble_eq_true rfl, Nat.le_of_ble_eq_true rfl⟩) rfl h41 rfl rfl (Nat.le_of_ble_eq_true rfl) dX6_chance_55 ⟨Nat.le_of_ble_eq_true rfl, Nat.le_of_ble_eq_true rfl⟩ (fun H locs I => ?_)
          refine kx_iload_n 58 C dX6_chance_58 (lv_at hl 2 rfl) ?_
          refine kx_iand 59 C dX6_chance_59 ?_
          refine kx_iload_n 60 C dX6_chance_60 (lv_at hl 2 rfl) ?_
          refine kx_icmp_ne 61 68 C dX6_chance_61 (by decide) (fun c42 => ?_) (fun c42 => ?_)
          · have hf := ifn c42 hf
            refine kx_iconst 68 C dX6_chance_68 ?_
            exact ih2 _ _ _ _ _ _ _ _ _ _ hf I (lv_sub hl [1, 2, 0, 4] rfl)
          · have hf := ifp c42 hf
            refine kx_iconst 64 C dX6_chance_64 ?_
            refine kx_goto 65 69 C dX6_chance_65 (by decide) ?_
            exact ih2 _ _ _ _ _ _ _ _ _ _ hf I (lv_sub hl [1, 2, 0, 4] rfl)
    · intro S p0 i0 i1 i2 i3 i4 H locs ls hf I hl
      replace hf : b_X6_chance_2 (g_X6_chance fu) fu S p0 i0 i1 i2 i3 i4 = some (r, S') := hf
      unfold b_X6_chance_2 at hf
      refine kx_iadd 69 C dX6_chance_69 ?_
      obtain ⟨x43, e44, hf⟩ := nmx_e hf
      refine kx_istore_n 70 C (lv' := [(3, .int (iI x43)), (0, .ref (xB G + p0)), (1, .int (iI i0)), (2, .int (iI i1)), (4, .int (iI i2))]) dX6_chance_70 hl (by decide) e44 rfl (fun ls hl => ?_)
      exact ih3 _ _ _ _ _ _ _ _ _ _ hf I (lv_sub hl [1, 2, 3, 0, 4] rfl)
    · intro S p0 i0 i1 i2 i3 i4 H locs ls hf I hl
      replace hf : b_X6_chance_3 (g_X6_chance fu) fu S p0 i0 i1 i2 i3 i4 = some (r, S') := hf
      unfold b_X6_chance_3 at hf
      obtain ⟨x45, e46, hf⟩ := nmx_e hf
      refine kx_iinc 71 C (lv' := [(4, .int (iI x45)), (0, .ref (xB G + p0)), (1, .int (iI i0)), (2, .int (iI i1)), (3, .int (iI i2))]) dX6_chance_71 hl 4 rfl e46 (by decide) rfl (fun ls hl => ?_)
      refine kx_goto 74 28 C dX6_chance_74 (by decide) ?_
      exact ih1 _ _ _ _ _ _ _ _ _ _ hf I (lv_sub hl [1, 2, 3, 4, 0] rfl)
set_option maxHeartbeats 4000000 in
set_option maxRecDepth 100000 in
theorem c_X6_chance (G : xG) (l : Launch) (fu : Nat) (S S' : xS) (p0 : Nat) (i0 : Int) (r : Int) (hf : f_X6_chance fu S p0 i0 = some (r, S')) : Met l yX6_chance vsX6_chance rm_X6_chance (va_Pc [.ref (xB G + p0), .int (iI i0)] (xPre G S)) (xQi G r S') 0 0 (xA G) := by
  refine kx_met (ret := (some .int)) RX6 [(0, .ref (xB G + p0)), (1, .int (iI i0))] (by decide) rfl rfl (Nat.le_of_ble_eq_true rfl) rfl (fun p e s m below meth c ls C hin I hl => ?_)
  exact (w_X6_chance C r S' fu).1 S _ _ _ _ _ _ _ _ _ hf I hl
def rm_X6_look : Room := { frames := 5, cells := 0, slots := 0, locals := 113 }
theorem hin_X6_look_RX6 : ∀ w ∈ wsX60, w ∈ vsX6_look := fun w h => inM (inlX6 w h)
theorem fl_X6_look_7 : xFl vsX6_look RX6 7 5 0 := ⟨RX6, TX6, 30, rfl, by decide, hin_X6_look_RX6, inM mq_4_16, rfl⟩
theorem fl_X6_look_27 : xFl vsX6_look RX6 27 5 6 := ⟨RX6, TX6, 30, rfl, by decide, hin_X6_look_RX6, inM mq_4_22, rfl⟩
theorem fl_X6_look_48 : xFl vsX6_look RX6 48 5 18 := ⟨RX6, TX6, 30, rfl, by decide, hin_X6_look_RX6, inM mq_5_5, rfl⟩
theorem mw_X6_look_0 : Cond.constantLong RX6 233 (-1) ∈ vsX6_look := inM mq_40_17
theorem nyS_X6_look : yX6_look.cls ≠ "java/lang/invoke/MethodHandle" ∧ yX6_look.cls ≠ "java/lang/invoke/VarHandle" ∧ (parseMethodDescriptor yX6_look.desc).map (fun d => d.parameters.length) = some 0 := by decide +kernel
theorem nyV_X6_look : yX6_look.cls = RX6 ∧ yX6_look.cls ≠ "java/lang/invoke/MethodHandle" ∧ yX6_look.cls ≠ "java/lang/invoke/VarHandle" ∧ (parseMethodDescriptor yX6_look.desc).map (fun d => d.parameters.length) = some 0 := by decide +kernel
set_option maxHeartbeats 4000000 in
set_option maxRecDepth 100000 in
theorem w_X6_look {G : xG} {p : Program} {l : Launch} {e : Env} {s : State} {m : MethodId} {args : Array Value} {below : List Frame} {meth : Method} {c : Code} (C : xK G p s m args meth c cX6_look 9 vsX6_look RX6 (some .int)) (r : Int) (S' : xS) : ∀ k : Nat,
  (∀ (S : xS) (p0 : Nat) (i0 i1 i2 i3 i4 i5 : Int) (H : Heap) (locs : List Loc) (ls : Array Slot), g_X6_look k 0 S p0 i0 i1 i2 i3 i4 i5 = some (r, S') → xI G S s H locs → lv_has ls 9 [(0, .ref (xB G + p0))] → W p l e rm_X6_look s m args below meth c H locs 0 0 (MQ below (xQi G r S') args s 0 0 (xA G)) (F0 m 0 ls [])) ∧
  (∀ (S : xS) (p0 : Nat) (i0 i1 i2 i3 i4 i5 : Int) (H : Heap) (locs : List Loc) (ls : Array Slot), g_X6_look k 1 S p0 i0 i1 i2 i3 i4 i5 = some (r, S') → xI G S s H locs → lv_has ls 9 [(0, .ref (xB G + p0)), (1, .int (iI i0))] → W p l e rm_X6_look s m args below meth c H locs 0 0 (MQ below (xQi G r S') args s 0 0 (xA G)) (F0 m 2 ls [])) ∧
  (∀ (S : xS) (p0 : Nat) (i0 i1 i2 i3 i4 i5 : Int) (H : Heap) (locs : List Loc) (ls : Array Slot), g_X6_look k 2 S p0 i0 i1 i2 i3 i4 i5 = some (r, S') → xI G S s H locs → lv_has ls 9 [(0, .ref (xB G + p0)), (1, .int (iI i0)), (2, .int (iI i1))] → W p l e rm_X6_look s m args below meth c H locs 0 0 (MQ below (xQi G r S') args s 0 0 (xA G)) (F0 m 25 ls [])) ∧
  (∀ (S : xS) (p0 : Nat) (i0 i1 i2 i3 i4 i5 : Int) (H : Heap) (locs : List Loc) (ls : Array Slot), g_X6_look k 3 S p0 i0 i1 i2 i3 i4 i5 = some (r, S') → xI G S s H locs → lv_has ls 9 [(0, .ref (xB G + p0)), (1, .int (iI i0)), (2, .int (iI i1)), (3, .int (iI i2))] → W p l e rm_X6_look s m args below meth c H locs 0 0 (MQ below (xQi G r S') args s 0 0 (xA G)) (F0 m 50 ls [])) ∧
  (∀ (S : xS) (p0 : Nat) (i0 i1 i2 i3 i4 i5 : Int) (H : Heap) (locs : List Loc) (ls : Array Slot), g_X6_look k 4 S p0 i0 i1 i2 i3 i4 i5 = some (r, S') → xI G S s H locs → lv_has ls 9 [(0, .ref (xB G + p0)), (1, .int (iI i0)), (2, .int (iI i1))] → W p l e rm_X6_look s m args below meth c H locs 0 0 (MQ below (xQi G r S') args s 0 0 (xA G)) (F0 m 84 ls [])) ∧
  (∀ (S : xS) (p0 : Nat) (i0 i1 i2 i3 i4 i5 : Int) (H : Heap) (locs : List Loc) (ls : Array Slot), g_X6_look k 5 S p0 i0 i1 i2 i3 i4 i5 = some (r, S') → xI G S s H locs → lv_has ls 9 [(0, .ref (xB G + p0)), (1, .int (iI i0)), (2, .int (iI i1)), (3, .long (lI i2)), (5, .int (iI i3))] → W p l e rm_X6_look s m args below meth c H locs 0 0 (MQ below (xQi G r S') args s 0 0 (xA G)) (F0 m 108 ls [])) ∧
  (∀ (S : xS) (p0 : Nat) (i0 i1 i2 i3 i4 i5 : Int) (H : Heap) (locs : List Loc) (ls : Array Slot), g_X6_look k 6 S p0 i0 i1 i2 i3 i4 i5 = some (r, S') → xI G S s H locs → lv_has ls 9 [(0, .ref (xB G + p0)), (1, .int (iI i0)), (2, .int (iI i1)), (3, .long (lI i2)), (5, .int (iI i3)), (6, .long (lI i4)), (8, .int (iI i5))] → W p l e rm_X6_look s m args below meth c H locs 0 0 (MQ below (xQi G r S') args s 0 0 (xA G)) (F0 m 123 ls [])) ∧
  (∀ (S : xS) (p0 : Nat) (i0 i1 i2 i3 i4 i5 : Int) (H : Heap) (locs : List Loc) (ls : Array Slot), g_X6_look k 7 S p0 i0 i1 i2 i3 i4 i5 = some (r, S') → xI G S s H locs → lv_has ls 9 [(0, .ref (xB G + p0)), (1, .int (iI i0)), (2, .int (iI i1)), (3, .long (lI i2)), (5, .int (iI i3)), (6, .long (lI i4))] → W p l e rm_X6_look s m args below meth c H locs 0 0 (MQ below (xQi G r S') args s 0 0 (xA G)) (F0 m 198 ls [])) ∧
  (∀ (S : xS) (p0 : Nat) (i0 i1 i2 i3 i4 i5 : Int) (H : Heap) (locs : List Loc) (ls : Array Slot), g_X6_look k 8 S p0 i0 i1 i2 i3 i4 i5 = some (r, S') → xI G S s H locs → lv_has ls 9 [(0, .ref (xB G + p0)), (1, .int (iI i0)), (2, .int (iI i1)), (3, .long (lI i2)), (5, .int (iI i3)), (6, .long (lI i4))] → W p l e rm_X6_look s m args below meth c H locs 0 0 (MQ below (xQi G r S') args s 0 0 (xA G)) (F0 m 202 ls [])) ∧
  (∀ (S : xS) (p0 : Nat) (i0 i1 i2 i3 i4 i5 : Int) (H : Heap) (locs : List Loc) (ls : Array Slot), g_X6_look k 9 S p0 i0 i1 i2 i3 i4 i5 = some (r, S') → xI G S s H locs → lv_has ls 9 [(0, .ref (xB G + p0)), (1, .int (iI i0)), (2, .int (iI i1)), (3, .long (lI i2)), (5, .int (iI i3)), (6, .long (lI i4))] → W p l e rm_X6_look s m args below meth c H locs 0 0 (MQ below (xQi G r S') args s 0 0 (xA G)) (F0 m 203 ls [.int (iI i5)])) ∧
  (∀ (S : xS) (p0 : Nat) (i0 i1 i2 i3 i4 i5 : Int) (H : Heap) (locs : List Loc) (ls : Array Slot), g_X6_look k 10 S p0 i0 i1 i2 i3 i4 i5 = some (r, S') → xI G S s H locs → lv_has ls 9 [(0, .ref (xB G + p0)), (1, .int (iI i0)), (3, .long (lI i1)), (5, .int (iI i2)), (6, .long (lI i3)), (8, .int (iI i4))] → W p l e rm_X6_look s m args below meth c H locs 0 0 (MQ below (xQi G r S') args s 0 0 (xA G)) (F0 m 216 ls [.int (iI i5)])) ∧
  (∀ (S : xS) (p0 : Nat) (i0 i1 i2 i3 i4 i5 : Int) (H : Heap) (locs : List Loc) (ls : Array Slot), g_X6_look k 11 S p0 i0 i1 i2 i3 i4 i5 = some (r, S') → xI G S s H locs → lv_has ls 9 [(0, .ref (xB G + p0)), (1, .int (iI i0)), (2, .int (iI i1)), (5, .int (iI i2))] → W p l e rm_X6_look s m args below meth c H locs 0 0 (MQ below (xQi G r S') args s 0 0 (xA G)) (F0 m 228 ls [.long (lI i3)])) := by
  intro k
  induction k with
  | zero => exact ⟨fun _ _ _ _ _ _ _ _ _ _ _ hf => (by cases hf), fun _ _ _ _ _ _ _ _ _ _ _ hf => (by cases hf), fun _ _ _ _ _ _ _ _ _ _ _ hf => (by cases hf), fun _ _ _ _ _ _ _ _ _ _ _ hf => (by cases hf), fun _ _ _ _ _ _ _ _ _ _ _ hf => (by cases hf), fun _ _ _ _ _ _ _ _ _ _ _ hf => (by cases hf), fun _ _ _ _ _ _ _ _ _ _ _ hf => (by cases hf), fun _ _ _ _ _ _ _ _ _ _ _ hf => (by cases hf), fun _ _ _ _ _ _ _ _ _ _ _ hf => (by cases hf), fun _ _ _ _ _ _ _ _ _ _ _ hf => (by cases hf), fun _ _ _ _ _ _ _ _ _ _ _ hf => (by cases hf), fun _ _ _ _ _ _ _ _ _ _ _ hf => (by cases hf)⟩
  | succ fu ih =>
    obtain ⟨ih0, ih1, ih2, ih3, ih4, ih5, ih6, ih7, ih8, ih9, ih10, ih11⟩ := ih
    refine ⟨?_, ?_, ?_, ?_, ?_, ?_, ?_, ?_, ?_, ?_, ?_, ?_⟩
    · intro S p0 i0 i1 i2 i3 i4 i5 H locs ls hf I hl
      replace hf : b_X6_look_0 (g_X6_look fu) fu S p0 i0 i1 i2 i3 i4 i5 = some (r, S') := hf
      unfold b_X6_look_0 at hf
      refine kx_iconst 0 C dX6_look_0 ?_
      refine kx_istore_n 1 C (lv' := [(1, .int (iI 0)), (0, .ref (xB G + p0))]) dX6_look_1 hl (by decide) rfl rfl (fun ls hl => ?_)
      exact ih1 _ _ _ _ _ _ _ _ _ _ _ hf I (lv_sub hl [1, 0] rfl)
    · intro S p0 i0 i1 i2 i3 i4 i5 H locs ls hf I hl
      replace hf : b_X6_look_1 (g_X6_look fu) fu S p0 i0 i1 i2 i3 i4 i5 = some (r, S') := hf
      unfold b_X6_look_1 at hf
      refine kx_iload_n 2 C dX6_look_2 (lv_at hl 1 rfl) ?_
      refine kx_bipush 3 C dX6_look_3 (by decide) ?_
      refine kx_icmp_ge 5 21 C dX6_look_5 (by decide) (fun c1 => ?_) (fun c1 => ?_)
      · have hf := ifp c1 hf
        refine kx_iconst 21 C dX6_look_21 ?_
        refine kx_istore_n 22 C (lv' := [(1, .int (iI 0)), (0, .ref (xB G + p0))]) dX6_look_22 hl (by decide) rfl rfl (fun ls hl => ?_)
        refine kx_iconst 23 C dX6_look_23 ?_
        refine kx_istore_n 24 C (lv' := [(2, .int (iI 0)), (1, .int (iI 0)), (0, .ref (xB G + p0))]) dX6_look_24 hl (by decide) rfl rfl (fun ls hl => ?_)
        exact ih2 _ _ _ _ _ _ _ _ _ _ _ hf I (lv_sub hl [2, 1, 0] rfl)
      · have hf := ifn c1 hf
        refine kx_aload_n 8 C dX6_look_8 (lv_at hl 0 rfl) ?_
        obtain ⟨q3, h2, hf⟩ := ob hf
        refine kx_getp 9 C I fl_X6_look_48 h2 dX6_look_9 ?_
        refine kx_iload_n 12 C dX6_look_12 (lv_at hl 1 rfl) ?_
        refine kx_iconst 13 C dX6_look_13 ?_
        obtain ⟨S5, h4, hf⟩ := ob hf
        refine kx_iast 14 C I h4 dX6_look_14 (fun H locs I => ?_)
        obtain ⟨x6, e7, hf⟩ := nmx_e hf
        refine kx_iinc 15 C (lv' := [(1, .int (iI x6)), (0, .ref (xB G + p0))]) dX6_look_15 hl 1 rfl e7 (by decide) rfl (fun ls hl => ?_)
        refine kx_goto 18 2 C dX6_look_18 (by decide) ?_
        exact ih1 _ _ _ _ _ _ _ _ _ _ _ hf I (lv_sub hl [1, 0] rfl)
    · intro S p0 i0 i1 i2 i3 i4 i5 H locs ls hf I hl
      replace hf : b_X6_look_2 (g_X6_look fu) fu S p0 i0 i1 i2 i3 i4 i5 = some (r, S') := hf
      unfold b_X6_look_2 at hf
      refine kx_iload_n 25 C dX6_look_25 (lv_at hl 2 rfl) ?_
      refine kx_aload_n 26 C dX6_look_26 (lv_at hl 0 rfl) ?_
      obtain ⟨h11, hf⟩ := ift hf
      obtain ⟨x10, S8, h9, hf⟩ := ob2 hf
      refine kx_callVi 27 C hl I (ci := 5) (As := []) (rest := [.int (iI i1)]) (c_X6_ways G l fu _ _ _ _ h9) (cwV 0 C.ts gX6_look_X6_ways rfl rfl rfl nyV_X6_ways ⟨Nat.le_of_ble_eq_true rfl, Nat.le_of_ble_eq_true rfl⟩) rfl h11 rfl rfl (Nat.le_of_ble_eq_true rfl) dX6_look_27 ⟨Nat.le_of_ble_eq_true rfl, Nat.le_of_ble_eq_true rfl⟩ (fun H locs I => ?_)
      refine kx_icmp_ge 30 90 C dX6_look_30 (by decide) (fun c12 => ?_) (fun c12 => ?_)
      · have hf := ifp c12 hf
        refine kx_iload_n 90 C dX6_look_90 (lv_at hl 1 rfl) ?_
        refine kx_if_ne 91 99 C dX6_look_91 (by decide) (fun c13 => ?_) (fun c13 => ?_)
        · have hf := ifn c13 hf
          refine kx_iconst 99 C dX6_look_99 ?_
          refine kx_istore_n 100 C (lv' := [(2, .int (iI ((-1)))), (0, .ref (xB G + p0)), (1, .int (iI i0))]) dX6_look_100 hl (by decide) rfl rfl (fun ls hl => ?_)
          refine kx_ldc2 101 C (z := (-1)) mw_X6_look_0 dX6_look_101 (by decide) ?_
          refine kx_lstore_n 104 C (lv' := [(3, .long (lI ((-1)))), (2, .int (iI ((-1)))), (0, .ref (xB G + p0)), (1, .int (iI i0))]) dX6_look_104 hl (by decide) rfl rfl (fun ls hl => ?_)
          refine kx_iconst 105 C dX6_look_105 ?_
          refine kx_istore 106 C (lv' := [(5, .int (iI 0)), (3, .long (lI ((-1)))), (2, .int (iI ((-1)))), (0, .ref (xB G + p0)), (1, .int (iI i0))]) dX6_look_106 hl (by decide) rfl rfl (fun ls hl => ?_)
          exact ih5 _ _ _ _ _ _ _ _ _ _ _ hf I (lv_sub hl [3, 4, 2, 1, 0] rfl)
        · have hf := ifp c13 hf
          refine kx_aload_n 94 C dX6_look_94 (lv_at hl 0 rfl) ?_
          obtain ⟨h17, hf⟩ := ift hf
          obtain ⟨x16, S14, h15, hf⟩ := ob2 hf
          refine kx_callVi 95 C hl I (ci := 5) (As := []) (rest := []) (c_X6_no G l fu _ _ _ _ h15) (cwV 0 C.ts gX6_look_X6_no rfl rfl rfl nyV_X6_no ⟨Nat.le_of_ble_eq_true rfl, Nat.le_of_ble_eq_true rfl⟩) rfl h17 rfl rfl (Nat.le_of_ble_eq_true rfl) dX6_look_95 ⟨Nat.le_of_ble_eq_true rfl, Nat.le_of_ble_eq_true rfl⟩ (fun H locs I => ?_)
          exact kx_iret 98 C I hf dX6_look_98
      · have hf := ifn c12 hf
        refine kx_aload_n 33 C dX6_look_33 (lv_at hl 0 rfl) ?_
        refine kx_iload_n 34 C dX6_look_34 (lv_at hl 2 rfl) ?_
        obtain ⟨h21, hf⟩ := ift hf
        obtain ⟨z20, S18, h19, hf⟩ := ob2 hf
        refine kx_callVv 35 C hl I (ci := 5) (As := [.int (iI i1)]) (rest := []) (c_X6_takeRank G l fu _ _ _ _ _ h19) (cwV 1 C.ts gX6_look_X6_takeRank rfl rfl rfl nyV_X6_takeRank ⟨Nat.le_of_ble_eq_true rfl, Nat.le_of_ble_eq_true rfl⟩) rfl h21 rfl rfl (Nat.le_of_ble_eq_true rfl) dX6_look_35 ⟨Nat.le_of_ble_eq_true rfl, Nat.le_of_ble_eq_true rfl⟩ (fun H locs I => ?_)
        refine kx_aload_n 38 C dX6_look_38 (lv_at hl 0 rfl) ?_
        obtain ⟨h25, hf⟩ := ift hf
        obtain ⟨x24, S22, h23, hf⟩ := ob2 hf
        refine kx_callVi 39 C hl I (ci := 5) (As := []) (rest := []) (c_X6_isSo G l fu _ _ _ _ h23) (cwV 0 C.ts gX6_look_X6_isSo rfl rfl rfl nyV_X6_isSo ⟨Nat.le_of_ble_eq_true rfl, Nat.le_of_ble_eq_true rfl⟩) rfl h25 rfl rfl (Nat.le_of_ble_eq_true rfl) dX6_look_39 ⟨Nat.le_of_ble_eq_true rfl, Nat.le_of_ble_eq_true rfl⟩ (fun H locs I => ?_)
        refine kx_if_eq 42 84 C dX6_look_42 (by decide) (fun c26 => ?_) (fun c26 => ?_)
        · have hf := ifp c26 hf
          exact ih4 _ _ _ _ _ _ _ _ _ _ _ hf I (lv_sub hl [0, 1, 2] rfl)
        · have hf := ifn c26 hf
          obtain ⟨x27, e28, hf⟩ := nmx_e hf
          refine kx_iinc 45 C (lv' := [(1, .int (iI x27)), (0, .ref (xB G + p0)), (2, .int (iI i1))]) dX6_look_45 hl 1 rfl e28 (by decide) rfl (fun ls hl => ?_)
          refine kx_iconst 48 C dX6_look_48 ?_
          refine kx_istore_n 49 C (lv' := [(3, .int (iI 0)), (1, .int (iI x27)), (0, .ref (xB G + p0)), (2, .int (iI i1))]) dX6_look_49 hl (by decide) rfl rfl (fun ls hl => ?_)
          exact ih3 _ _ _ _ _ _ _ _ _ _ _ hf I (lv_sub hl [2, 1, 3, 0] rfl)
    · intro S p0 i0 i1 i2 i3 i4 i5 H locs ls hf I hl
      replace hf : b_X6_look_3 (g_X6_look fu) fu S p0 i0 i1 i2 i3 i4 i5 = some (r, S') := hf
      unfold b_X6_look_3 at hf
      refine kx_iload_n 50 C dX6_look_50 (lv_at hl 3 rfl) ?_
      refine kx_aload_n 51 C dX6_look_51 (lv_at hl 0 rfl) ?_
      obtain ⟨h32, hf⟩ := ift hf
      obtain ⟨x31, S29, h30, hf⟩ := ob2 hf
      refine kx_callVi 52 C hl I (ci := 5) (As := []) (rest := [.int (iI i2)]) (c_X6_n G l fu _ _ _ _ h30) (cwV 0 C.ts gX6_look_X6_n rfl rfl rfl nyV_X6_n ⟨Nat.le_of_ble_eq_true rfl, Nat.le_of_ble_eq_true rfl⟩) rfl h32 rfl rfl (Nat.le_of_ble_eq_true rfl) dX6_look_52 ⟨Nat.le_of_ble_eq_true rfl, Nat.le_of_ble_eq_true rfl⟩ (fun H locs I => ?_)
      refine kx_icmp_ge 55 84 C dX6_look_55 (by decide) (fun c33 => ?_) (fun c33 => ?_)
      · have hf := ifp c33 hf
        exact ih4 _ _ _ _ _ _ _ _ _ _ _ hf I (lv_sub hl [0, 1, 2] rfl)
      · have hf := ifn c33 hf
        refine kx_aload_n 58 C dX6_look_58 (lv_at hl 0 rfl) ?_
        obtain ⟨q35, h34, hf⟩ := ob hf
        refine kx_getp 59 C I fl_X6_look_48 h34 dX6_look_59 ?_
        refine kx_bipush 62 C dX6_look_62 (by decide) ?_
        refine kx_iload_n 64 C dX6_look_64 (lv_at hl 3 rfl) ?_
        refine kx_imul 65 C dX6_look_65 ?_
        refine kx_aload_n 66 C dX6_look_66 (lv_at hl 0 rfl) ?_
        obtain ⟨q37, h36, hf⟩ := ob hf
        refine kx_getp 67 C I fl_X6_look_27 h36 dX6_look_67 ?_
        refine kx_iload_n 70 C dX6_look_70 (lv_at hl 3 rfl) ?_
        obtain ⟨x38, h39, hf⟩ := ob hf
        refine kx_iald 71 C I h39 dX6_look_71 ?_
        refine kx_iadd 72 C dX6_look_72 ?_
        refine kx_dup2 73 C dX6_look_73 rfl rfl ?_
        obtain ⟨x40, h41, hf⟩ := ob hf
        refine kx_iald 74 C I h41 dX6_look_74 ?_
        refine kx_iconst 75 C dX6_look_75 ?_
        refine kx_iadd 76 C dX6_look_76 ?_
        obtain ⟨S43, h42, hf⟩ := ob hf
        refine kx_iast 77 C I h42 dX6_look_77 (fun H locs I => ?_)
        obtain ⟨x44, e45, hf⟩ := nmx_e hf
        refine kx_iinc 78 C (lv' := [(3, .int (iI x44)), (0, .ref (xB G + p0)), (1, .int (iI i0)), (2, .int (iI i1))]) dX6_look_78 hl 3 rfl e45 (by decide) rfl (fun ls hl => ?_)
        refine kx_goto 81 50 C dX6_look_81 (by decide) ?_
        exact ih3 _ _ _ _ _ _ _ _ _ _ _ hf I (lv_sub hl [1, 2, 3, 0] rfl)
    · intro S p0 i0 i1 i2 i3 i4 i5 H locs ls hf I hl
      replace hf : b_X6_look_4 (g_X6_look fu) fu S p0 i0 i1 i2 i3 i4 i5 = some (r, S') := hf
      unfold b_X6_look_4 at hf
      obtain ⟨x46, e47, hf⟩ := nmx_e hf
      refine kx_iinc 84 C (lv' := [(2, .int (iI x46)), (0, .ref (xB G + p0)), (1, .int (iI i0))]) dX6_look_84 hl 2 rfl e47 (by decide) rfl (fun ls hl => ?_)
      refine kx_goto 87 25 C dX6_look_87 (by decide) ?_
      exact ih2 _ _ _ _ _ _ _ _ _ _ _ hf I (lv_sub hl [1, 2, 0] rfl)
    · intro S p0 i0 i1 i2 i3 i4 i5 H locs ls hf I hl
      replace hf : b_X6_look_5 (g_X6_look fu) fu S p0 i0 i1 i2 i3 i4 i5 = some (r, S') := hf
      unfold b_X6_look_5 at hf
      refine kx_iload 108 C dX6_look_108 (lv_at hl 4 rfl) ?_
      refine kx_aload_n 110 C dX6_look_110 (lv_at hl 0 rfl) ?_
      obtain ⟨h51, hf⟩ := ift hf
      obtain ⟨x50, S48, h49, hf⟩ := ob2 hf
      refine kx_callVi 111 C hl I (ci := 5) (As := []) (rest := [.int (iI i3)]) (c_X6_n G l fu _ _ _ _ h49) (cwV 0 C.ts gX6_look_X6_n rfl rfl rfl nyV_X6_n ⟨Nat.le_of_ble_eq_true rfl, Nat.le_of_ble_eq_true rfl⟩) rfl h51 rfl rfl (Nat.le_of_ble_eq_true rfl) dX6_look_111 ⟨Nat.le_of_ble_eq_true rfl, Nat.le_of_ble_eq_true rfl⟩ (fun H locs I => ?_)
      refine kx_icmp_ge 114 235 C dX6_look_114 (by decide) (fun c52 => ?_) (fun c52 => ?_)
      · have hf := ifp c52 hf
        refine kx_iload_n 235 C dX6_look_235 (lv_at hl 2 rfl) ?_
        refine kx_iconst 236 C dX6_look_236 ?_
        refine kx_icmp_ne 237 244 C dX6_look_237 (by decide) (fun c53 => ?_) (fun c53 => ?_)
        · have hf := ifn c53 hf
          refine kx_aload_n 244 C dX6_look_244 (lv_at hl 0 rfl) ?_
          refine kx_lload_n 245 C dX6_look_245 (lv_at hl 3 rfl) ?_
          refine kx_iload_n 246 C dX6_look_246 (lv_at hl 1 rfl) ?_
          refine kx_i2l 247 C dX6_look_247 ?_
          obtain ⟨h57, hf⟩ := ift hf
          obtain ⟨x56, S54, h55, hf⟩ := ob2 hf
          refine kx_callVi 248 C hl I (ci := 5) (As := [.long (lI i2), .long (lI (wI i0))]) (rest := []) (c_X6_tell G l fu _ _ _ _ _ _ h55) (cwV 2 C.ts gX6_look_X6_tell rfl rfl rfl nyV_X6_tell ⟨Nat.le_of_ble_eq_true rfl, Nat.le_of_ble_eq_true rfl⟩) rfl h57 rfl rfl (Nat.le_of_ble_eq_true rfl) dX6_look_248 ⟨Nat.le_of_ble_eq_true rfl, Nat.le_of_ble_eq_true rfl⟩ (fun H locs I => ?_)
          refine kx_istore 251 C (lv' := [(5, .int (iI x56)), (0, .ref (xB G + p0)), (1, .int (iI i0)), (2, .int (iI i1)), (3, .long (lI i2))]) dX6_look_251 hl (by decide) rfl rfl (fun ls hl => ?_)
          refine kx_iload_n 253 C dX6_look_253 (lv_at hl 3 rfl) ?_
          exact kx_iret 254 C I hf dX6_look_254
        · have hf := ifp c53 hf
          refine kx_iconst 240 C dX6_look_240 ?_
          refine kx_goto 241 251 C dX6_look_241 (by decide) ?_
          refine kx_istore 251 C (lv' := [(5, .int (iI 0)), (0, .ref (xB G + p0)), (1, .int (iI i0)), (2, .int (iI i1)), (3, .long (lI i2))]) dX6_look_251 hl (by decide) rfl rfl (fun ls hl => ?_)
          refine kx_iload_n 253 C dX6_look_253 (lv_at hl 3 rfl) ?_
          exact kx_iret 254 C I hf dX6_look_254
      · have hf := ifn c52 hf
        refine kx_lconst 117 C (z := 0) dX6_look_117 rfl ?_
        refine kx_lstore 118 C (lv' := [(6, .long (lI 0)), (0, .ref (xB G + p0)), (1, .int (iI i0)), (2, .int (iI i1)), (3, .long (lI i2)), (5, .int (iI i3))]) dX6_look_118 hl (by decide) rfl rfl (fun ls hl => ?_)
        refine kx_iconst 120 C dX6_look_120 ?_
        refine kx_istore 121 C (lv' := [(8, .int (iI 0)), (6, .long (lI 0)), (0, .ref (xB G + p0)), (1, .int (iI i0)), (2, .int (iI i1)), (3, .long (lI i2)), (5, .int (iI i3))]) dX6_look_121 hl (by decide) rfl rfl (fun ls hl => ?_)
        exact ih6 _ _ _ _ _ _ _ _ _ _ _ hf I (lv_sub hl [2, 3, 4, 5, 6, 1, 0] rfl)
    · intro S p0 i0 i1 i2 i3 i4 i5 H locs ls hf I hl
      replace hf : b_X6_look_6 (g_X6_look fu) fu S p0 i0 i1 i2 i3 i4 i5 = some (r, S') := hf
      unfold b_X6_look_6 at hf
      refine kx_iload 123 C dX6_look_123 (lv_at hl 6 rfl) ?_
      refine kx_aload_n 125 C dX6_look_125 (lv_at hl 0 rfl) ?_
      obtain ⟨h61, hf⟩ := ift hf
      obtain ⟨x60, S58, h59, hf⟩ := ob2 hf
      refine kx_callVi 126 C hl I (ci := 5) (As := []) (rest := [.int (iI i5)]) (c_X6_n G l fu _ _ _ _ h59) (cwV 0 C.ts gX6_look_X6_n rfl rfl rfl nyV_X6_n ⟨Nat.le_of_ble_eq_true rfl, Nat.le_of_ble_eq_true rfl⟩) rfl h61 rfl rfl (Nat.le_of_ble_eq_true rfl) dX6_look_126 ⟨Nat.le_of_ble_eq_true rfl, Nat.le_of_ble_eq_true rfl⟩ (fun H locs I => ?_)
      refine kx_icmp_ge 129 172 C dX6_look_129 (by decide) (fun c62 => ?_) (fun c62 => ?_)
      · have hf := ifp c62 hf
        refine kx_aload_n 172 C dX6_look_172 (lv_at hl 0 rfl) ?_
        obtain ⟨q64, h63, hf⟩ := ob hf
        refine kx_getp 173 C I fl_X6_look_7 h63 dX6_look_173 ?_
        refine kx_bipush 176 C dX6_look_176 (by decide) ?_
        refine kx_iload 178 C dX6_look_178 (lv_at hl 4 rfl) ?_
        refine kx_iadd 180 C dX6_look_180 ?_
        obtain ⟨x65, h66, hf⟩ := ob hf
        refine kx_iald 181 C I h66 dX6_look_181 ?_
        refine kx_iconst 182 C dX6_look_182 ?_
        refine kx_icmp_ne 183 202 C dX6_look_183 (by decide) (fun c67 => ?_) (fun c67 => ?_)
        · have hf := ifn c67 hf
          exact ih8 _ _ _ _ _ _ _ _ _ _ _ hf I (lv_sub hl [0, 1, 2, 3, 4, 5] rfl)
        · have hf := ifp c67 hf
          refine kx_iload_n 186 C dX6_look_186 (lv_at hl 2 rfl) ?_
          refine kx_iconst 187 C dX6_look_187 ?_
          refine kx_icmp_eq 188 198 C dX6_look_188 (by decide) (fun c68 => ?_) (fun c68 => ?_)
          · have hf := ifp c68 hf
            exact ih7 _ _ _ _ _ _ _ _ _ _ _ hf I (lv_sub hl [0, 1, 2, 3, 4, 5] rfl)
          · have hf := ifn c68 hf
            refine kx_lload 191 C dX6_look_191 (lv_at hl 5 rfl) ?_
            refine kx_lload_n 193 C dX6_look_193 (lv_at hl 3 rfl) ?_
            refine kx_lcmp 194 C dX6_look_194 ?_
            refine kx_if_ge 195 202 C dX6_look_195 (by decide) (fun c69 => ?_) (fun c69 => ?_)
            · have hf := ifp c69 hf
              exact ih8 _ _ _ _ _ _ _ _ _ _ _ hf I (lv_sub hl [0, 1, 2, 3, 4, 5] rfl)
            · have hf := ifn c69 hf
              exact ih7 _ _ _ _ _ _ _ _ _ _ _ hf I (lv_sub hl [0, 1, 2, 3, 4, 5] rfl)
      · have hf := ifn c62 hf
        refine kx_lload 132 C dX6_look_132 (lv_at hl 5 rfl) ?_
        refine kx_aload_n 134 C dX6_look_134 (lv_at hl 0 rfl) ?_
        obtain ⟨q71, h70, hf⟩ := ob hf
        refine kx_getp 135 C I fl_X6_look_48 h70 dX6_look_135 ?_
        refine kx_bipush 138 C dX6_look_138 (by decide) ?_
        refine kx_iload 140 C dX6_look_140 (lv_at hl 4 rfl) ?_
        refine kx_imul 142 C dX6_look_142 ?_
        refine kx_iload 143 C dX6_look_143 (lv_at hl 6 rfl) ?_
        refine kx_iadd 145 C dX6_look_145 ?_
        obtain ⟨x72, h73, hf⟩ := ob hf
        refine kx_iald 146 C I h73 dX6_look_146 ?_
        refine kx_i2l 147 C dX6_look_147 ?_
        refine kx_aload_n 148 C dX6_look_148 (lv_at hl 0 rfl) ?_
        obtain ⟨q75, h74, hf⟩ := ob hf
        refine kx_getp 149 C I fl_X6_look_48 h74 dX6_look_149 ?_
        refine kx_bipush 152 C dX6_look_152 (by decide) ?_
        refine kx_iload 154 C dX6_look_154 (lv_at hl 4 rfl) ?_
        refine kx_imul 156 C dX6_look_156 ?_
        refine kx_iload 157 C dX6_look_157 (lv_at hl 6 rfl) ?_
        refine kx_iadd 159 C dX6_look_159 ?_
        obtain ⟨x76, h77, hf⟩ := ob hf
        refine kx_iald 160 C I h77 dX6_look_160 ?_
        refine kx_i2l 161 C dX6_look_161 ?_
        refine kx_lmul 162 C dX6_look_162 ?_
        refine kx_ladd 163 C dX6_look_163 ?_
        obtain ⟨x78, e79, hf⟩ := nmx_e hf
        refine kx_lstore 164 C (lv' := [(6, .long (lI x78)), (0, .ref (xB G + p0)), (1, .int (iI i0)), (2, .int (iI i1)), (3, .long (lI i2)), (5, .int (iI i3)), (8, .int (iI i5))]) dX6_look_164 hl (by decide) e79 rfl (fun ls hl => ?_)
        obtain ⟨x80, e81, hf⟩ := nmx_e hf
        refine kx_iinc 166 C (lv' := [(8, .int (iI x80)), (6, .long (lI x78)), (0, .ref (xB G + p0)), (1, .int (iI i0)), (2, .int (iI i1)), (3, .long (lI i2)), (5, .int (iI i3))]) dX6_look_166 hl 6 rfl e81 (by decide) rfl (fun ls hl => ?_)
        refine kx_goto 169 123 C dX6_look_169 (by decide) ?_
        exact ih6 _ _ _ _ _ _ _ _ _ _ _ hf I (lv_sub hl [2, 3, 4, 5, 6, 1, 0] rfl)
    · intro S p0 i0 i1 i2 i3 i4 i5 H locs ls hf I hl
      replace hf : b_X6_look_7 (g_X6_look fu) fu S p0 i0 i1 i2 i3 i4 i5 = some (r, S') := hf
      unfold b_X6_look_7 at hf
      refine kx_iconst 198 C dX6_look_198 ?_
      refine kx_goto 199 203 C dX6_look_199 (by decide) ?_
      exact ih9 _ _ _ _ _ _ _ _ _ _ _ hf I (lv_sub hl [0, 1, 2, 3, 4, 5] rfl)
    · intro S p0 i0 i1 i2 i3 i4 i5 H locs ls hf I hl
      replace hf : b_X6_look_8 (g_X6_look fu) fu S p0 i0 i1 i2 i3 i4 i5 = some (r, S') := hf
      unfold b_X6_look_8 at hf
      refine kx_iconst 202 C dX6_look_202 ?_
      exact ih9 _ _ _ _ _ _ _ _ _ _ _ hf I (lv_sub hl [0, 1, 2, 3, 4, 5] rfl)
    · intro S p0 i0 i1 i2 i3 i4 i5 H locs ls hf I hl
      replace hf : b_X6_look_9 (g_X6_look fu) fu S p0 i0 i1 i2 i3 i4 i5 = some (r, S') := hf
      unfold b_X6_look_9 at hf
      refine kx_istore 203 C (lv' := [(8, .int (iI i5)), (0, .ref (xB G + p0)), (1, .int (iI i0)), (2, .int (iI i1)), (3, .long (lI i2)), (5, .int (iI i3)), (6, .long (lI i4))]) dX6_look_203 hl (by decide) rfl rfl (fun ls hl => ?_)
      refine kx_iload 205 C dX6_look_205 (lv_at hl 0 rfl) ?_
      refine kx_if_eq 207 215 C dX6_look_207 (by decide) (fun c82 => ?_) (fun c82 => ?_)
      · have hf := ifp c82 hf
        refine kx_iload_n 215 C dX6_look_215 (lv_at hl 3 rfl) ?_
        exact ih10 _ _ _ _ _ _ _ _ _ _ _ hf I (lv_sub hl [1, 2, 4, 5, 6, 0] rfl)
      · have hf := ifn c82 hf
        refine kx_iload 210 C dX6_look_210 (lv_at hl 5 rfl) ?_
        refine kx_goto 212 216 C dX6_look_212 (by decide) ?_
        exact ih10 _ _ _ _ _ _ _ _ _ _ _ hf I (lv_sub hl [1, 2, 4, 5, 6, 0] rfl)
    · intro S p0 i0 i1 i2 i3 i4 i5 H locs ls hf I hl
      replace hf : b_X6_look_10 (g_X6_look fu) fu S p0 i0 i1 i2 i3 i4 i5 = some (r, S') := hf
      unfold b_X6_look_10 at hf
      refine kx_istore_n 216 C (lv' := [(2, .int (iI i5)), (0, .ref (xB G + p0)), (1, .int (iI i0)), (3, .long (lI i1)), (5, .int (iI i2)), (6, .long (lI i3)), (8, .int (iI i4))]) dX6_look_216 hl (by decide) rfl rfl (fun ls hl => ?_)
      refine kx_iload 217 C dX6_look_217 (lv_at hl 6 rfl) ?_
      refine kx_if_eq 219 227 C dX6_look_219 (by decide) (fun c83 => ?_) (fun c83 => ?_)
      · have hf := ifp c83 hf
        refine kx_lload_n 227 C dX6_look_227 (lv_at hl 3 rfl) ?_
        exact ih11 _ _ _ _ _ _ _ _ _ _ _ hf I (lv_sub hl [1, 2, 0, 4] rfl)
      · have hf := ifn c83 hf
        refine kx_lload 222 C dX6_look_222 (lv_at hl 5 rfl) ?_
        refine kx_goto 224 228 C dX6_look_224 (by decide) ?_
        exact ih11 _ _ _ _ _ _ _ _ _ _ _ hf I (lv_sub hl [1, 2, 0, 4] rfl)
    · intro S p0 i0 i1 i2 i3 i4 i5 H locs ls hf I hl
      replace hf : b_X6_look_11 (g_X6_look fu) fu S p0 i0 i1 i2 i3 i4 i5 = some (r, S') := hf
      unfold b_X6_look_11 at hf
      refine kx_lstore_n 228 C (lv' := [(3, .long (lI i3)), (0, .ref (xB G + p0)), (1, .int (iI i0)), (2, .int (iI i1)), (5, .int (iI i2))]) dX6_look_228 hl (by decide) rfl rfl (fun ls hl => ?_)
      obtain ⟨x84, e85, hf⟩ := nmx_e hf
      refine kx_iinc 229 C (lv' := [(5, .int (iI x84)), (3, .long (lI i3)), (0, .ref (xB G + p0)), (1, .int (iI i0)), (2, .int (iI i1))]) dX6_look_229 hl 4 rfl e85 (by decide) rfl (fun ls hl => ?_)
      refine kx_goto 232 108 C dX6_look_232 (by decide) ?_
      exact ih5 _ _ _ _ _ _ _ _ _ _ _ hf I (lv_sub hl [2, 3, 4, 1, 0] rfl)
set_option maxHeartbeats 4000000 in
set_option maxRecDepth 100000 in
theorem c_X6_look (G : xG) (l : Launch) (fu : Nat) (S S' : xS) (p0 : Nat) (r : Int) (hf : f_X6_look fu S p0 = some (r, S')) : Met l yX6_look vsX6_look rm_X6_look (va_Pc [.ref (xB G + p0)] (xPre G S)) (xQi G r S') 0 0 (xA G) := by
  refine kx_met (ret := (some .int)) RX6 [(0, .ref (xB G + p0))] (by decide) rfl rfl (Nat.le_of_ble_eq_true rfl) rfl (fun p e s m below meth c ls C hin I hl => ?_)
  exact (w_X6_look C r S' fu).1 S _ _ _ _ _ _ _ _ _ _ hf I hl
def rm_X6_takeRules : Room := { frames := 0, cells := 0, slots := 0, locals := 0 }
theorem hin_X6_takeRules_RX6 : ∀ w ∈ wsX60, w ∈ vsX6_takeRules := fun w h => inM (inlX6 w h)
theorem fl_X6_takeRules_7 : xFl vsX6_takeRules RX6 7 5 0 := ⟨RX6, TX6, 30, rfl, by decide, hin_X6_takeRules_RX6, inM mq_4_16, rfl⟩
theorem fl_X6_takeRules_54 : xFl vsX6_takeRules RX6 54 5 20 := ⟨RX6, TX6, 30, rfl, by decide, hin_X6_takeRules_RX6, inM mq_5_7, rfl⟩
theorem nyS_X6_takeRules : yX6_takeRules.cls ≠ "java/lang/invoke/MethodHandle" ∧ yX6_takeRules.cls ≠ "java/lang/invoke/VarHandle" ∧ (parseMethodDescriptor yX6_takeRules.desc).map (fun d => d.parameters.length) = some 0 := by decide +kernel
theorem nyV_X6_takeRules : yX6_takeRules.cls = RX6 ∧ yX6_takeRules.cls ≠ "java/lang/invoke/MethodHandle" ∧ yX6_takeRules.cls ≠ "java/lang/invoke/VarHandle" ∧ (parseMethodDescriptor yX6_takeRules.desc).map (fun d => d.parameters.length) = some 0 := by decide +kernel
set_option maxHeartbeats 4000000 in
set_option maxRecDepth 100000 in
theorem w_X6_takeRules {G : xG} {p : Program} {l : Launch} {e : Env} {s : State} {m : MethodId} {args : Array Value} {below : List Frame} {meth : Method} {c : Code} (C : xK G p s m args meth c cX6_takeRules 2 vsX6_takeRules RX6 none) (r : Int) (S' : xS) : ∀ k : Nat,
  (∀ (S : xS) (p0 : Nat) (i0 : Int) (H : Heap) (locs : List Loc) (ls : Array Slot), g_X6_takeRules k 0 S p0 i0 = some (r, S') → xI G S s H locs → lv_has ls 2 [(0, .ref (xB G + p0))] → W p l e rm_X6_takeRules s m args below meth c H locs 0 0 (MQ below (xQv G S') args s 0 0 (xA G)) (F0 m 0 ls [])) ∧
  (∀ (S : xS) (p0 : Nat) (i0 : Int) (H : Heap) (locs : List Loc) (ls : Array Slot), g_X6_takeRules k 1 S p0 i0 = some (r, S') → xI G S s H locs → lv_has ls 2 [(0, .ref (xB G + p0)), (1, .int (iI i0))] → W p l e rm_X6_takeRules s m args below meth c H locs 0 0 (MQ below (xQv G S') args s 0 0 (xA G)) (F0 m 2 ls [])) := by
  intro k
  induction k with
  | zero => exact ⟨fun _ _ _ _ _ _ hf => (by cases hf), fun _ _ _ _ _ _ hf => (by cases hf)⟩
  | succ fu ih =>
    obtain ⟨ih0, ih1⟩ := ih
    refine ⟨?_, ?_⟩
    · intro S p0 i0 H locs ls hf I hl
      replace hf : b_X6_takeRules_0 (g_X6_takeRules fu) fu S p0 i0 = some (r, S') := hf
      unfold b_X6_takeRules_0 at hf
      refine kx_iconst 0 C dX6_takeRules_0 ?_
      refine kx_istore_n 1 C (lv' := [(1, .int (iI 0)), (0, .ref (xB G + p0))]) dX6_takeRules_1 hl (by decide) rfl rfl (fun ls hl => ?_)
      exact ih1 _ _ _ _ _ _ hf I (lv_sub hl [1, 0] rfl)
    · intro S p0 i0 H locs ls hf I hl
      replace hf : b_X6_takeRules_1 (g_X6_takeRules fu) fu S p0 i0 = some (r, S') := hf
      unfold b_X6_takeRules_1 at hf
      refine kx_iload_n 2 C dX6_takeRules_2 (lv_at hl 1 rfl) ?_
      refine kx_bipush 3 C dX6_takeRules_3 (by decide) ?_
      refine kx_icmp_ge 5 29 C dX6_takeRules_5 (by decide) (fun c1 => ?_) (fun c1 => ?_)
      · have hf := ifp c1 hf
        exact kx_vret 29 C I hf dX6_takeRules_29
      · have hf := ifn c1 hf
        refine kx_aload_n 8 C dX6_takeRules_8 (lv_at hl 0 rfl) ?_
        obtain ⟨q3, h2, hf⟩ := ob hf
        refine kx_getp 9 C I fl_X6_takeRules_54 h2 dX6_takeRules_9 ?_
        refine kx_iload_n 12 C dX6_takeRules_12 (lv_at hl 1 rfl) ?_
        refine kx_aload_n 13 C dX6_takeRules_13 (lv_at hl 0 rfl) ?_
        obtain ⟨q5, h4, hf⟩ := ob hf
        refine kx_getp 14 C I fl_X6_takeRules_7 h4 dX6_takeRules_14 ?_
        refine kx_bipush 17 C dX6_takeRules_17 (by decide) ?_
        refine kx_iload_n 19 C dX6_takeRules_19 (lv_at hl 1 rfl) ?_
        refine kx_iadd 20 C dX6_takeRules_20 ?_
        obtain ⟨x6, h7, hf⟩ := ob hf
        refine kx_iald 21 C I h7 dX6_takeRules_21 ?_
        obtain ⟨S9, h8, hf⟩ := ob hf
        refine kx_iast 22 C I h8 dX6_takeRules_22 (fun H locs I => ?_)
        obtain ⟨x10, e11, hf⟩ := nmx_e hf
        refine kx_iinc 23 C (lv' := [(1, .int (iI x10)), (0, .ref (xB G + p0))]) dX6_takeRules_23 hl 1 rfl e11 (by decide) rfl (fun ls hl => ?_)
        refine kx_goto 26 2 C dX6_takeRules_26 (by decide) ?_
        exact ih1 _ _ _ _ _ _ hf I (lv_sub hl [1, 0] rfl)
set_option maxHeartbeats 4000000 in
set_option maxRecDepth 100000 in
theorem c_X6_takeRules (G : xG) (l : Launch) (fu : Nat) (S S' : xS) (p0 : Nat) (r : Int) (hf : f_X6_takeRules fu S p0 = some (r, S')) : Met l yX6_takeRules vsX6_takeRules rm_X6_takeRules (va_Pc [.ref (xB G + p0)] (xPre G S)) (xQv G S') 0 0 (xA G) := by
  refine kx_met (ret := none) RX6 [(0, .ref (xB G + p0))] (by decide) rfl rfl (Nat.le_of_ble_eq_true rfl) rfl (fun p e s m below meth c ls C hin I hl => ?_)
  exact (w_X6_takeRules C r S' fu).1 S _ _ _ _ _ hf I hl
