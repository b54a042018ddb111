def rm_X6_isKnown : Room := { frames := 0, cells := 0, slots := 0, locals := 0 }
theorem nyS_X6_isKnown : yX6_isKnown.cls ≠ "java/lang/invoke/MethodHandle" ∧ yX6_isKnown.cls ≠ "java/lang/invoke/VarHandle" ∧ (parseMethodDescriptor yX6_isKnown.desc).map (fun d => d.parameters.length) = some 2 := by decide +kernel
set_option maxHeartbeats 4000000 in
set_option maxRecDepth 100000 in
theorem w_X6_isKnown {G : xG} {p : Program} {l : Launch} {e : Env} {s : State} {m : MethodId} {args : Array Value} {below : List Frame} {meth : Method} {c : Code} (C : xK G p s m args meth c cX6_isKnown 4 vsX6_isKnown RX6 (some .boolean)) (r : Int) (S' : xS) : ∀ k : Nat,
  (∀ (S : xS) (p0 : Nat) (i0 i1 i2 : Int) (H : Heap) (locs : List Loc) (ls : Array Slot), g_X6_isKnown k 0 S p0 i0 i1 i2 = some (r, S') → xI G S s H locs → lv_has ls 4 [(0, .ref (xB G + p0)), (1, .int (iI i0))] → W p l e rm_X6_isKnown s m args below meth c H locs 0 0 (MQ below (xQi G r S') args s 0 0 (xA G)) (F0 m 0 ls [])) ∧
  (∀ (S : xS) (p0 : Nat) (i0 i1 i2 : Int) (H : Heap) (locs : List Loc) (ls : Array Slot), g_X6_isKnown k 1 S p0 i0 i1 i2 = some (r, S') → xI G S s H locs → lv_has ls 4 [(0, .ref (xB G + p0)), (1, .int (iI i0)), (2, .int (iI i1)), (3, .int (iI i2))] → W p l e rm_X6_isKnown s m args below meth c H locs 0 0 (MQ below (xQi G r S') args s 0 0 (xA G)) (F0 m 4 ls [])) ∧
  (∀ (S : xS) (p0 : Nat) (i0 i1 i2 : Int) (H : Heap) (locs : List Loc) (ls : Array Slot), g_X6_isKnown k 2 S p0 i0 i1 i2 = some (r, S') → xI G S s H locs → lv_has ls 4 [(0, .ref (xB G + p0)), (1, .int (iI i0)), (3, .int (iI i1))] → W p l e rm_X6_isKnown s m args below meth c H locs 0 0 (MQ below (xQi G r S') args s 0 0 (xA G)) (F0 m 25 ls [])) ∧
  (∀ (S : xS) (p0 : Nat) (i0 i1 i2 : Int) (H : Heap) (locs : List Loc) (ls : Array Slot), g_X6_isKnown k 3 S p0 i0 i1 i2 = some (r, S') → xI G S s H locs → lv_has ls 4 [(0, .ref (xB G + p0)), (1, .int (iI i0)), (3, .int (iI i1))] → W p l e rm_X6_isKnown s m args below meth c H locs 0 0 (MQ below (xQi G r S') args s 0 0 (xA G)) (F0 m 30 ls [.int (iI i2)])) := by
  intro k
  induction k with
  | zero => exact ⟨fun _ _ _ _ _ _ _ _ hf => (by cases hf), fun _ _ _ _ _ _ _ _ hf => (by cases hf), fun _ _ _ _ _ _ _ _ hf => (by cases hf), fun _ _ _ _ _ _ _ _ hf => (by cases hf)⟩
  | succ fu ih =>
    obtain ⟨ih0, ih1, ih2, ih3⟩ := ih
    refine ⟨?_, ?_, ?_, ?_⟩
    · intro S p0 i0 i1 i2 H locs ls hf I hl
      replace hf : b_X6_isKnown_0 (g_X6_isKnown fu) fu S p0 i0 i1 i2 = some (r, S') := hf
      unfold b_X6_isKnown_0 at hf
      refine kx_iconst 0 C dX6_isKnown_0 ?_
      refine kx_istore_n 1 C (lv' := [(2, .int (iI 0)), (0, .ref (xB G + p0)), (1, .int (iI i0))]) dX6_isKnown_1 hl (by decide) rfl rfl (fun ls hl => ?_)
      refine kx_iconst 2 C dX6_isKnown_2 ?_
      refine kx_istore_n 3 C (lv' := [(3, .int (iI 0)), (2, .int (iI 0)), (0, .ref (xB G + p0)), (1, .int (iI i0))]) dX6_isKnown_3 hl (by decide) rfl rfl (fun ls hl => ?_)
      exact ih1 _ _ _ _ _ _ _ _ hf I (lv_sub hl [2, 3, 1, 0] rfl)
    · intro S p0 i0 i1 i2 H locs ls hf I hl
      replace hf : b_X6_isKnown_1 (g_X6_isKnown fu) fu S p0 i0 i1 i2 = some (r, S') := hf
      unfold b_X6_isKnown_1 at hf
      refine kx_iload_n 4 C dX6_isKnown_4 (lv_at hl 3 rfl) ?_
      refine kx_aload_n 5 C dX6_isKnown_5 (lv_at hl 0 rfl) ?_
      refine kx_iconst 6 C dX6_isKnown_6 ?_
      obtain ⟨x1, h2, hf⟩ := ob hf
      refine kx_iald 7 C I h2 dX6_isKnown_7 ?_
      refine kx_icmp_ge 8 37 C dX6_isKnown_8 (by decide) (fun c3 => ?_) (fun c3 => ?_)
      · have hf := ifp c3 hf
        refine kx_iload_n 37 C dX6_isKnown_37 (lv_at hl 2 rfl) ?_
        obtain ⟨h4, hf⟩ := ift hf
        exact kx_zret 38 C I h4 hf dX6_isKnown_38
      · have hf := ifn c3 hf
        refine kx_iload_n 11 C dX6_isKnown_11 (lv_at hl 2 rfl) ?_
        refine kx_if_ne 12 25 C dX6_isKnown_12 (by decide) (fun c5 => ?_) (fun c5 => ?_)
        · have hf := ifn c5 hf
          exact ih2 _ _ _ _ _ _ _ _ hf I (lv_sub hl [0, 1, 3] rfl)
        · have hf := ifp c5 hf
          refine kx_aload_n 15 C dX6_isKnown_15 (lv_at hl 0 rfl) ?_
          refine kx_bipush 16 C dX6_isKnown_16 (by decide) ?_
          refine kx_iload_n 18 C dX6_isKnown_18 (lv_at hl 3 rfl) ?_
          refine kx_iadd 19 C dX6_isKnown_19 ?_
          obtain ⟨x6, h7, hf⟩ := ob hf
          refine kx_iald 20 C I h7 dX6_isKnown_20 ?_
          refine kx_iload_n 21 C dX6_isKnown_21 (lv_at hl 1 rfl) ?_
          refine kx_icmp_ne 22 29 C dX6_isKnown_22 (by decide) (fun c8 => ?_) (fun c8 => ?_)
          · have hf := ifn c8 hf
            refine kx_iconst 29 C dX6_isKnown_29 ?_
            exact ih3 _ _ _ _ _ _ _ _ hf I (lv_sub hl [0, 1, 3] rfl)
          · have hf := ifp c8 hf
            exact ih2 _ _ _ _ _ _ _ _ hf I (lv_sub hl [0, 1, 3] rfl)
    · intro S p0 i0 i1 i2 H locs ls hf I hl
      replace hf : b_X6_isKnown_2 (g_X6_isKnown fu) fu S p0 i0 i1 i2 = some (r, S') := hf
      unfold b_X6_isKnown_2 at hf
      refine kx_iconst 25 C dX6_isKnown_25 ?_
      refine kx_goto 26 30 C dX6_isKnown_26 (by decide) ?_
      exact ih3 _ _ _ _ _ _ _ _ hf I (lv_sub hl [0, 1, 2] rfl)
    · intro S p0 i0 i1 i2 H locs ls hf I hl
      replace hf : b_X6_isKnown_3 (g_X6_isKnown fu) fu S p0 i0 i1 i2 = some (r, S') := hf
      unfold b_X6_isKnown_3 at hf
      refine kx_istore_n 30 C (lv' := [(2, .int (iI i2)), (0, .ref (xB G + p0)), (1, .int (iI i0)), (3, .int (iI i1))]) dX6_isKnown_30 hl (by decide) rfl rfl (fun ls hl => ?_)
      obtain ⟨x9, e10, hf⟩ := nmx_e hf
      refine kx_iinc 31 C (lv' := [(3, .int (iI x9)), (2, .int (iI i2)), (0, .ref (xB G + p0)), (1, .int (iI i0))]) dX6_isKnown_31 hl 3 rfl e10 (by decide) rfl (fun ls hl => ?_)
      refine kx_goto 34 4 C dX6_isKnown_34 (by decide) ?_
      exact ih1 _ _ _ _ _ _ _ _ hf I (lv_sub hl [2, 3, 1, 0] rfl)
set_option maxHeartbeats 4000000 in
set_option maxRecDepth 100000 in
theorem c_X6_isKnown (G : xG) (l : Launch) (fu : Nat) (S S' : xS) (p0 : Nat) (i0 : Int) (r : Int) (hf : f_X6_isKnown fu S p0 i0 = some (r, S')) : Met l yX6_isKnown vsX6_isKnown rm_X6_isKnown (va_Pc [.ref (xB G + p0), .int (iI i0)] (xPre G S)) (xQi G r S') 0 0 (xA G) := by
  refine kx_met (ret := (some .boolean)) RX6 [(0, .ref (xB G + p0)), (1, .int (iI i0))] (by decide) rfl rfl (Nat.le_of_ble_eq_true rfl) rfl (fun p e s m below meth c ls C hin I hl => ?_)
  exact (w_X6_isKnown C r S' fu).1 S _ _ _ _ _ _ _ hf I hl
def rm_X6_know : Room := { frames := 2, cells := 0, slots := 0, locals := 46 }
theorem hin_X6_know_RX6 : ∀ w ∈ wsX60, w ∈ vsX6_know := fun w h => inM (inlX6 w h)
theorem fl_X6_know_7 : xFl vsX6_know RX6 7 5 0 := ⟨RX6, TX6, 30, rfl, by decide, hin_X6_know_RX6, inM mq_4_16, rfl⟩
theorem nyS_X6_know : yX6_know.cls ≠ "java/lang/invoke/MethodHandle" ∧ yX6_know.cls ≠ "java/lang/invoke/VarHandle" ∧ (parseMethodDescriptor yX6_know.desc).map (fun d => d.parameters.length) = some 2 := by decide +kernel
theorem nyV_X6_know : yX6_know.cls = RX6 ∧ yX6_know.cls ≠ "java/lang/invoke/MethodHandle" ∧ yX6_know.cls ≠ "java/lang/invoke/VarHandle" ∧ (parseMethodDescriptor yX6_know.desc).map (fun d => d.parameters.length) = some 2 := by decide +kernel
set_option maxHeartbeats 4000000 in
set_option maxRecDepth 100000 in
theorem w_X6_know {G : xG} {p : Program} {l : Launch} {e : Env} {s : State} {m : MethodId} {args : Array Value} {below : List Frame} {meth : Method} {c : Code} (C : xK G p s m args meth c cX6_know 3 vsX6_know RX6 (some .int)) (r : Int) (S' : xS) : ∀ k : Nat,
  (∀ (S : xS) (p0 : Nat) (i0 i1 : Int) (H : Heap) (locs : List Loc) (ls : Array Slot), g_X6_know k 0 S p0 i0 i1 = some (r, S') → xI G S s H locs → lv_has ls 3 [(0, .ref (xB G + p0)), (1, .int (iI i0)), (2, .int (iI i1))] → W p l e rm_X6_know s m args below meth c H locs 0 0 (MQ below (xQi G r S') args s 0 0 (xA G)) (F0 m 0 ls [])) ∧
  (∀ (S : xS) (p0 : Nat) (i0 i1 : Int) (H : Heap) (locs : List Loc) (ls : Array Slot), g_X6_know k 1 S p0 i0 i1 = some (r, S') → xI G S s H locs → lv_has ls 3 [(0, .ref (xB G + p0))] → W p l e rm_X6_know s m args below meth c H locs 0 0 (MQ below (xQi G r S') args s 0 0 (xA G)) (F0 m 16 ls [])) ∧
  (∀ (S : xS) (p0 : Nat) (i0 i1 : Int) (H : Heap) (locs : List Loc) (ls : Array Slot), g_X6_know k 2 S p0 i0 i1 = some (r, S') → xI G S s H locs → lv_has ls 3 [(0, .ref (xB G + p0))] → W p l e rm_X6_know s m args below meth c H locs 0 0 (MQ below (xQi G r S') args s 0 0 (xA G)) (F0 m 47 ls [])) := by
  intro k
  induction k with
  | zero => exact ⟨fun _ _ _ _ _ _ _ hf => (by cases hf), fun _ _ _ _ _ _ _ hf => (by cases hf), fun _ _ _ _ _ _ _ hf => (by cases hf)⟩
  | succ fu ih =>
    obtain ⟨ih0, ih1, ih2⟩ := ih
    refine ⟨?_, ?_, ?_⟩
    · intro S p0 i0 i1 H locs ls hf I hl
      replace hf : b_X6_know_0 (g_X6_know fu) fu S p0 i0 i1 = some (r, S') := hf
      unfold b_X6_know_0 at hf
      refine kx_aload_n 0 C dX6_know_0 (lv_at hl 0 rfl) ?_
      refine kx_iload_n 1 C dX6_know_1 (lv_at hl 1 rfl) ?_
      obtain ⟨h4, hf⟩ := ift hf
      obtain ⟨x3, S1, h2, hf⟩ := ob2 hf
      refine kx_callVi 2 C hl I (ci := 5) (As := [.int (iI i0)]) (rest := []) (c_X6_isBox G l fu _ _ _ _ _ h2) (cwV 1 C.ts gX6_know_X6_isBox rfl rfl rfl nyV_X6_isBox ⟨Nat.le_of_ble_eq_true rfl, Nat.le_of_ble_eq_true rfl⟩) rfl h4 rfl rfl (Nat.le_of_ble_eq_true rfl) dX6_know_2 ⟨Nat.le_of_ble_eq_true rfl, Nat.le_of_ble_eq_true rfl⟩ (fun H locs I => ?_)
      refine kx_if_eq 5 16 C dX6_know_5 (by decide) (fun c5 => ?_) (fun c5 => ?_)
      · have hf := ifp c5 hf
        exact ih1 _ _ _ _ _ _ _ hf I (lv_sub hl [0] rfl)
      · have hf := ifn c5 hf
        refine kx_aload_n 8 C dX6_know_8 (lv_at hl 0 rfl) ?_
        refine kx_iload_n 9 C dX6_know_9 (lv_at hl 2 rfl) ?_
        obtain ⟨h9, hf⟩ := ift hf
        obtain ⟨x8, S6, h7, hf⟩ := ob2 hf
        refine kx_callVi 10 C hl I (ci := 5) (As := [.int (iI i1)]) (rest := []) (c_X6_isBox G l fu _ _ _ _ _ h7) (cwV 1 C.ts gX6_know_X6_isBox rfl rfl rfl nyV_X6_isBox ⟨Nat.le_of_ble_eq_true rfl, Nat.le_of_ble_eq_true rfl⟩) rfl h9 rfl rfl (Nat.le_of_ble_eq_true rfl) dX6_know_10 ⟨Nat.le_of_ble_eq_true rfl, Nat.le_of_ble_eq_true rfl⟩ (fun H locs I => ?_)
        refine kx_if_ne 13 23 C dX6_know_13 (by decide) (fun c10 => ?_) (fun c10 => ?_)
        · have hf := ifn c10 hf
          refine kx_aload_n 23 C dX6_know_23 (lv_at hl 0 rfl) ?_
          obtain ⟨q12, h11, hf⟩ := ob hf
          refine kx_getp 24 C I fl_X6_know_7 h11 dX6_know_24 ?_
          refine kx_bipush 27 C dX6_know_27 (by decide) ?_
          refine kx_iload_n 29 C dX6_know_29 (lv_at hl 1 rfl) ?_
          refine kx_iadd 30 C dX6_know_30 ?_
          obtain ⟨x13, h14, hf⟩ := ob hf
          refine kx_iald 31 C I h14 dX6_know_31 ?_
          refine kx_iconst 32 C dX6_know_32 ?_
          refine kx_icmp_ne 33 47 C dX6_know_33 (by decide) (fun c15 => ?_) (fun c15 => ?_)
          · have hf := ifn c15 hf
            exact ih2 _ _ _ _ _ _ _ hf I (lv_sub hl [0] rfl)
          · have hf := ifp c15 hf
            refine kx_aload_n 36 C dX6_know_36 (lv_at hl 0 rfl) ?_
            obtain ⟨q17, h16, hf⟩ := ob hf
            refine kx_getp 37 C I fl_X6_know_7 h16 dX6_know_37 ?_
            refine kx_iload_n 40 C dX6_know_40 (lv_at hl 2 rfl) ?_
            obtain ⟨x20, S18, h19, hf⟩ := ob2 hf
            refine kx_callSi 41 C hl I (As := [.ref (xB G + q17), .int (iI i1)]) (rest := []) (c_X6_isKnown G l fu _ _ _ _ _ h19) (va_cwS 2 C.ts gX6_know_X6_isKnown rfl rfl rfl nyS_X6_isKnown ⟨Nat.le_of_ble_eq_true rfl, Nat.le_of_ble_eq_true rfl⟩) rfl rfl (Nat.le_of_ble_eq_true rfl) dX6_know_41 ⟨Nat.le_of_ble_eq_true rfl, Nat.le_of_ble_eq_true rfl⟩ (fun H locs I => ?_)
            refine kx_if_eq 44 52 C dX6_know_44 (by decide) (fun c21 => ?_) (fun c21 => ?_)
            · have hf := ifp c21 hf
              refine kx_aload_n 52 C dX6_know_52 (lv_at hl 0 rfl) ?_
              obtain ⟨q23, h22, hf⟩ := ob hf
              refine kx_getp 53 C I fl_X6_know_7 h22 dX6_know_53 ?_
              refine kx_bipush 56 C dX6_know_56 (by decide) ?_
              refine kx_iload_n 58 C dX6_know_58 (lv_at hl 1 rfl) ?_
              refine kx_iadd 59 C dX6_know_59 ?_
              refine kx_iload_n 60 C dX6_know_60 (lv_at hl 2 rfl) ?_
              obtain ⟨S25, h24, hf⟩ := ob hf
              refine kx_iast 61 C I h24 dX6_know_61 (fun H locs I => ?_)
              refine kx_iconst 62 C dX6_know_62 ?_
              exact kx_iret 63 C I hf dX6_know_63
            · have hf := ifn c21 hf
              exact ih2 _ _ _ _ _ _ _ hf I (lv_sub hl [0] rfl)
        · have hf := ifp c10 hf
          exact ih1 _ _ _ _ _ _ _ hf I (lv_sub hl [0] rfl)
    · intro S p0 i0 i1 H locs ls hf I hl
      replace hf : b_X6_know_1 (g_X6_know fu) fu S p0 i0 i1 = some (r, S') := hf
      unfold b_X6_know_1 at hf
      refine kx_aload_n 16 C dX6_know_16 (lv_at hl 0 rfl) ?_
      refine kx_bipush 17 C dX6_know_17 (by decide) ?_
      obtain ⟨h29, hf⟩ := ift hf
      obtain ⟨x28, S26, h27, hf⟩ := ob2 hf
      refine kx_callVi 19 C hl I (ci := 5) (As := [.int (iI ((-2)))]) (rest := []) (c_X6_bad G l fu _ _ _ _ _ h27) (cwV 1 C.ts gX6_know_X6_bad rfl rfl rfl nyV_X6_bad ⟨Nat.le_of_ble_eq_true rfl, Nat.le_of_ble_eq_true rfl⟩) rfl h29 rfl rfl (Nat.le_of_ble_eq_true rfl) dX6_know_19 ⟨Nat.le_of_ble_eq_true rfl, Nat.le_of_ble_eq_true rfl⟩ (fun H locs I => ?_)
      exact kx_iret 22 C I hf dX6_know_22
    · intro S p0 i0 i1 H locs ls hf I hl
      replace hf : b_X6_know_2 (g_X6_know fu) fu S p0 i0 i1 = some (r, S') := hf
      unfold b_X6_know_2 at hf
      refine kx_aload_n 47 C dX6_know_47 (lv_at hl 0 rfl) ?_
      obtain ⟨h33, hf⟩ := ift hf
      obtain ⟨x32, S30, h31, hf⟩ := ob2 hf
      refine kx_callVi 48 C hl I (ci := 5) (As := []) (rest := []) (c_X6_no G l fu _ _ _ _ h31) (cwV 0 C.ts gX6_know_X6_no rfl rfl rfl nyV_X6_no ⟨Nat.le_of_ble_eq_true rfl, Nat.le_of_ble_eq_true rfl⟩) rfl h33 rfl rfl (Nat.le_of_ble_eq_true rfl) dX6_know_48 ⟨Nat.le_of_ble_eq_true rfl, Nat.le_of_ble_eq_true rfl⟩ (fun H locs I => ?_)
      exact kx_iret 51 C I hf dX6_know_51
set_option maxHeartbeats 4000000 in
set_option maxRecDepth 100000 in
theorem c_X6_know (G : xG) (l : Launch) (fu : Nat) (S S' : xS) (p0 : Nat) (i0 : Int) (i1 : Int) (r : Int) (hf : f_X6_know fu S p0 i0 i1 = some (r, S')) : Met l yX6_know vsX6_know rm_X6_know (va_Pc [.ref (xB G + p0), .int (iI i0), .int (iI i1)] (xPre G S)) (xQi G r S') 0 0 (xA G) := by
  refine kx_met (ret := (some .int)) RX6 [(0, .ref (xB G + p0)), (1, .int (iI i0)), (2, .int (iI i1))] (by decide) rfl rfl (Nat.le_of_ble_eq_true rfl) rfl (fun p e s m below meth c ls C hin I hl => ?_)
  exact (w_X6_know C r S' fu).1 S _ _ _ _ _ _ hf I hl
def rm_X6_layReport : Room := { frames := 0, cells := 0, slots := 0, locals := 0 }
theorem nyS_X6_layReport : yX6_layReport.cls ≠ "java/lang/invoke/MethodHandle" ∧ yX6_layReport.cls ≠ "java/lang/invoke/VarHandle" ∧ (parseMethodDescriptor yX6_layReport.desc).map (fun d => d.parameters.length) = some 3 := by decide +kernel
set_option maxHeartbeats 4000000 in
set_option maxRecDepth 100000 in
theorem c_X6_layReport (G : xG) (l : Launch) (fu : Nat) (S S' : xS) (p0 : Nat) (i0 : Int) (i1 : Int) (r : Int) (hf : f_X6_layReport fu S p0 i0 i1 = some (r, S')) : Met l yX6_layReport vsX6_layReport rm_X6_layReport (va_Pc [.ref (xB G + p0), .int (iI i0), .int (iI i1)] (xPre G S)) (xQv G S') 0 0 (xA G) := by
  refine kx_met (ret := none) RX6 [(0, .ref (xB G + p0)), (1, .int (iI i0)), (2, .int (iI i1))] (by decide) rfl rfl (Nat.le_of_ble_eq_true rfl) rfl (fun p e s m below meth c ls C hin I hl => ?_)
  unfold f_X6_layReport at hf
  refine kx_aload_n 0 C dX6_layReport_0 (lv_at hl 0 rfl) ?_
  refine kx_bipush 1 C dX6_layReport_1 (by decide) ?_
  refine kx_iconst 3 C dX6_layReport_3 ?_
  refine kx_aload_n 4 C dX6_layReport_4 (lv_at hl 0 rfl) ?_
  refine kx_bipush 5 C dX6_layReport_5 (by decide) ?_
  obtain ⟨x1, h2, hf⟩ := ob hf
  refine kx_iald 7 C I h2 dX6_layReport_7 ?_
  refine kx_imul 8 C dX6_layReport_8 ?_
  refine kx_iadd 9 C dX6_layReport_9 ?_
  refine kx_iload_n 10 C dX6_layReport_10 (lv_at hl 1 rfl) ?_
  obtain ⟨S4, h3, hf⟩ := ob hf
  refine kx_iast 11 C I h3 dX6_layReport_11 (fun H locs I => ?_)
  refine kx_aload_n 12 C dX6_layReport_12 (lv_at hl 0 rfl) ?_
  refine kx_bipush 13 C dX6_layReport_13 (by decide) ?_
  refine kx_iconst 15 C dX6_layReport_15 ?_
  refine kx_aload_n 16 C dX6_layReport_16 (lv_at hl 0 rfl) ?_
  refine kx_bipush 17 C dX6_layReport_17 (by decide) ?_
  obtain ⟨x5, h6, hf⟩ := ob hf
  refine kx_iald 19 C I h6 dX6_layReport_19 ?_
  refine kx_imul 20 C dX6_layReport_20 ?_
  refine kx_iadd 21 C dX6_layReport_21 ?_
  refine kx_iconst 22 C dX6_layReport_22 ?_
  refine kx_iadd 23 C dX6_layReport_23 ?_
  refine kx_iload_n 24 C dX6_layReport_24 (lv_at hl 2 rfl) ?_
  obtain ⟨S8, h7, hf⟩ := ob hf
  refine kx_iast 25 C I h7 dX6_layReport_25 (fun H locs I => ?_)
  refine kx_aload_n 26 C dX6_layReport_26 (lv_at hl 0 rfl) ?_
  refine kx_bipush 27 C dX6_layReport_27 (by decide) ?_
  refine kx_dup2 29 C dX6_layReport_29 rfl rfl ?_
  obtain ⟨x9, h10, hf⟩ := ob hf
  refine kx_iald 30 C I h10 dX6_layReport_30 ?_
  refine kx_iconst 31 C dX6_layReport_31 ?_
  refine kx_iadd 32 C dX6_layReport_32 ?_
  obtain ⟨S12, h11, hf⟩ := ob hf
  refine kx_iast 33 C I h11 dX6_layReport_33 (fun H locs I => ?_)
  exact kx_vret 34 C I hf dX6_layReport_34
def rm_X6_report : Room := { frames := 2, cells := 0, slots := 0, locals := 46 }
theorem hin_X6_report_RX6 : ∀ w ∈ wsX60, w ∈ vsX6_report := fun w h => inM (inlX6 w h)
theorem fl_X6_report_7 : xFl vsX6_report RX6 7 5 0 := ⟨RX6, TX6, 30, rfl, by decide, hin_X6_report_RX6, inM mq_4_16, rfl⟩
theorem nyS_X6_report : yX6_report.cls ≠ "java/lang/invoke/MethodHandle" ∧ yX6_report.cls ≠ "java/lang/invoke/VarHandle" ∧ (parseMethodDescriptor yX6_report.desc).map (fun d => d.parameters.length) = some 2 := by decide +kernel
theorem nyV_X6_report : yX6_report.cls = RX6 ∧ yX6_report.cls ≠ "java/lang/invoke/MethodHandle" ∧ yX6_report.cls ≠ "java/lang/invoke/VarHandle" ∧ (parseMethodDescriptor yX6_report.desc).map (fun d => d.parameters.length) = some 2 := by decide +kernel
set_option maxHeartbeats 4000000 in
set_option maxRecDepth 100000 in
theorem w_X6_report {G : xG} {p : Program} {l : Launch} {e : Env} {s : State} {m : MethodId} {args : Array Value} {below : List Frame} {meth : Method} {c : Code} (C : xK G p s m args meth c cX6_report 3 vsX6_report RX6 (some .int)) (r : Int) (S' : xS) : ∀ k : Nat,
  (∀ (S : xS) (p0 : Nat) (i0 i1 : Int) (H : Heap) (locs : List Loc) (ls : Array Slot), g_X6_report k 0 S p0 i0 i1 = some (r, S') → xI G S s H locs → lv_has ls 3 [(0, .ref (xB G + p0)), (1, .int (iI i0)), (2, .int (iI i1))] → W p l e rm_X6_report s m args below meth c H locs 0 0 (MQ below (xQi G r S') args s 0 0 (xA G)) (F0 m 0 ls [])) ∧
  (∀ (S : xS) (p0 : Nat) (i0 i1 : Int) (H : Heap) (locs : List Loc) (ls : Array Slot), g_X6_report k 1 S p0 i0 i1 = some (r, S') → xI G S s H locs → lv_has ls 3 [(0, .ref (xB G + p0))] → W p l e rm_X6_report s m args below meth c H locs 0 0 (MQ below (xQi G r S') args s 0 0 (xA G)) (F0 m 22 ls [])) := by
  intro k
  induction k with
  | zero => exact ⟨fun _ _ _ _ _ _ _ hf => (by cases hf), fun _ _ _ _ _ _ _ hf => (by cases hf)⟩
  | succ fu ih =>
    obtain ⟨ih0, ih1⟩ := ih
    refine ⟨?_, ?_⟩
    · intro S p0 i0 i1 H locs ls hf I hl
      replace hf : b_X6_report_0 (g_X6_report fu) fu S p0 i0 i1 = some (r, S') := hf
      unfold b_X6_report_0 at hf
      refine kx_aload_n 0 C dX6_report_0 (lv_at hl 0 rfl) ?_
      refine kx_iload_n 1 C dX6_report_1 (lv_at hl 1 rfl) ?_
      obtain ⟨h4, hf⟩ := ift hf
      obtain ⟨x3, S1, h2, hf⟩ := ob2 hf
      refine kx_callVi 2 C hl I (ci := 5) (As := [.int (iI i0)]) (rest := []) (c_X6_isBox G l fu _ _ _ _ _ h2) (cwV 1 C.ts gX6_report_X6_isBox rfl rfl rfl nyV_X6_isBox ⟨Nat.le_of_ble_eq_true rfl, Nat.le_of_ble_eq_true rfl⟩) rfl h4 rfl rfl (Nat.le_of_ble_eq_true rfl) dX6_report_2 ⟨Nat.le_of_ble_eq_true rfl, Nat.le_of_ble_eq_true rfl⟩ (fun H locs I => ?_)
      refine kx_if_eq 5 22 C dX6_report_5 (by decide) (fun c5 => ?_) (fun c5 => ?_)
      · have hf := ifp c5 hf
        exact ih1 _ _ _ _ _ _ _ hf I (lv_sub hl [0] rfl)
      · have hf := ifn c5 hf
        refine kx_iload_n 8 C dX6_report_8 (lv_at hl 2 rfl) ?_
        refine kx_i2l 9 C dX6_report_9 ?_
        refine kx_lconst 10 C (z := 0) dX6_report_10 rfl ?_
        refine kx_aload_n 11 C dX6_report_11 (lv_at hl 0 rfl) ?_
        obtain ⟨h9, hf⟩ := ift hf
        obtain ⟨x8, S6, h7, hf⟩ := ob2 hf
        refine kx_callVi 12 C hl I (ci := 5) (As := []) (rest := [.long (lI 0), .long (lI (wI i1))]) (c_X6_n G l fu _ _ _ _ h7) (cwV 0 C.ts gX6_report_X6_n rfl rfl rfl nyV_X6_n ⟨Nat.le_of_ble_eq_true rfl, Nat.le_of_ble_eq_true rfl⟩) rfl h9 rfl rfl (Nat.le_of_ble_eq_true rfl) dX6_report_12 ⟨Nat.le_of_ble_eq_true rfl, Nat.le_of_ble_eq_true rfl⟩ (fun H locs I => ?_)
        refine kx_i2l 15 C dX6_report_15 ?_
        obtain ⟨x12, S10, h11, hf⟩ := ob2 hf
        refine kx_callSi 16 C hl I (As := [.long (lI (wI i1)), .long (lI 0), .long (lI (wI x8))]) (rest := []) (c_X6_in G l fu _ _ _ _ _ _ h11) (va_cwS 3 C.ts gX6_report_X6_in rfl rfl rfl nyS_X6_in ⟨Nat.le_of_ble_eq_true rfl, Nat.le_of_ble_eq_true rfl⟩) rfl rfl (Nat.le_of_ble_eq_true rfl) dX6_report_16 ⟨Nat.le_of_ble_eq_true rfl, Nat.le_of_ble_eq_true rfl⟩ (fun H locs I => ?_)
        refine kx_if_ne 19 29 C dX6_report_19 (by decide) (fun c13 => ?_) (fun c13 => ?_)
        · have hf := ifn c13 hf
          refine kx_aload_n 29 C dX6_report_29 (lv_at hl 0 rfl) ?_
          obtain ⟨q15, h14, hf⟩ := ob hf
          refine kx_getp 30 C I fl_X6_report_7 h14 dX6_report_30 ?_
          refine kx_bipush 33 C dX6_report_33 (by decide) ?_
          obtain ⟨x16, h17, hf⟩ := ob hf
          refine kx_iald 35 C I h17 dX6_report_35 ?_
          refine kx_bipush 36 C dX6_report_36 (by decide) ?_
          refine kx_icmp_ne 38 46 C dX6_report_38 (by decide) (fun c18 => ?_) (fun c18 => ?_)
          · have hf := ifn c18 hf
            refine kx_aload_n 46 C dX6_report_46 (lv_at hl 0 rfl) ?_
            obtain ⟨q20, h19, hf⟩ := ob hf
            refine kx_getp 47 C I fl_X6_report_7 h19 dX6_report_47 ?_
            refine kx_iload_n 50 C dX6_report_50 (lv_at hl 1 rfl) ?_
            refine kx_iload_n 51 C dX6_report_51 (lv_at hl 2 rfl) ?_
            obtain ⟨z23, S21, h22, hf⟩ := ob2 hf
            refine kx_callSv 52 C hl I (As := [.ref (xB G + q20), .int (iI i0), .int (iI i1)]) (rest := []) (c_X6_layReport G l fu _ _ _ _ _ _ h22) (va_cwS 3 C.ts gX6_report_X6_layReport rfl rfl rfl nyS_X6_layReport ⟨Nat.le_of_ble_eq_true rfl, Nat.le_of_ble_eq_true rfl⟩) rfl rfl (Nat.le_of_ble_eq_true rfl) dX6_report_52 ⟨Nat.le_of_ble_eq_true rfl, Nat.le_of_ble_eq_true rfl⟩ (fun H locs I => ?_)
            refine kx_aload_n 55 C dX6_report_55 (lv_at hl 0 rfl) ?_
            obtain ⟨q25, h24, hf⟩ := ob hf
            refine kx_getp 56 C I fl_X6_report_7 h24 dX6_report_56 ?_
            refine kx_bipush 59 C dX6_report_59 (by decide) ?_
            obtain ⟨x26, h27, hf⟩ := ob hf
            refine kx_iald 61 C I h27 dX6_report_61 ?_
            refine kx_iconst 62 C dX6_report_62 ?_
            refine kx_isub 63 C dX6_report_63 ?_
            exact kx_iret 64 C I hf dX6_report_64
          · have hf := ifp c18 hf
            refine kx_aload_n 41 C dX6_report_41 (lv_at hl 0 rfl) ?_
            obtain ⟨h31, hf⟩ := ift hf
            obtain ⟨x30, S28, h29, hf⟩ := ob2 hf
            refine kx_callVi 42 C hl I (ci := 5) (As := []) (rest := []) (c_X6_full G l fu _ _ _ _ h29) (cwV 0 C.ts gX6_report_X6_full rfl rfl rfl nyV_X6_full ⟨Nat.le_of_ble_eq_true rfl, Nat.le_of_ble_eq_true rfl⟩) rfl h31 rfl rfl (Nat.le_of_ble_eq_true rfl) dX6_report_42 ⟨Nat.le_of_ble_eq_true rfl, Nat.le_of_ble_eq_true rfl⟩ (fun H locs I => ?_)
            exact kx_iret 45 C I hf dX6_report_45
        · have hf := ifp c13 hf
          exact ih1 _ _ _ _ _ _ _ hf I (lv_sub hl [0] rfl)
    · intro S p0 i0 i1 H locs ls hf I hl
      replace hf : b_X6_report_1 (g_X6_report fu) fu S p0 i0 i1 = some (r, S') := hf
      unfold b_X6_report_1 at hf
      refine kx_aload_n 22 C dX6_report_22 (lv_at hl 0 rfl) ?_
      refine kx_bipush 23 C dX6_report_23 (by decide) ?_
      obtain ⟨h35, hf⟩ := ift hf
      obtain ⟨x34, S32, h33, hf⟩ := ob2 hf
      refine kx_callVi 25 C hl I (ci := 5) (As := [.int (iI ((-2)))]) (rest := []) (c_X6_bad G l fu _ _ _ _ _ h33) (cwV 1 C.ts gX6_report_X6_bad rfl rfl rfl nyV_X6_bad ⟨Nat.le_of_ble_eq_true rfl, Nat.le_of_ble_eq_true rfl⟩) rfl h35 rfl rfl (Nat.le_of_ble_eq_true rfl) dX6_report_25 ⟨Nat.le_of_ble_eq_true rfl, Nat.le_of_ble_eq_true rfl⟩ (fun H locs I => ?_)
      exact kx_iret 28 C I hf dX6_report_28
set_option maxHeartbeats 4000000 in
set_option maxRecDepth 100000 in
theorem c_X6_report (G : xG) (l : Launch) (fu : Nat) (S S' : xS) (p0 : Nat) (i0 : Int) (i1 : Int) (r : Int) (hf : f_X6_report fu S p0 i0 i1 = some (r, S')) : Met l yX6_report vsX6_report rm_X6_report (va_Pc [.ref (xB G + p0), .int (iI i0), .int (iI i1)] (xPre G S)) (xQi G r S') 0 0 (xA G) := by
  refine kx_met (ret := (some .int)) RX6 [(0, .ref (xB G + p0)), (1, .int (iI i0)), (2, .int (iI i1))] (by decide) rfl rfl (Nat.le_of_ble_eq_true rfl) rfl (fun p e s m below meth c ls C hin I hl => ?_)
  exact (w_X6_report C r S' fu).1 S _ _ _ _ _ _ hf I hl
def rm_X6_known : Room := { frames := 1, cells := 0, slots := 0, locals := 20 }
theorem hin_X6_known_RX6 : ∀ w ∈ wsX60, w ∈ vsX6_known := fun w h => inM (inlX6 w h)
theorem fl_X6_known_7 : xFl vsX6_known RX6 7 5 0 := ⟨RX6, TX6, 30, rfl, by decide, hin_X6_known_RX6, inM mq_4_16, rfl⟩
theorem nyS_X6_known : yX6_known.cls ≠ "java/lang/invoke/MethodHandle" ∧ yX6_known.cls ≠ "java/lang/invoke/VarHandle" ∧ (parseMethodDescriptor yX6_known.desc).map (fun d => d.parameters.length) = some 0 := by decide +kernel
theorem nyV_X6_known : yX6_known.cls = RX6 ∧ yX6_known.cls ≠ "java/lang/invoke/MethodHandle" ∧ yX6_known.cls ≠ "java/lang/invoke/VarHandle" ∧ (parseMethodDescriptor yX6_known.desc).map (fun d => d.parameters.length) = some 0 := by decide +kernel
set_option maxHeartbeats 4000000 in
set_option maxRecDepth 100000 in
theorem w_X6_known {G : xG} {p : Program} {l : Launch} {e : Env} {s : State} {m : MethodId} {args : Array Value} {below : List Frame} {meth : Method} {c : Code} (C : xK G p s m args meth c cX6_known 3 vsX6_known RX6 (some .int)) (r : Int) (S' : xS) : ∀ k : Nat,
  (∀ (S : xS) (p0 : Nat) (i0 i1 i2 : Int) (H : Heap) (locs : List Loc) (ls : Array Slot), g_X6_known k 0 S p0 i0 i1 i2 = some (r, S') → xI G S s H locs → lv_has ls 3 [(0, .ref (xB G + p0))] → W p l e rm_X6_known s m args below meth c H locs 0 0 (MQ below (xQi G r S') args s 0 0 (xA G)) (F0 m 0 ls [])) ∧
  (∀ (S : xS) (p0 : Nat) (i0 i1 i2 : Int) (H : Heap) (locs : List Loc) (ls : Array Slot), g_X6_known k 1 S p0 i0 i1 i2 = some (r, S') → xI G S s H locs → lv_has ls 3 [(0, .ref (xB G + p0)), (1, .int (iI i0)), (2, .int (iI i1))] → W p l e rm_X6_known s m args below meth c H locs 0 0 (MQ below (xQi G r S') args s 0 0 (xA G)) (F0 m 4 ls [])) ∧
  (∀ (S : xS) (p0 : Nat) (i0 i1 i2 : Int) (H : Heap) (locs : List Loc) (ls : Array Slot), g_X6_known k 2 S p0 i0 i1 i2 = some (r, S') → xI G S s H locs → lv_has ls 3 [(0, .ref (xB G + p0)), (2, .int (iI i0))] → W p l e rm_X6_known s m args below meth c H locs 0 0 (MQ below (xQi G r S') args s 0 0 (xA G)) (F0 m 31 ls [.int (iI i2), .int (iI i1)])) := by
  intro k
  induction k with
  | zero => exact ⟨fun _ _ _ _ _ _ _ _ hf => (by cases hf), fun _ _ _ _ _ _ _ _ hf => (by cases hf), fun _ _ _ _ _ _ _ _ hf => (by cases hf)⟩
  | succ fu ih =>
    obtain ⟨ih0, ih1, ih2⟩ := ih
    refine ⟨?_, ?_, ?_⟩
    · intro S p0 i0 i1 i2 H locs ls hf I hl
      replace hf : b_X6_known_0 (g_X6_known fu) fu S p0 i0 i1 i2 = some (r, S') := hf
      unfold b_X6_known_0 at hf
      refine kx_iconst 0 C dX6_known_0 ?_
      refine kx_istore_n 1 C (lv' := [(1, .int (iI 0)), (0, .ref (xB G + p0))]) dX6_known_1 hl (by decide) rfl rfl (fun ls hl => ?_)
      refine kx_iconst 2 C dX6_known_2 ?_
      refine kx_istore_n 3 C (lv' := [(2, .int (iI 0)), (1, .int (iI 0)), (0, .ref (xB G + p0))]) dX6_known_3 hl (by decide) rfl rfl (fun ls hl => ?_)
      exact ih1 _ _ _ _ _ _ _ _ hf I (lv_sub hl [2, 1, 0] rfl)
    · intro S p0 i0 i1 i2 H locs ls hf I hl
      replace hf : b_X6_known_1 (g_X6_known fu) fu S p0 i0 i1 i2 = some (r, S') := hf
      unfold b_X6_known_1 at hf
      refine kx_iload_n 4 C dX6_known_4 (lv_at hl 2 rfl) ?_
      refine kx_aload_n 5 C dX6_known_5 (lv_at hl 0 rfl) ?_
      obtain ⟨h4, hf⟩ := ift hf
      obtain ⟨x3, S1, h2, hf⟩ := ob2 hf
      refine kx_callVi 6 C hl I (ci := 5) (As := []) (rest := [.int (iI i1)]) (c_X6_n G l fu _ _ _ _ h2) (cwV 0 C.ts gX6_known_X6_n rfl rfl rfl nyV_X6_n ⟨Nat.le_of_ble_eq_true rfl, Nat.le_of_ble_eq_true rfl⟩) rfl h4 rfl rfl (Nat.le_of_ble_eq_true rfl) dX6_known_6 ⟨Nat.le_of_ble_eq_true rfl, Nat.le_of_ble_eq_true rfl⟩ (fun H locs I => ?_)
      refine kx_icmp_ge 9 39 C dX6_known_9 (by decide) (fun c5 => ?_) (fun c5 => ?_)
      · have hf := ifp c5 hf
        refine kx_iload_n 39 C dX6_known_39 (lv_at hl 1 rfl) ?_
        exact kx_iret 40 C I hf dX6_known_40
      · have hf := ifn c5 hf
        refine kx_iload_n 12 C dX6_known_12 (lv_at hl 1 rfl) ?_
        refine kx_aload_n 13 C dX6_known_13 (lv_at hl 0 rfl) ?_
        obtain ⟨q7, h6, hf⟩ := ob hf
        refine kx_getp 14 C I fl_X6_known_7 h6 dX6_known_14 ?_
        refine kx_bipush 17 C dX6_known_17 (by decide) ?_
        refine kx_iload_n 19 C dX6_known_19 (lv_at hl 2 rfl) ?_
        refine kx_iadd 20 C dX6_known_20 ?_
        obtain ⟨x8, h9, hf⟩ := ob hf
        refine kx_iald 21 C I h9 dX6_known_21 ?_
        refine kx_iconst 22 C dX6_known_22 ?_
        refine kx_icmp_ne 23 30 C dX6_known_23 (by decide) (fun c10 => ?_) (fun c10 => ?_)
        · have hf := ifn c10 hf
          refine kx_iconst 30 C dX6_known_30 ?_
          exact ih2 _ _ _ _ _ _ _ _ hf I (lv_sub hl [0, 2] rfl)
        · have hf := ifp c10 hf
          refine kx_iconst 26 C dX6_known_26 ?_
          refine kx_goto 27 31 C dX6_known_27 (by decide) ?_
          exact ih2 _ _ _ _ _ _ _ _ hf I (lv_sub hl [0, 2] rfl)
    · intro S p0 i0 i1 i2 H locs ls hf I hl
      replace hf : b_X6_known_2 (g_X6_known fu) fu S p0 i0 i1 i2 = some (r, S') := hf
      unfold b_X6_known_2 at hf
      refine kx_iadd 31 C dX6_known_31 ?_
      obtain ⟨x11, e12, hf⟩ := nmx_e hf
      refine kx_istore_n 32 C (lv' := [(1, .int (iI x11)), (0, .ref (xB G + p0)), (2, .int (iI i0))]) dX6_known_32 hl (by decide) e12 rfl (fun ls hl => ?_)
      obtain ⟨x13, e14, hf⟩ := nmx_e hf
      refine kx_iinc 33 C (lv' := [(2, .int (iI x13)), (1, .int (iI x11)), (0, .ref (xB G + p0))]) dX6_known_33 hl 2 rfl e14 (by decide) rfl (fun ls hl => ?_)
      refine kx_goto 36 4 C dX6_known_36 (by decide) ?_
      exact ih1 _ _ _ _ _ _ _ _ hf I (lv_sub hl [2, 1, 0] rfl)
set_option maxHeartbeats 4000000 in
set_option maxRecDepth 100000 in
theorem c_X6_known (G : xG) (l : Launch) (fu : Nat) (S S' : xS) (p0 : Nat) (r : Int) (hf : f_X6_known fu S p0 = some (r, S')) : Met l yX6_known vsX6_known rm_X6_known (va_Pc [.ref (xB G + p0)] (xPre G S)) (xQi G r S') 0 0 (xA G) := by
  refine kx_met (ret := (some .int)) RX6 [(0, .ref (xB G + p0))] (by decide) rfl rfl (Nat.le_of_ble_eq_true rfl) rfl (fun p e s m below meth c ls C hin I hl => ?_)
  exact (w_X6_known C r S' fu).1 S _ _ _ _ _ _ _ hf I hl
def rm_X6_forget : Room := { frames := 2, cells := 0, slots := 0, locals := 42 }
theorem hin_X6_forget_RX6 : ∀ w ∈ wsX60, w ∈ vsX6_forget := fun w h => inM (inlX6 w h)
theorem fl_X6_forget_7 : xFl vsX6_forget RX6 7 5 0 := ⟨RX6, TX6, 30, rfl, by decide, hin_X6_forget_RX6, inM mq_4_16, rfl⟩
theorem nyS_X6_forget : yX6_forget.cls ≠ "java/lang/invoke/MethodHandle" ∧ yX6_forget.cls ≠ "java/lang/invoke/VarHandle" ∧ (parseMethodDescriptor yX6_forget.desc).map (fun d => d.parameters.length) = some 1 := by decide +kernel
theorem nyV_X6_forget : yX6_forget.cls = RX6 ∧ yX6_forget.cls ≠ "java/lang/invoke/MethodHandle" ∧ yX6_forget.cls ≠ "java/lang/invoke/VarHandle" ∧ (parseMethodDescriptor yX6_forget.desc).map (fun d => d.parameters.length) = some 1 := by decide +kernel
set_option maxHeartbeats 4000000 in
set_option maxRecDepth 100000 in
theorem w_X6_forget {G : xG} {p : Program} {l : Launch} {e : Env} {s : State} {m : MethodId} {args : Array Value} {below : List Frame} {meth : Method} {c : Code} (C : xK G p s m args meth c cX6_forget 4 vsX6_forget RX6 (some .int)) (r : Int) (S' : xS) : ∀ k : Nat,
  (∀ (S : xS) (p0 : Nat) (i0 i1 i2 : Int) (H : Heap) (locs : List Loc) (ls : Array Slot), g_X6_forget k 0 S p0 i0 i1 i2 = some (r, S') → xI G S s H locs → lv_has ls 4 [(0, .ref (xB G + p0)), (1, .int (iI i0))] → W p l e rm_X6_forget s m args below meth c H locs 0 0 (MQ below (xQi G r S') args s 0 0 (xA G)) (F0 m 0 ls [])) ∧
  (∀ (S : xS) (p0 : Nat) (i0 i1 i2 : Int) (H : Heap) (locs : List Loc) (ls : Array Slot), g_X6_forget k 1 S p0 i0 i1 i2 = some (r, S') → xI G S s H locs → lv_has ls 4 [(0, .ref (xB G + p0)), (1, .int (iI i0))] → W p l e rm_X6_forget s m args below meth c H locs 0 0 (MQ below (xQi G r S') args s 0 0 (xA G)) (F0 m 35 ls [.int (iI i1)])) ∧
  (∀ (S : xS) (p0 : Nat) (i0 i1 i2 : Int) (H : Heap) (locs : List Loc) (ls : Array Slot), g_X6_forget k 2 S p0 i0 i1 i2 = some (r, S') → xI G S s H locs → lv_has ls 4 [(0, .ref (xB G + p0)), (1, .int (iI i0)), (2, .int (iI i1)), (3, .int (iI i2))] → W p l e rm_X6_forget s m args below meth c H locs 0 0 (MQ below (xQi G r S') args s 0 0 (xA G)) (F0 m 38 ls [])) ∧
  (∀ (S : xS) (p0 : Nat) (i0 i1 i2 : Int) (H : Heap) (locs : List Loc) (ls : Array Slot), g_X6_forget k 3 S p0 i0 i1 i2 = some (r, S') → xI G S s H locs → lv_has ls 4 [(0, .ref (xB G + p0)), (1, .int (iI i0)), (2, .int (iI i1))] → W p l e rm_X6_forget s m args below meth c H locs 0 0 (MQ below (xQi G r S') args s 0 0 (xA G)) (F0 m 64 ls [])) := by
  intro k
  induction k with
  | zero => exact ⟨fun _ _ _ _ _ _ _ _ hf => (by cases hf), fun _ _ _ _ _ _ _ _ hf => (by cases hf), fun _ _ _ _ _ _ _ _ hf => (by cases hf), fun _ _ _ _ _ _ _ _ hf => (by cases hf)⟩
  | succ fu ih =>
    obtain ⟨ih0, ih1, ih2, ih3⟩ := ih
    refine ⟨?_, ?_, ?_, ?_⟩
    · intro S p0 i0 i1 i2 H locs ls hf I hl
      replace hf : b_X6_forget_0 (g_X6_forget fu) fu S p0 i0 i1 i2 = some (r, S') := hf
      unfold b_X6_forget_0 at hf
      refine kx_iload_n 0 C dX6_forget_0 (lv_at hl 1 rfl) ?_
      refine kx_i2l 1 C dX6_forget_1 ?_
      refine kx_lconst 2 C (z := 0) dX6_forget_2 rfl ?_
      refine kx_lconst 3 C (z := 1) dX6_forget_3 rfl ?_
      obtain ⟨x3, S1, h2, hf⟩ := ob2 hf
      refine kx_callSi 4 C hl I (As := [.long (lI (wI i0)), .long (lI 0), .long (lI 1)]) (rest := []) (c_X6_in G l fu _ _ _ _ _ _ h2) (va_cwS 3 C.ts gX6_forget_X6_in rfl rfl rfl nyS_X6_in ⟨Nat.le_of_ble_eq_true rfl, Nat.le_of_ble_eq_true rfl⟩) rfl rfl (Nat.le_of_ble_eq_true rfl) dX6_forget_4 ⟨Nat.le_of_ble_eq_true rfl, Nat.le_of_ble_eq_true rfl⟩ (fun H locs I => ?_)
      refine kx_if_ne 7 17 C dX6_forget_7 (by decide) (fun c4 => ?_) (fun c4 => ?_)
      · have hf := ifn c4 hf
        refine kx_iload_n 17 C dX6_forget_17 (lv_at hl 1 rfl) ?_
        refine kx_if_ne 18 28 C dX6_forget_18 (by decide) (fun c5 => ?_) (fun c5 => ?_)
        · have hf := ifn c5 hf
          refine kx_aload_n 28 C dX6_forget_28 (lv_at hl 0 rfl) ?_
          obtain ⟨q7, h6, hf⟩ := ob hf
          refine kx_getp 29 C I fl_X6_forget_7 h6 dX6_forget_29 ?_
          refine kx_bipush 32 C dX6_forget_32 (by decide) ?_
          obtain ⟨x8, h9, hf⟩ := ob hf
          refine kx_iald 34 C I h9 dX6_forget_34 ?_
          exact ih1 _ _ _ _ _ _ _ _ hf I (lv_sub hl [0, 1] rfl)
        · have hf := ifp c5 hf
          refine kx_aload_n 21 C dX6_forget_21 (lv_at hl 0 rfl) ?_
          obtain ⟨h13, hf⟩ := ift hf
          obtain ⟨x12, S10, h11, hf⟩ := ob2 hf
          refine kx_callVi 22 C hl I (ci := 5) (As := []) (rest := []) (c_X6_known G l fu _ _ _ _ h11) (cwV 0 C.ts gX6_forget_X6_known rfl rfl rfl nyV_X6_known ⟨Nat.le_of_ble_eq_true rfl, Nat.le_of_ble_eq_true rfl⟩) rfl h13 rfl rfl (Nat.le_of_ble_eq_true rfl) dX6_forget_22 ⟨Nat.le_of_ble_eq_true rfl, Nat.le_of_ble_eq_true rfl⟩ (fun H locs I => ?_)
          refine kx_goto 25 35 C dX6_forget_25 (by decide) ?_
          exact ih1 _ _ _ _ _ _ _ _ hf I (lv_sub hl [0, 1] rfl)
      · have hf := ifp c4 hf
        refine kx_aload_n 10 C dX6_forget_10 (lv_at hl 0 rfl) ?_
        refine kx_bipush 11 C dX6_forget_11 (by decide) ?_
        obtain ⟨h17, hf⟩ := ift hf
        obtain ⟨x16, S14, h15, hf⟩ := ob2 hf
        refine kx_callVi 13 C hl I (ci := 5) (As := [.int (iI ((-2)))]) (rest := []) (c_X6_bad G l fu _ _ _ _ _ h15) (cwV 1 C.ts gX6_forget_X6_bad rfl rfl rfl nyV_X6_bad ⟨Nat.le_of_ble_eq_true rfl, Nat.le_of_ble_eq_true rfl⟩) rfl h17 rfl rfl (Nat.le_of_ble_eq_true rfl) dX6_forget_13 ⟨Nat.le_of_ble_eq_true rfl, Nat.le_of_ble_eq_true rfl⟩ (fun H locs I => ?_)
        exact kx_iret 16 C I hf dX6_forget_16
    · intro S p0 i0 i1 i2 H locs ls hf I hl
      replace hf : b_X6_forget_1 (g_X6_forget fu) fu S p0 i0 i1 i2 = some (r, S') := hf
      unfold b_X6_forget_1 at hf
      refine kx_istore_n 35 C (lv' := [(2, .int (iI i1)), (0, .ref (xB G + p0)), (1, .int (iI i0))]) dX6_forget_35 hl (by decide) rfl rfl (fun ls hl => ?_)
      refine kx_iconst 36 C dX6_forget_36 ?_
      refine kx_istore_n 37 C (lv' := [(3, .int (iI 0)), (2, .int (iI i1)), (0, .ref (xB G + p0)), (1, .int (iI i0))]) dX6_forget_37 hl (by decide) rfl rfl (fun ls hl => ?_)
      exact ih2 _ _ _ _ _ _ _ _ hf I (lv_sub hl [2, 3, 1, 0] rfl)
    · intro S p0 i0 i1 i2 H locs ls hf I hl
      replace hf : b_X6_forget_2 (g_X6_forget fu) fu S p0 i0 i1 i2 = some (r, S') := hf
      unfold b_X6_forget_2 at hf
      refine kx_iload_n 38 C dX6_forget_38 (lv_at hl 3 rfl) ?_
      refine kx_bipush 39 C dX6_forget_39 (by decide) ?_
      refine kx_icmp_ge 41 64 C dX6_forget_41 (by decide) (fun c18 => ?_) (fun c18 => ?_)
      · have hf := ifp c18 hf
        exact ih3 _ _ _ _ _ _ _ _ hf I (lv_sub hl [0, 1, 2] rfl)
      · have hf := ifn c18 hf
        refine kx_iload_n 44 C dX6_forget_44 (lv_at hl 1 rfl) ?_
        refine kx_if_ne 45 64 C dX6_forget_45 (by decide) (fun c19 => ?_) (fun c19 => ?_)
        · have hf := ifn c19 hf
          exact ih3 _ _ _ _ _ _ _ _ hf I (lv_sub hl [0, 1, 2] rfl)
        · have hf := ifp c19 hf
          refine kx_aload_n 48 C dX6_forget_48 (lv_at hl 0 rfl) ?_
          obtain ⟨q21, h20, hf⟩ := ob hf
          refine kx_getp 49 C I fl_X6_forget_7 h20 dX6_forget_49 ?_
          refine kx_bipush 52 C dX6_forget_52 (by decide) ?_
          refine kx_iload_n 54 C dX6_forget_54 (lv_at hl 3 rfl) ?_
          refine kx_iadd 55 C dX6_forget_55 ?_
          refine kx_iconst 56 C dX6_forget_56 ?_
          obtain ⟨S23, h22, hf⟩ := ob hf
          refine kx_iast 57 C I h22 dX6_forget_57 (fun H locs I => ?_)
          obtain ⟨x24, e25, hf⟩ := nmx_e hf
          refine kx_iinc 58 C (lv' := [(3, .int (iI x24)), (0, .ref (xB G + p0)), (1, .int (iI i0)), (2, .int (iI i1))]) dX6_forget_58 hl 3 rfl e25 (by decide) rfl (fun ls hl => ?_)
          refine kx_goto 61 38 C dX6_forget_61 (by decide) ?_
          exact ih2 _ _ _ _ _ _ _ _ hf I (lv_sub hl [1, 2, 3, 0] rfl)
    · intro S p0 i0 i1 i2 H locs ls hf I hl
      replace hf : b_X6_forget_3 (g_X6_forget fu) fu S p0 i0 i1 i2 = some (r, S') := hf
      unfold b_X6_forget_3 at hf
      refine kx_aload_n 64 C dX6_forget_64 (lv_at hl 0 rfl) ?_
      obtain ⟨q27, h26, hf⟩ := ob hf
      refine kx_getp 65 C I fl_X6_forget_7 h26 dX6_forget_65 ?_
      refine kx_bipush 68 C dX6_forget_68 (by decide) ?_
      refine kx_iload_n 70 C dX6_forget_70 (lv_at hl 1 rfl) ?_
      refine kx_iconst 71 C dX6_forget_71 ?_
      refine kx_icmp_ne 72 79 C dX6_forget_72 (by decide) (fun c28 => ?_) (fun c28 => ?_)
      · have hf := ifn c28 hf
        refine kx_aload_n 79 C dX6_forget_79 (lv_at hl 0 rfl) ?_
        obtain ⟨q30, h29, hf⟩ := ob hf
        refine kx_getp 80 C I fl_X6_forget_7 h29 dX6_forget_80 ?_
        refine kx_bipush 83 C dX6_forget_83 (by decide) ?_
        obtain ⟨x31, h32, hf⟩ := ob hf
        refine kx_iald 85 C I h32 dX6_forget_85 ?_
        obtain ⟨S34, h33, hf⟩ := ob hf
        refine kx_iast 86 C I h33 dX6_forget_86 (fun H locs I => ?_)
        refine kx_iload_n 87 C dX6_forget_87 (lv_at hl 2 rfl) ?_
        exact kx_iret 88 C I hf dX6_forget_88
      · have hf := ifp c28 hf
        refine kx_iconst 75 C dX6_forget_75 ?_
        refine kx_goto 76 86 C dX6_forget_76 (by decide) ?_
        obtain ⟨S36, h35, hf⟩ := ob hf
        refine kx_iast 86 C I h35 dX6_forget_86 (fun H locs I => ?_)
        refine kx_iload_n 87 C dX6_forget_87 (lv_at hl 2 rfl) ?_
        exact kx_iret 88 C I hf dX6_forget_88
set_option maxHeartbeats 4000000 in
set_option maxRecDepth 100000 in
theorem c_X6_forget (G : xG) (l : Launch) (fu : Nat) (S S' : xS) (p0 : Nat) (i0 : Int) (r : Int) (hf : f_X6_forget fu S p0 i0 = some (r, S')) : Met l yX6_forget vsX6_forget rm_X6_forget (va_Pc [.ref (xB G + p0), .int (iI i0)] (xPre G S)) (xQi G r S') 0 0 (xA G) := by
  refine kx_met (ret := (some .int)) RX6 [(0, .ref (xB G + p0)), (1, .int (iI i0))] (by decide) rfl rfl (Nat.le_of_ble_eq_true rfl) rfl (fun p e s m below meth c ls C hin I hl => ?_)
  exact (w_X6_forget C r S' fu).1 S _ _ _ _ _ _ _ hf I hl
def rm_X6_free : Room := { frames := 1, cells := 0, slots := 0, locals := 20 }
theorem nyS_X6_free : yX6_free.cls ≠ "java/lang/invoke/MethodHandle" ∧ yX6_free.cls ≠ "java/lang/invoke/VarHandle" ∧ (parseMethodDescriptor yX6_free.desc).map (fun d => d.parameters.length) = some 2 := by decide +kernel
theorem nyV_X6_free : yX6_free.cls = RX6 ∧ yX6_free.cls ≠ "java/lang/invoke/MethodHandle" ∧ yX6_free.cls ≠ "java/lang/invoke/VarHandle" ∧ (parseMethodDescriptor yX6_free.desc).map (fun d => d.parameters.length) = some 2 := by decide +kernel
set_option maxHeartbeats 4000000 in
set_option maxRecDepth 100000 in
theorem w_X6_free {G : xG} {p : Program} {l : Launch} {e : Env} {s : State} {m : MethodId} {args : Array Value} {below : List Frame} {meth : Method} {c : Code} (C : xK G p s m args meth c cX6_free 4 vsX6_free RX6 (some .int)) (r : Int) (S' : xS) : ∀ k : Nat,
  (∀ (S : xS) (p0 : Nat) (i0 i1 : Int) (H : Heap) (locs : List Loc) (ls : Array Slot), g_X6_free k 0 S p0 i0 i1 = some (r, S') → xI G S s H locs → lv_has ls 4 [(0, .ref (xB G + p0)), (1, .int (iI i0)), (2, .int (iI i1))] → W p l e rm_X6_free s m args below meth c H locs 0 0 (MQ below (xQi G r S') args s 0 0 (xA G)) (F0 m 0 ls [])) ∧
  (∀ (S : xS) (p0 : Nat) (i0 i1 : Int) (H : Heap) (locs : List Loc) (ls : Array Slot), g_X6_free k 1 S p0 i0 i1 = some (r, S') → xI G S s H locs → lv_has ls 4 [(0, .ref (xB G + p0)), (2, .int (iI i0)), (3, .int (iI i1))] → W p l e rm_X6_free s m args below meth c H locs 0 0 (MQ below (xQi G r S') args s 0 0 (xA G)) (F0 m 2 ls [])) := by
  intro k
  induction k with
  | zero => exact ⟨fun _ _ _ _ _ _ _ hf => (by cases hf), fun _ _ _ _ _ _ _ hf => (by cases hf)⟩
  | succ fu ih =>
    obtain ⟨ih0, ih1⟩ := ih
    refine ⟨?_, ?_⟩
    · intro S p0 i0 i1 H locs ls hf I hl
      replace hf : b_X6_free_0 (g_X6_free fu) fu S p0 i0 i1 = some (r, S') := hf
      unfold b_X6_free_0 at hf
      refine kx_iload_n 0 C dX6_free_0 (lv_at hl 1 rfl) ?_
      refine kx_istore_n 1 C (lv' := [(3, .int (iI i0)), (0, .ref (xB G + p0)), (1, .int (iI i0)), (2, .int (iI i1))]) dX6_free_1 hl (by decide) rfl rfl (fun ls hl => ?_)
      exact ih1 _ _ _ _ _ _ _ hf I (lv_sub hl [1, 3, 0] rfl)
    · intro S p0 i0 i1 H locs ls hf I hl
      replace hf : b_X6_free_1 (g_X6_free fu) fu S p0 i0 i1 = some (r, S') := hf
      unfold b_X6_free_1 at hf
      refine kx_iload_n 2 C dX6_free_2 (lv_at hl 1 rfl) ?_
      refine kx_iload_n 3 C dX6_free_3 (lv_at hl 2 rfl) ?_
      refine kx_ishr 4 C dX6_free_4 ?_
      refine kx_iconst 5 C dX6_free_5 ?_
      refine kx_iand 6 C dX6_free_6 ?_
      refine kx_iconst 7 C dX6_free_7 ?_
      refine kx_icmp_ne 8 23 C dX6_free_8 (by decide) (fun c1 => ?_) (fun c1 => ?_)
      · have hf := ifn c1 hf
        refine kx_iload_n 23 C dX6_free_23 (lv_at hl 2 rfl) ?_
        exact kx_iret 24 C I hf dX6_free_24
      · have hf := ifp c1 hf
        refine kx_iload_n 11 C dX6_free_11 (lv_at hl 2 rfl) ?_
        refine kx_iconst 12 C dX6_free_12 ?_
        refine kx_iadd 13 C dX6_free_13 ?_
        refine kx_aload_n 14 C dX6_free_14 (lv_at hl 0 rfl) ?_
        obtain ⟨h5, hf⟩ := ift hf
        obtain ⟨x4, S2, h3, hf⟩ := ob2 hf
        refine kx_callVi 15 C hl I (ci := 5) (As := []) (rest := [.int (iI (i1 + 1))]) (c_X6_n G l fu _ _ _ _ h3) (cwV 0 C.ts gX6_free_X6_n rfl rfl rfl nyV_X6_n ⟨Nat.le_of_ble_eq_true rfl, Nat.le_of_ble_eq_true rfl⟩) rfl h5 rfl rfl (Nat.le_of_ble_eq_true rfl) dX6_free_15 ⟨Nat.le_of_ble_eq_true rfl, Nat.le_of_ble_eq_true rfl⟩ (fun H locs I => ?_)
        obtain ⟨h6, hf⟩ := ifz hf
        refine kx_irem 18 C dX6_free_18 h6 ?_
        obtain ⟨x7, e8, hf⟩ := nmx_e hf
        refine kx_istore_n 19 C (lv' := [(3, .int (iI x7)), (0, .ref (xB G + p0)), (2, .int (iI i0))]) dX6_free_19 hl (by decide) e8 rfl (fun ls hl => ?_)
        refine kx_goto 20 2 C dX6_free_20 (by decide) ?_
        exact ih1 _ _ _ _ _ _ _ hf I (lv_sub hl [1, 2, 0] rfl)
set_option maxHeartbeats 4000000 in
set_option maxRecDepth 100000 in
theorem c_X6_free (G : xG) (l : Launch) (fu : Nat) (S S' : xS) (p0 : Nat) (i0 : Int) (i1 : Int) (r : Int) (hf : f_X6_free fu S p0 i0 i1 = some (r, S')) : Met l yX6_free vsX6_free rm_X6_free (va_Pc [.ref (xB G + p0), .int (iI i0), .int (iI i1)] (xPre G S)) (xQi G r S') 0 0 (xA G) := by
  refine kx_met (ret := (some .int)) RX6 [(0, .ref (xB G + p0)), (1, .int (iI i0)), (2, .int (iI i1))] (by decide) rfl rfl (Nat.le_of_ble_eq_true rfl) rfl (fun p e s m below meth c ls C hin I hl => ?_)
  exact (w_X6_free C r S' fu).1 S _ _ _ _ _ _ hf I hl
def rm_X6_evenBox : Room := { frames := 1, cells := 0, slots := 0, locals := 20 }
theorem nyS_X6_evenBox : yX6_evenBox.cls ≠ "java/lang/invoke/MethodHandle" ∧ yX6_evenBox.cls ≠ "java/lang/invoke/VarHandle" ∧ (parseMethodDescriptor yX6_evenBox.desc).map (fun d => d.parameters.length) = some 1 := by decide +kernel
theorem nyV_X6_evenBox : yX6_evenBox.cls = RX6 ∧ yX6_evenBox.cls ≠ "java/lang/invoke/MethodHandle" ∧ yX6_evenBox.cls ≠ "java/lang/invoke/VarHandle" ∧ (parseMethodDescriptor yX6_evenBox.desc).map (fun d => d.parameters.length) = some 1 := by decide +kernel
set_option maxHeartbeats 4000000 in
set_option maxRecDepth 100000 in
theorem c_X6_evenBox (G : xG) (l : Launch) (fu : Nat) (S S' : xS) (p0 : Nat) (i0 : Int) (r : Int) (hf : f_X6_evenBox fu S p0 i0 = some (r, S')) : Met l yX6_evenBox vsX6_evenBox rm_X6_evenBox (va_Pc [.ref (xB G + p0), .int (iI i0)] (xPre G S)) (xQi G r S') 0 0 (xA G) := by
  refine kx_met (ret := (some .int)) RX6 [(0, .ref (xB G + p0)), (1, .int (iI i0))] (by decide) rfl rfl (Nat.le_of_ble_eq_true rfl) rfl (fun p e s m below meth c ls C hin I hl => ?_)
  unfold f_X6_evenBox at hf
  refine kx_aload_n 0 C dX6_evenBox_0 (lv_at hl 0 rfl) ?_
  obtain ⟨h4, hf⟩ := ift hf
  obtain ⟨x3, S1, h2, hf⟩ := ob2 hf
  refine kx_callVi 1 C hl I (ci := 5) (As := []) (rest := []) (c_X6_n G l fu _ _ _ _ h2) (cwV 0 C.ts gX6_evenBox_X6_n rfl rfl rfl nyV_X6_n ⟨Nat.le_of_ble_eq_true rfl, Nat.le_of_ble_eq_true rfl⟩) rfl h4 rfl rfl (Nat.le_of_ble_eq_true rfl) dX6_evenBox_1 ⟨Nat.le_of_ble_eq_true rfl, Nat.le_of_ble_eq_true rfl⟩ (fun H locs I => ?_)
  refine kx_iconst 4 C dX6_evenBox_4 ?_
  refine kx_iadd 5 C dX6_evenBox_5 ?_
  refine kx_iconst 6 C dX6_evenBox_6 ?_
  obtain ⟨h5, hf⟩ := ifz hf
  refine kx_idiv 7 C dX6_evenBox_7 h5 ?_
  obtain ⟨x6, e7, hf⟩ := nmx_e hf
  refine kx_istore_n 8 C (lv' := [(2, .int (iI x6)), (0, .ref (xB G + p0)), (1, .int (iI i0))]) dX6_evenBox_8 hl (by decide) e7 rfl (fun ls hl => ?_)
  refine kx_iload_n 9 C dX6_evenBox_9 (lv_at hl 2 rfl) ?_
  refine kx_iload_n 10 C dX6_evenBox_10 (lv_at hl 0 rfl) ?_
  refine kx_icmp_ge 11 20 C dX6_evenBox_11 (by decide) (fun c8 => ?_) (fun c8 => ?_)
  · have hf := ifp c8 hf
    refine kx_iconst 20 C dX6_evenBox_20 ?_
    refine kx_iload_n 21 C dX6_evenBox_21 (lv_at hl 2 rfl) ?_
    refine kx_iload_n 22 C dX6_evenBox_22 (lv_at hl 0 rfl) ?_
    refine kx_isub 23 C dX6_evenBox_23 ?_
    refine kx_imul 24 C dX6_evenBox_24 ?_
    refine kx_iconst 25 C dX6_evenBox_25 ?_
    refine kx_iadd 26 C dX6_evenBox_26 ?_
    exact kx_iret 27 C I hf dX6_evenBox_27
  · have hf := ifn c8 hf
    refine kx_iconst 14 C dX6_evenBox_14 ?_
    refine kx_iload_n 15 C dX6_evenBox_15 (lv_at hl 2 rfl) ?_
    refine kx_imul 16 C dX6_evenBox_16 ?_
    refine kx_goto 17 27 C dX6_evenBox_17 (by decide) ?_
    exact kx_iret 27 C I hf dX6_evenBox_27
def rm_X6_boxOf : Room := { frames := 2, cells := 0, slots := 0, locals := 43 }
theorem hin_X6_boxOf_RX6 : ∀ w ∈ wsX60, w ∈ vsX6_boxOf := fun w h => inM (inlX6 w h)
theorem fl_X6_boxOf_7 : xFl vsX6_boxOf RX6 7 5 0 := ⟨RX6, TX6, 30, rfl, by decide, hin_X6_boxOf_RX6, inM mq_4_16, rfl⟩
theorem fl_X6_boxOf_27 : xFl vsX6_boxOf RX6 27 5 6 := ⟨RX6, TX6, 30, rfl, by decide, hin_X6_boxOf_RX6, inM mq_4_22, rfl⟩
theorem fl_X6_boxOf_30 : xFl vsX6_boxOf RX6 30 5 8 := ⟨RX6, TX6, 30, rfl, by decide, hin_X6_boxOf_RX6, inM mq_4_23, rfl⟩
theorem nyS_X6_boxOf : yX6_boxOf.cls ≠ "java/lang/invoke/MethodHandle" ∧ yX6_boxOf.cls ≠ "java/lang/invoke/VarHandle" ∧ (parseMethodDescriptor yX6_boxOf.desc).map (fun d => d.parameters.length) = some 3 := by decide +kernel
theorem nyV_X6_boxOf : yX6_boxOf.cls = RX6 ∧ yX6_boxOf.cls ≠ "java/lang/invoke/MethodHandle" ∧ yX6_boxOf.cls ≠ "java/lang/invoke/VarHandle" ∧ (parseMethodDescriptor yX6_boxOf.desc).map (fun d => d.parameters.length) = some 3 := by decide +kernel
set_option maxHeartbeats 4000000 in
set_option maxRecDepth 100000 in
theorem w_X6_boxOf {G : xG} {p : Program} {l : Launch} {e : Env} {s : State} {m : MethodId} {args : Array Value} {below : List Frame} {meth : Method} {c : Code} (C : xK G p s m args meth c cX6_boxOf 6 vsX6_boxOf RX6 (some .int)) (r : Int) (S' : xS) : ∀ k : Nat,
  (∀ (S : xS) (p0 p1 : Nat) (i0 i1 i2 i3 i4 : Int) (H : Heap) (locs : List Loc) (ls : Array Slot), g_X6_boxOf k 0 S p0 p1 i0 i1 i2 i3 i4 = some (r, S') → xI G S s H locs → lv_has ls 6 [(0, .ref (xB G + p0)), (1, .int (iI i0)), (2, .int (iI i1)), (3, .int (iI i2))] → W p l e rm_X6_boxOf s m args below meth c H locs 0 0 (MQ below (xQi G r S') args s 0 0 (xA G)) (F0 m 0 ls [])) ∧
  (∀ (S : xS) (p0 p1 : Nat) (i0 i1 i2 i3 i4 : Int) (H : Heap) (locs : List Loc) (ls : Array Slot), g_X6_boxOf k 1 S p0 p1 i0 i1 i2 i3 i4 = some (r, S') → xI G S s H locs → lv_has ls 6 [(0, .ref (xB G + p0)), (1, .int (iI i0)), (2, .int (iI i1)), (3, .int (iI i2))] → W p l e rm_X6_boxOf s m args below meth c H locs 0 0 (MQ below (xQi G r S') args s 0 0 (xA G)) (F0 m 16 ls [.int (iI i3)])) ∧
  (∀ (S : xS) (p0 p1 : Nat) (i0 i1 i2 i3 i4 : Int) (H : Heap) (locs : List Loc) (ls : Array Slot), g_X6_boxOf k 2 S p0 p1 i0 i1 i2 i3 i4 = some (r, S') → xI G S s H locs → lv_has ls 6 [(0, .ref (xB G + p0)), (1, .int (iI i0)), (2, .int (iI i1)), (3, .int (iI i2)), (4, .int (iI i3))] → W p l e rm_X6_boxOf s m args below meth c H locs 0 0 (MQ below (xQi G r S') args s 0 0 (xA G)) (F0 m 33 ls [.int (iI i4)])) ∧
  (∀ (S : xS) (p0 p1 : Nat) (i0 i1 i2 i3 i4 : Int) (H : Heap) (locs : List Loc) (ls : Array Slot), g_X6_boxOf k 3 S p0 p1 i0 i1 i2 i3 i4 = some (r, S') → xI G S s H locs → lv_has ls 6 [(0, .ref (xB G + p0)), (3, .int (iI i0))] → W p l e rm_X6_boxOf s m args below meth c H locs 0 0 (MQ below (xQi G r S') args s 0 0 (xA G)) (F0 m 147 ls [.int (iI i2), .int (iI i1), .ref (xB G + p1)])) := by
  intro k
  induction k with
  | zero => exact ⟨fun _ _ _ _ _ _ _ _ _ _ _ hf => (by cases hf), fun _ _ _ _ _ _ _ _ _ _ _ hf => (by cases hf), fun _ _ _ _ _ _ _ _ _ _ _ hf => (by cases hf), fun _ _ _ _ _ _ _ _ _ _ _ hf => (by cases hf)⟩
  | succ fu ih =>
    obtain ⟨ih0, ih1, ih2, ih3⟩ := ih
    refine ⟨?_, ?_, ?_, ?_⟩
    · intro S p0 p1 i0 i1 i2 i3 i4 H locs ls hf I hl
      replace hf : b_X6_boxOf_0 (g_X6_boxOf fu) fu S p0 p1 i0 i1 i2 i3 i4 = some (r, S') := hf
      unfold b_X6_boxOf_0 at hf
      refine kx_iload_n 0 C dX6_boxOf_0 (lv_at hl 2 rfl) ?_
      refine kx_if_ne 1 8 C dX6_boxOf_1 (by decide) (fun c1 => ?_) (fun c1 => ?_)
      · have hf := ifn c1 hf
        refine kx_aload_n 8 C dX6_boxOf_8 (lv_at hl 0 rfl) ?_
        obtain ⟨q3, h2, hf⟩ := ob hf
        refine kx_getp 9 C I fl_X6_boxOf_30 h2 dX6_boxOf_9 ?_
        refine kx_iload_n 12 C dX6_boxOf_12 (lv_at hl 2 rfl) ?_
        refine kx_iconst 13 C dX6_boxOf_13 ?_
        refine kx_isub 14 C dX6_boxOf_14 ?_
        obtain ⟨x4, h5, hf⟩ := ob hf
        refine kx_iald 15 C I h5 dX6_boxOf_15 ?_
        exact ih1 _ _ _ _ _ _ _ _ _ _ _ hf I (lv_sub hl [0, 1, 2, 3] rfl)
      · have hf := ifp c1 hf
        refine kx_iconst 4 C dX6_boxOf_4 ?_
        refine kx_goto 5 16 C dX6_boxOf_5 (by decide) ?_
        exact ih1 _ _ _ _ _ _ _ _ _ _ _ hf I (lv_sub hl [0, 1, 2, 3] rfl)
    · intro S p0 p1 i0 i1 i2 i3 i4 H locs ls hf I hl
      replace hf : b_X6_boxOf_1 (g_X6_boxOf fu) fu S p0 p1 i0 i1 i2 i3 i4 = some (r, S') := hf
      unfold b_X6_boxOf_1 at hf
      refine kx_istore 16 C (lv' := [(4, .int (iI i3)), (0, .ref (xB G + p0)), (1, .int (iI i0)), (2, .int (iI i1)), (3, .int (iI i2))]) dX6_boxOf_16 hl (by decide) rfl rfl (fun ls hl => ?_)
      refine kx_iload_n 18 C dX6_boxOf_18 (lv_at hl 3 rfl) ?_
      refine kx_if_ne 19 26 C dX6_boxOf_19 (by decide) (fun c6 => ?_) (fun c6 => ?_)
      · have hf := ifn c6 hf
        refine kx_aload_n 26 C dX6_boxOf_26 (lv_at hl 1 rfl) ?_
        obtain ⟨q8, h7, hf⟩ := ob hf
        refine kx_getp 27 C I fl_X6_boxOf_27 h7 dX6_boxOf_27 ?_
        refine kx_iload 30 C dX6_boxOf_30 (lv_at hl 0 rfl) ?_
        obtain ⟨x9, h10, hf⟩ := ob hf
        refine kx_iald 32 C I h10 dX6_boxOf_32 ?_
        exact ih2 _ _ _ _ _ _ _ _ _ _ _ hf I (lv_sub hl [1, 2, 3, 4, 0] rfl)
      · have hf := ifp c6 hf
        refine kx_iload_n 22 C dX6_boxOf_22 (lv_at hl 2 rfl) ?_
        refine kx_goto 23 33 C dX6_boxOf_23 (by decide) ?_
        exact ih2 _ _ _ _ _ _ _ _ _ _ _ hf I (lv_sub hl [1, 2, 3, 4, 0] rfl)
    · intro S p0 p1 i0 i1 i2 i3 i4 H locs ls hf I hl
      replace hf : b_X6_boxOf_2 (g_X6_boxOf fu) fu S p0 p1 i0 i1 i2 i3 i4 = some (r, S') := hf
      unfold b_X6_boxOf_2 at hf
      refine kx_istore 33 C (lv' := [(5, .int (iI i4)), (0, .ref (xB G + p0)), (1, .int (iI i0)), (2, .int (iI i1)), (3, .int (iI i2)), (4, .int (iI i3))]) dX6_boxOf_33 hl (by decide) rfl rfl (fun ls hl => ?_)
      refine kx_aload_n 35 C dX6_boxOf_35 (lv_at hl 1 rfl) ?_
      obtain ⟨q12, h11, hf⟩ := ob hf
      refine kx_getp 36 C I fl_X6_boxOf_7 h11 dX6_boxOf_36 ?_
      refine kx_bipush 39 C dX6_boxOf_39 (by decide) ?_
      refine kx_iload_n 41 C dX6_boxOf_41 (lv_at hl 2 rfl) ?_
      refine kx_iadd 42 C dX6_boxOf_42 ?_
      obtain ⟨x13, h14, hf⟩ := ob hf
      refine kx_iald 43 C I h14 dX6_boxOf_43 ?_
      by_cases c15 : wI x13 = 1
      · have hf := ifp c15 hf
        refine kx_tabIn 44 80 C 1 dX6_boxOf_44 c15 (by decide) rfl (by decide) ?_
        refine kx_iload_n 80 C dX6_boxOf_80 (lv_at hl 3 rfl) ?_
        exact kx_iret 81 C I hf dX6_boxOf_81
      have hf := ifn c15 hf
      by_cases c16 : wI x13 = 2
      · have hf := ifp c16 hf
        refine kx_tabIn 44 82 C 2 dX6_boxOf_44 c16 (by decide) rfl (by decide) ?_
        refine kx_aload_n 82 C dX6_boxOf_82 (lv_at hl 1 rfl) ?_
        obtain ⟨h20, hf⟩ := ift hf
        obtain ⟨x19, S17, h18, hf⟩ := ob2 hf
        refine kx_callVi 83 C hl I (ci := 5) (As := []) (rest := []) (c_X6_n G l fu _ _ _ _ h18) (cwV 0 C.ts gX6_boxOf_X6_n rfl rfl rfl nyV_X6_n ⟨Nat.le_of_ble_eq_true rfl, Nat.le_of_ble_eq_true rfl⟩) rfl h20 rfl rfl (Nat.le_of_ble_eq_true rfl) dX6_boxOf_83 ⟨Nat.le_of_ble_eq_true rfl, Nat.le_of_ble_eq_true rfl⟩ (fun H locs I => ?_)
        refine kx_iconst 86 C dX6_boxOf_86 ?_
        refine kx_isub 87 C dX6_boxOf_87 ?_
        refine kx_iload_n 88 C dX6_boxOf_88 (lv_at hl 3 rfl) ?_
        refine kx_isub 89 C dX6_boxOf_89 ?_
        exact kx_iret 90 C I hf dX6_boxOf_90
      have hf := ifn c16 hf
      by_cases c21 : wI x13 = 3
      · have hf := ifp c21 hf
        refine kx_tabIn 44 91 C 3 dX6_boxOf_44 c21 (by decide) rfl (by decide) ?_
        refine kx_aload_n 91 C dX6_boxOf_91 (lv_at hl 1 rfl) ?_
        refine kx_iload_n 92 C dX6_boxOf_92 (lv_at hl 3 rfl) ?_
        obtain ⟨h25, hf⟩ := ift hf
        obtain ⟨x24, S22, h23, hf⟩ := ob2 hf
        refine kx_callVi 93 C hl I (ci := 5) (As := [.int (iI i1)]) (rest := []) (c_X6_evenBox G l fu _ _ _ _ _ h23) (cwV 1 C.ts gX6_boxOf_X6_evenBox rfl rfl rfl nyV_X6_evenBox ⟨Nat.le_of_ble_eq_true rfl, Nat.le_of_ble_eq_true rfl⟩) rfl h25 rfl rfl (Nat.le_of_ble_eq_true rfl) dX6_boxOf_93 ⟨Nat.le_of_ble_eq_true rfl, Nat.le_of_ble_eq_true rfl⟩ (fun H locs I => ?_)
        exact kx_iret 96 C I hf dX6_boxOf_96
      have hf := ifn c21 hf
      by_cases c26 : wI x13 = 4
      · have hf := ifp c26 hf
        refine kx_tabIn 44 97 C 4 dX6_boxOf_44 c26 (by decide) rfl (by decide) ?_
        refine kx_aload_n 97 C dX6_boxOf_97 (lv_at hl 1 rfl) ?_
        refine kx_iload 98 C dX6_boxOf_98 (lv_at hl 0 rfl) ?_
        refine kx_aload_n 100 C dX6_boxOf_100 (lv_at hl 1 rfl) ?_
        obtain ⟨q28, h27, hf⟩ := ob hf
        refine kx_getp 101 C I fl_X6_boxOf_7 h27 dX6_boxOf_101 ?_
        refine kx_iconst 104 C dX6_boxOf_104 ?_
        obtain ⟨x29, h30, hf⟩ := ob hf
        refine kx_iald 105 C I h30 dX6_boxOf_105 ?_
        refine kx_iadd 106 C dX6_boxOf_106 ?_
        refine kx_aload_n 107 C dX6_boxOf_107 (lv_at hl 1 rfl) ?_
        obtain ⟨h34, hf⟩ := ift hf
        obtain ⟨x33, S31, h32, hf⟩ := ob2 hf
        refine kx_callVi 108 C hl I (ci := 5) (As := []) (rest := [.int (iI (i4 + x29)), .ref (xB G + p0)]) (c_X6_n G l fu _ _ _ _ h32) (cwV 0 C.ts gX6_boxOf_X6_n rfl rfl rfl nyV_X6_n ⟨Nat.le_of_ble_eq_true rfl, Nat.le_of_ble_eq_true rfl⟩) rfl h34 rfl rfl (Nat.le_of_ble_eq_true rfl) dX6_boxOf_108 ⟨Nat.le_of_ble_eq_true rfl, Nat.le_of_ble_eq_true rfl⟩ (fun H locs I => ?_)
        obtain ⟨h35, hf⟩ := ifz hf
        refine kx_irem 111 C dX6_boxOf_111 h35 ?_
        refine kx_iload_n 112 C dX6_boxOf_112 (lv_at hl 4 rfl) ?_
        obtain ⟨h39, hf⟩ := ift hf
        obtain ⟨x38, S36, h37, hf⟩ := ob2 hf
        refine kx_callVi 113 C hl I (ci := 5) (As := [.int (iI ((wI (i4 + x29)).tmod (wI x33))), .int (iI i2)]) (rest := []) (c_X6_free G l fu _ _ _ _ _ _ h37) (cwV 2 C.ts gX6_boxOf_X6_free rfl rfl rfl nyV_X6_free ⟨Nat.le_of_ble_eq_true rfl, Nat.le_of_ble_eq_true rfl⟩) rfl h39 rfl rfl (Nat.le_of_ble_eq_true rfl) dX6_boxOf_113 ⟨Nat.le_of_ble_eq_true rfl, Nat.le_of_ble_eq_true rfl⟩ (fun H locs I => ?_)
        exact kx_iret 116 C I hf dX6_boxOf_116
      have hf := ifn c26 hf
      by_cases c40 : wI x13 = 5
      · have hf := ifp c40 hf
        refine kx_tabIn 44 117 C 5 dX6_boxOf_44 c40 (by decide) rfl (by decide) ?_
        refine kx_iload_n 117 C dX6_boxOf_117 (lv_at hl 3 rfl) ?_
        refine kx_if_ne 118 125 C dX6_boxOf_118 (by decide) (fun c41 => ?_) (fun c41 => ?_)
        · have hf := ifn c41 hf
          refine kx_aload_n 125 C dX6_boxOf_125 (lv_at hl 1 rfl) ?_
          refine kx_iload 126 C dX6_boxOf_126 (lv_at hl 5 rfl) ?_
          refine kx_aload_n 128 C dX6_boxOf_128 (lv_at hl 1 rfl) ?_
          obtain ⟨q43, h42, hf⟩ := ob hf
          refine kx_getp 129 C I fl_X6_boxOf_7 h42 dX6_boxOf_129 ?_
          refine kx_iconst 132 C dX6_boxOf_132 ?_
          obtain ⟨x44, h45, hf⟩ := ob hf
          refine kx_iald 133 C I h45 dX6_boxOf_133 ?_
          refine kx_if_ne 134 141 C dX6_boxOf_134 (by decide) (fun c46 => ?_) (fun c46 => ?_)
          · have hf := ifn c46 hf
            refine kx_aload_n 141 C dX6_boxOf_141 (lv_at hl 1 rfl) ?_
            obtain ⟨q48, h47, hf⟩ := ob hf
            refine kx_getp 142 C I fl_X6_boxOf_7 h47 dX6_boxOf_142 ?_
            refine kx_iconst 145 C dX6_boxOf_145 ?_
            obtain ⟨x49, h50, hf⟩ := ob hf
            refine kx_iald 146 C I h50 dX6_boxOf_146 ?_
            exact ih3 _ _ _ _ _ _ _ _ _ _ _ hf I (lv_sub hl [1, 4] rfl)
          · have hf := ifp c46 hf
            refine kx_iconst 137 C dX6_boxOf_137 ?_
            refine kx_goto 138 147 C dX6_boxOf_138 (by decide) ?_
            exact ih3 _ _ _ _ _ _ _ _ _ _ _ hf I (lv_sub hl [1, 4] rfl)
        · have hf := ifp c41 hf
          refine kx_iconst 121 C dX6_boxOf_121 ?_
          refine kx_goto 122 157 C dX6_boxOf_122 (by decide) ?_
          exact kx_iret 157 C I hf dX6_boxOf_157
      have hf := ifn c40 hf
      refine kx_tabOut 44 158 C dX6_boxOf_44 (by omega) (by decide) ?_
      refine kx_iload 158 C dX6_boxOf_158 (lv_at hl 0 rfl) ?_
      exact kx_iret 160 C I hf dX6_boxOf_160
    · intro S p0 p1 i0 i1 i2 i3 i4 H locs ls hf I hl
      replace hf : b_X6_boxOf_3 (g_X6_boxOf fu) fu S p0 p1 i0 i1 i2 i3 i4 = some (r, S') := hf
      unfold b_X6_boxOf_3 at hf
      refine kx_iadd 147 C dX6_boxOf_147 ?_
      refine kx_aload_n 148 C dX6_boxOf_148 (lv_at hl 0 rfl) ?_
      obtain ⟨h54, hf⟩ := ift hf
      obtain ⟨x53, S51, h52, hf⟩ := ob2 hf
      refine kx_callVi 149 C hl I (ci := 5) (As := []) (rest := [.int (iI (i1 + i2)), .ref (xB G + p1)]) (c_X6_n G l fu _ _ _ _ h52) (cwV 0 C.ts gX6_boxOf_X6_n rfl rfl rfl nyV_X6_n ⟨Nat.le_of_ble_eq_true rfl, Nat.le_of_ble_eq_true rfl⟩) rfl h54 rfl rfl (Nat.le_of_ble_eq_true rfl) dX6_boxOf_149 ⟨Nat.le_of_ble_eq_true rfl, Nat.le_of_ble_eq_true rfl⟩ (fun H locs I => ?_)
      obtain ⟨h55, hf⟩ := ifz hf
      refine kx_irem 152 C dX6_boxOf_152 h55 ?_
      refine kx_iload_n 153 C dX6_boxOf_153 (lv_at hl 1 rfl) ?_
      obtain ⟨h59, hf⟩ := ift hf
      obtain ⟨x58, S56, h57, hf⟩ := ob2 hf
      refine kx_callVi 154 C hl I (ci := 5) (As := [.int (iI ((wI (i1 + i2)).tmod (wI x53))), .int (iI i0)]) (rest := []) (c_X6_free G l fu _ _ _ _ _ _ h57) (cwV 2 C.ts gX6_boxOf_X6_free rfl rfl rfl nyV_X6_free ⟨Nat.le_of_ble_eq_true rfl, Nat.le_of_ble_eq_true rfl⟩) rfl h59 rfl rfl (Nat.le_of_ble_eq_true rfl) dX6_boxOf_154 ⟨Nat.le_of_ble_eq_true rfl, Nat.le_of_ble_eq_true rfl⟩ (fun H locs I => ?_)
      exact kx_iret 157 C I hf dX6_boxOf_157
set_option maxHeartbeats 4000000 in
set_option maxRecDepth 100000 in
theorem c_X6_boxOf (G : xG) (l : Launch) (fu : Nat) (S S' : xS) (p0 : Nat) (i0 : Int) (i1 : Int) (i2 : Int) (r : Int) (hf : f_X6_boxOf fu S p0 i0 i1 i2 = some (r, S')) : Met l yX6_boxOf vsX6_boxOf rm_X6_boxOf (va_Pc [.ref (xB G + p0), .int (iI i0), .int (iI i1), .int (iI i2)] (xPre G S)) (xQi G r S') 0 0 (xA G) := by
  refine kx_met (ret := (some .int)) RX6 [(0, .ref (xB G + p0)), (1, .int (iI i0)), (2, .int (iI i1)), (3, .int (iI i2))] (by decide) rfl rfl (Nat.le_of_ble_eq_true rfl) rfl (fun p e s m below meth c ls C hin I hl => ?_)
  exact (w_X6_boxOf C r S' fu).1 S _ _ _ _ _ _ _ _ _ _ hf I hl
def rm_X6_seek : Room := { frames := 3, cells := 0, slots := 0, locals := 68 }
theorem hin_X6_seek_RX6 : ∀ w ∈ wsX60, w ∈ vsX6_seek := fun w h => inM (inlX6 w h)
theorem fl_X6_seek_7 : xFl vsX6_seek RX6 7 5 0 := ⟨RX6, TX6, 30, rfl, by decide, hin_X6_seek_RX6, inM mq_4_16, rfl⟩
theorem fl_X6_seek_27 : xFl vsX6_seek RX6 27 5 6 := ⟨RX6, TX6, 30, rfl, by decide, hin_X6_seek_RX6, inM mq_4_22, rfl⟩
theorem fl_X6_seek_30 : xFl vsX6_seek RX6 30 5 8 := ⟨RX6, TX6, 30, rfl, by decide, hin_X6_seek_RX6, inM mq_4_23, rfl⟩
theorem fl_X6_seek_151 : xFl vsX6_seek RX6 151 5 9 := ⟨RX6, TX6, 30, rfl, by decide, hin_X6_seek_RX6, inM mq_26_14, rfl⟩
theorem fl_X6_seek_154 : xFl vsX6_seek RX6 154 5 10 := ⟨RX6, TX6, 30, rfl, by decide, hin_X6_seek_RX6, inM mq_26_19, rfl⟩
theorem nyS_X6_seek : yX6_seek.cls ≠ "java/lang/invoke/MethodHandle" ∧ yX6_seek.cls ≠ "java/lang/invoke/VarHandle" ∧ (parseMethodDescriptor yX6_seek.desc).map (fun d => d.parameters.length) = some 1 := by decide +kernel
theorem nyV_X6_seek : yX6_seek.cls = RX6 ∧ yX6_seek.cls ≠ "java/lang/invoke/MethodHandle" ∧ yX6_seek.cls ≠ "java/lang/invoke/VarHandle" ∧ (parseMethodDescriptor yX6_seek.desc).map (fun d => d.parameters.length) = some 1 := by decide +kernel
set_option maxHeartbeats 4000000 in
set_option maxRecDepth 100000 in
theorem w_X6_seek {G : xG} {p : Program} {l : Launch} {e : Env} {s : State} {m : MethodId} {args : Array Value} {below : List Frame} {meth : Method} {c : Code} (C : xK G p s m args meth c cX6_seek 4 vsX6_seek RX6 none) (r : Int) (S' : xS) : ∀ k : Nat,
  (∀ (S : xS) (p0 p1 : Nat) (i0 i1 i2 : Int) (H : Heap) (locs : List Loc) (ls : Array Slot), g_X6_seek k 0 S p0 p1 i0 i1 i2 = some (r, S') → xI G S s H locs → lv_has ls 4 [(0, .ref (xB G + p0)), (1, .int (iI i0))] → W p l e rm_X6_seek s m args below meth c H locs 0 0 (MQ below (xQv G S') args s 0 0 (xA G)) (F0 m 0 ls [])) ∧
  (∀ (S : xS) (p0 p1 : Nat) (i0 i1 i2 : Int) (H : Heap) (locs : List Loc) (ls : Array Slot), g_X6_seek k 1 S p0 p1 i0 i1 i2 = some (r, S') → xI G S s H locs → lv_has ls 4 [(0, .ref (xB G + p0)), (1, .int (iI i0)), (2, .int (iI i1))] → W p l e rm_X6_seek s m args below meth c H locs 0 0 (MQ below (xQv G S') args s 0 0 (xA G)) (F0 m 12 ls [])) ∧
  (∀ (S : xS) (p0 p1 : Nat) (i0 i1 i2 : Int) (H : Heap) (locs : List Loc) (ls : Array Slot), g_X6_seek k 2 S p0 p1 i0 i1 i2 = some (r, S') → xI G S s H locs → lv_has ls 4 [(0, .ref (xB G + p0)), (1, .int (iI i0)), (2, .int (iI i1))] → W p l e rm_X6_seek s m args below meth c H locs 0 0 (MQ below (xQv G S') args s 0 0 (xA G)) (F0 m 85 ls [.int (iI i2), .ref (xB G + p1)])) := by
  intro k
  induction k with
  | zero => exact ⟨fun _ _ _ _ _ _ _ _ _ hf => (by cases hf), fun _ _ _ _ _ _ _ _ _ hf => (by cases hf), fun _ _ _ _ _ _ _ _ _ hf => (by cases hf)⟩
  | succ fu ih =>
    obtain ⟨ih0, ih1, ih2⟩ := ih
    refine ⟨?_, ?_, ?_⟩
    · intro S p0 p1 i0 i1 i2 H locs ls hf I hl
      replace hf : b_X6_seek_0 (g_X6_seek fu) fu S p0 p1 i0 i1 i2 = some (r, S') := hf
      unfold b_X6_seek_0 at hf
      refine kx_aload_n 0 C dX6_seek_0 (lv_at hl 0 rfl) ?_
      refine kx_iconst 1 C dX6_seek_1 ?_
      obtain ⟨S2, h1, hf⟩ := ob hf
      refine kx_puti 2 C I fl_X6_seek_151 fw_RX6_9 h1 dX6_seek_2 (fun H locs I => ?_)
      refine kx_aload_n 5 C dX6_seek_5 (lv_at hl 0 rfl) ?_
      refine kx_iconst 6 C dX6_seek_6 ?_
      obtain ⟨S4, h3, hf⟩ := ob hf
      refine kx_putz 7 C I fl_X6_seek_154 fw_RX6_10 (by decide) h3 dX6_seek_7 (fun H locs I => ?_)
      refine kx_iconst 10 C dX6_seek_10 ?_
      refine kx_istore_n 11 C (lv' := [(2, .int (iI 0)), (0, .ref (xB G + p0)), (1, .int (iI i0))]) dX6_seek_11 hl (by decide) rfl rfl (fun ls hl => ?_)
      exact ih1 _ _ _ _ _ _ _ _ _ hf I (lv_sub hl [1, 2, 0] rfl)
    · intro S p0 p1 i0 i1 i2 H locs ls hf I hl
      replace hf : b_X6_seek_1 (g_X6_seek fu) fu S p0 p1 i0 i1 i2 = some (r, S') := hf
      unfold b_X6_seek_1 at hf
      refine kx_aload_n 12 C dX6_seek_12 (lv_at hl 0 rfl) ?_
      obtain ⟨x7, h6, hf⟩ := ob hf
      refine kx_geti 13 C I fl_X6_seek_154 h6 dX6_seek_13 ?_
      refine kx_if_ne 16 91 C dX6_seek_16 (by decide) (fun c8 => ?_) (fun c8 => ?_)
      · have hf := ifn c8 hf
        exact kx_vret 91 C I hf dX6_seek_91
      · have hf := ifp c8 hf
        refine kx_aload_n 19 C dX6_seek_19 (lv_at hl 0 rfl) ?_
        obtain ⟨x10, h9, hf⟩ := ob hf
        refine kx_geti 20 C I fl_X6_seek_151 h9 dX6_seek_20 ?_
        refine kx_aload_n 23 C dX6_seek_23 (lv_at hl 0 rfl) ?_
        obtain ⟨q12, h11, hf⟩ := ob hf
        refine kx_getp 24 C I fl_X6_seek_7 h11 dX6_seek_24 ?_
        refine kx_iconst 27 C dX6_seek_27 ?_
        obtain ⟨x13, h14, hf⟩ := ob hf
        refine kx_iald 28 C I h14 dX6_seek_28 ?_
        refine kx_icmp_ge 29 91 C dX6_seek_29 (by decide) (fun c15 => ?_) (fun c15 => ?_)
        · have hf := ifp c15 hf
          exact kx_vret 91 C I hf dX6_seek_91
        · have hf := ifn c15 hf
          refine kx_aload_n 32 C dX6_seek_32 (lv_at hl 0 rfl) ?_
          refine kx_iload_n 33 C dX6_seek_33 (lv_at hl 1 rfl) ?_
          refine kx_aload_n 34 C dX6_seek_34 (lv_at hl 0 rfl) ?_
          obtain ⟨x17, h16, hf⟩ := ob hf
          refine kx_geti 35 C I fl_X6_seek_151 h16 dX6_seek_35 ?_
          refine kx_iload_n 38 C dX6_seek_38 (lv_at hl 2 rfl) ?_
          obtain ⟨h21, hf⟩ := ift hf
          obtain ⟨x20, S18, h19, hf⟩ := ob2 hf
          refine kx_callVi 39 C hl I (ci := 5) (As := [.int (iI i0), .int (iI x17), .int (iI i1)]) (rest := []) (c_X6_boxOf G l fu _ _ _ _ _ _ _ h19) (cwV 3 C.ts gX6_seek_X6_boxOf rfl rfl rfl nyV_X6_boxOf ⟨Nat.le_of_ble_eq_true rfl, Nat.le_of_ble_eq_true rfl⟩) rfl h21 rfl rfl (Nat.le_of_ble_eq_true rfl) dX6_seek_39 ⟨Nat.le_of_ble_eq_true rfl, Nat.le_of_ble_eq_true rfl⟩ (fun H locs I => ?_)
          refine kx_istore_n 42 C (lv' := [(3, .int (iI x20)), (0, .ref (xB G + p0)), (1, .int (iI i0)), (2, .int (iI i1))]) dX6_seek_42 hl (by decide) rfl rfl (fun ls hl => ?_)
          refine kx_aload_n 43 C dX6_seek_43 (lv_at hl 1 rfl) ?_
          obtain ⟨q23, h22, hf⟩ := ob hf
          refine kx_getp 44 C I fl_X6_seek_30 h22 dX6_seek_44 ?_
          refine kx_aload_n 47 C dX6_seek_47 (lv_at hl 1 rfl) ?_
          obtain ⟨x25, h24, hf⟩ := ob hf
          refine kx_geti 48 C I fl_X6_seek_151 h24 dX6_seek_48 ?_
          refine kx_iload_n 51 C dX6_seek_51 (lv_at hl 0 rfl) ?_
          obtain ⟨S27, h26, hf⟩ := ob hf
          refine kx_iast 52 C I h26 dX6_seek_52 (fun H locs I => ?_)
          refine kx_aload_n 53 C dX6_seek_53 (lv_at hl 1 rfl) ?_
          refine kx_dup 54 C dX6_seek_54 rfl ?_
          obtain ⟨x29, h28, hf⟩ := ob hf
          refine kx_geti 55 C I fl_X6_seek_151 h28 dX6_seek_55 ?_
          refine kx_iconst 58 C dX6_seek_58 ?_
          refine kx_iadd 59 C dX6_seek_59 ?_
          obtain ⟨S31, h30, hf⟩ := ob hf
          refine kx_puti 60 C I fl_X6_seek_151 fw_RX6_9 h30 dX6_seek_60 (fun H locs I => ?_)
          refine kx_iload_n 63 C dX6_seek_63 (lv_at hl 3 rfl) ?_
          refine kx_iconst 64 C dX6_seek_64 ?_
          refine kx_iload_n 65 C dX6_seek_65 (lv_at hl 0 rfl) ?_
          refine kx_ishl 66 C dX6_seek_66 ?_
          refine kx_ior 67 C dX6_seek_67 ?_
          obtain ⟨x32, e33, hf⟩ := nmx_e hf
          refine kx_istore_n 68 C (lv' := [(2, .int (iI x32)), (3, .int (iI x20)), (0, .ref (xB G + p0)), (1, .int (iI i0))]) dX6_seek_68 hl (by decide) e33 rfl (fun ls hl => ?_)
          refine kx_aload_n 69 C dX6_seek_69 (lv_at hl 2 rfl) ?_
          refine kx_aload_n 70 C dX6_seek_70 (lv_at hl 2 rfl) ?_
          obtain ⟨q35, h34, hf⟩ := ob hf
          refine kx_getp 71 C I fl_X6_seek_27 h34 dX6_seek_71 ?_
          refine kx_iload_n 74 C dX6_seek_74 (lv_at hl 1 rfl) ?_
          obtain ⟨x36, h37, hf⟩ := ob hf
          refine kx_iald 75 C I h37 dX6_seek_75 ?_
          refine kx_iload_n 76 C dX6_seek_76 (lv_at hl 3 rfl) ?_
          refine kx_icmp_ne 77 84 C dX6_seek_77 (by decide) (fun c38 => ?_) (fun c38 => ?_)
          · have hf := ifn c38 hf
            refine kx_iconst 84 C dX6_seek_84 ?_
            exact ih2 _ _ _ _ _ _ _ _ _ hf I (lv_sub hl [2, 3, 0] rfl)
          · have hf := ifp c38 hf
            refine kx_iconst 80 C dX6_seek_80 ?_
            refine kx_goto 81 85 C dX6_seek_81 (by decide) ?_
            exact ih2 _ _ _ _ _ _ _ _ _ hf I (lv_sub hl [2, 3, 0] rfl)
    · intro S p0 p1 i0 i1 i2 H locs ls hf I hl
      replace hf : b_X6_seek_2 (g_X6_seek fu) fu S p0 p1 i0 i1 i2 = some (r, S') := hf
      unfold b_X6_seek_2 at hf
      obtain ⟨h41, hf⟩ := ift hf
      obtain ⟨S40, h39, hf⟩ := ob hf
      refine kx_putz 85 C I fl_X6_seek_154 fw_RX6_10 h41 h39 dX6_seek_85 (fun H locs I => ?_)
      refine kx_goto 88 12 C dX6_seek_88 (by decide) ?_
      exact ih1 _ _ _ _ _ _ _ _ _ hf I (lv_sub hl [0, 1, 2] rfl)
set_option maxHeartbeats 4000000 in
set_option maxRecDepth 100000 in
theorem c_X6_seek (G : xG) (l : Launch) (fu : Nat) (S S' : xS) (p0 : Nat) (i0 : Int) (r : Int) (hf : f_X6_seek fu S p0 i0 = some (r, S')) : Met l yX6_seek vsX6_seek rm_X6_seek (va_Pc [.ref (xB G + p0), .int (iI i0)] (xPre G S)) (xQv G S') 0 0 (xA G) := by
  refine kx_met (ret := none) RX6 [(0, .ref (xB G + p0)), (1, .int (iI i0))] (by decide) rfl rfl (Nat.le_of_ble_eq_true rfl) rfl (fun p e s m below meth c ls C hin I hl => ?_)
  exact (w_X6_seek C r S' fu).1 S _ _ _ _ _ _ _ _ hf I hl
def rm_X6_findsHand : Room := { frames := 4, cells := 0, slots := 0, locals := 91 }
theorem hin_X6_findsHand_RX6 : ∀ w ∈ wsX60, w ∈ vsX6_findsHand := fun w h => inM (inlX6 w h)
theorem fl_X6_findsHand_154 : xFl vsX6_findsHand RX6 154 5 10 := ⟨RX6, TX6, 30, rfl, by decide, hin_X6_findsHand_RX6, inM mq_26_19, rfl⟩
theorem nyS_X6_findsHand : yX6_findsHand.cls ≠ "java/lang/invoke/MethodHandle" ∧ yX6_findsHand.cls ≠ "java/lang/invoke/VarHandle" ∧ (parseMethodDescriptor yX6_findsHand.desc).map (fun d => d.parameters.length) = some 0 := by decide +kernel
theorem nyV_X6_findsHand : yX6_findsHand.cls = RX6 ∧ yX6_findsHand.cls ≠ "java/lang/invoke/MethodHandle" ∧ yX6_findsHand.cls ≠ "java/lang/invoke/VarHandle" ∧ (parseMethodDescriptor yX6_findsHand.desc).map (fun d => d.parameters.length) = some 0 := by decide +kernel
set_option maxHeartbeats 4000000 in
set_option maxRecDepth 100000 in
theorem w_X6_findsHand {G : xG} {p : Program} {l : Launch} {e : Env} {s : State} {m : MethodId} {args : Array Value} {below : List Frame} {meth : Method} {c : Code} (C : xK G p s m args meth c cX6_findsHand 3 vsX6_findsHand RX6 (some .int)) (r : Int) (S' : xS) : ∀ k : Nat,
  (∀ (S : xS) (p0 : Nat) (i0 i1 i2 : Int) (H : Heap) (locs : List Loc) (ls : Array Slot), g_X6_findsHand k 0 S p0 i0 i1 i2 = some (r, S') → xI G S s H locs → lv_has ls 3 [(0, .ref (xB G + p0))] → W p l e rm_X6_findsHand s m args below meth c H locs 0 0 (MQ below (xQi G r S') args s 0 0 (xA G)) (F0 m 0 ls [])) ∧
  (∀ (S : xS) (p0 : Nat) (i0 i1 i2 : Int) (H : Heap) (locs : List Loc) (ls : Array Slot), g_X6_findsHand k 1 S p0 i0 i1 i2 = some (r, S') → xI G S s H locs → lv_has ls 3 [(0, .ref (xB G + p0)), (1, .int (iI i0)), (2, .int (iI i1))] → W p l e rm_X6_findsHand s m args below meth c H locs 0 0 (MQ below (xQi G r S') args s 0 0 (xA G)) (F0 m 4 ls [])) ∧
  (∀ (S : xS) (p0 : Nat) (i0 i1 i2 : Int) (H : Heap) (locs : List Loc) (ls : Array Slot), g_X6_findsHand k 2 S p0 i0 i1 i2 = some (r, S') → xI G S s H locs → lv_has ls 3 [(0, .ref (xB G + p0)), (2, .int (iI i0))] → W p l e rm_X6_findsHand s m args below meth c H locs 0 0 (MQ below (xQi G r S') args s 0 0 (xA G)) (F0 m 32 ls [.int (iI i2), .int (iI i1)])) := by
  intro k
  induction k with
  | zero => exact ⟨fun _ _ _ _ _ _ _ _ hf => (by cases hf), fun _ _ _ _ _ _ _ _ hf => (by cases hf), fun _ _ _ _ _ _ _ _ hf => (by cases hf)⟩
  | succ fu ih =>
    obtain ⟨ih0, ih1, ih2⟩ := ih
    refine ⟨?_, ?_, ?_⟩
    · intro S p0 i0 i1 i2 H locs ls hf I hl
      replace hf : b_X6_findsHand_0 (g_X6_findsHand fu) fu S p0 i0 i1 i2 = some (r, S') := hf
      unfold b_X6_findsHand_0 at hf
      refine kx_iconst 0 C dX6_findsHand_0 ?_
      refine kx_istore_n 1 C (lv' := [(1, .int (iI 0)), (0, .ref (xB G + p0))]) dX6_findsHand_1 hl (by decide) rfl rfl (fun ls hl => ?_)
      refine kx_iconst 2 C dX6_findsHand_2 ?_
      refine kx_istore_n 3 C (lv' := [(2, .int (iI 0)), (1, .int (iI 0)), (0, .ref (xB G + p0))]) dX6_findsHand_3 hl (by decide) rfl rfl (fun ls hl => ?_)
      exact ih1 _ _ _ _ _ _ _ _ hf I (lv_sub hl [2, 1, 0] rfl)
    · intro S p0 i0 i1 i2 H locs ls hf I hl
      replace hf : b_X6_findsHand_1 (g_X6_findsHand fu) fu S p0 i0 i1 i2 = some (r, S') := hf
      unfold b_X6_findsHand_1 at hf
      refine kx_iload_n 4 C dX6_findsHand_4 (lv_at hl 2 rfl) ?_
      refine kx_aload_n 5 C dX6_findsHand_5 (lv_at hl 0 rfl) ?_
      obtain ⟨h4, hf⟩ := ift hf
      obtain ⟨x3, S1, h2, hf⟩ := ob2 hf
      refine kx_callVi 6 C hl I (ci := 5) (As := []) (rest := [.int (iI i1)]) (c_X6_n G l fu _ _ _ _ h2) (cwV 0 C.ts gX6_findsHand_X6_n rfl rfl rfl nyV_X6_n ⟨Nat.le_of_ble_eq_true rfl, Nat.le_of_ble_eq_true rfl⟩) rfl h4 rfl rfl (Nat.le_of_ble_eq_true rfl) dX6_findsHand_6 ⟨Nat.le_of_ble_eq_true rfl, Nat.le_of_ble_eq_true rfl⟩ (fun H locs I => ?_)
      refine kx_icmp_ge 9 40 C dX6_findsHand_9 (by decide) (fun c5 => ?_) (fun c5 => ?_)
      · have hf := ifp c5 hf
        refine kx_iload_n 40 C dX6_findsHand_40 (lv_at hl 1 rfl) ?_
        exact kx_iret 41 C I hf dX6_findsHand_41
      · have hf := ifn c5 hf
        refine kx_aload_n 12 C dX6_findsHand_12 (lv_at hl 0 rfl) ?_
        refine kx_iload_n 13 C dX6_findsHand_13 (lv_at hl 2 rfl) ?_
        obtain ⟨h9, hf⟩ := ift hf
        obtain ⟨z8, S6, h7, hf⟩ := ob2 hf
        refine kx_callVv 14 C hl I (ci := 5) (As := [.int (iI i1)]) (rest := []) (c_X6_seek G l fu _ _ _ _ _ h7) (cwV 1 C.ts gX6_findsHand_X6_seek rfl rfl rfl nyV_X6_seek ⟨Nat.le_of_ble_eq_true rfl, Nat.le_of_ble_eq_true rfl⟩) rfl h9 rfl rfl (Nat.le_of_ble_eq_true rfl) dX6_findsHand_14 ⟨Nat.le_of_ble_eq_true rfl, Nat.le_of_ble_eq_true rfl⟩ (fun H locs I => ?_)
        refine kx_iload_n 17 C dX6_findsHand_17 (lv_at hl 1 rfl) ?_
        refine kx_aload_n 18 C dX6_findsHand_18 (lv_at hl 0 rfl) ?_
        obtain ⟨x11, h10, hf⟩ := ob hf
        refine kx_geti 19 C I fl_X6_findsHand_154 h10 dX6_findsHand_19 ?_
        refine kx_if_eq 22 31 C dX6_findsHand_22 (by decide) (fun c12 => ?_) (fun c12 => ?_)
        · have hf := ifp c12 hf
          refine kx_iconst 31 C dX6_findsHand_31 ?_
          exact ih2 _ _ _ _ _ _ _ _ hf I (lv_sub hl [0, 2] rfl)
        · have hf := ifn c12 hf
          refine kx_iconst 25 C dX6_findsHand_25 ?_
          refine kx_iload_n 26 C dX6_findsHand_26 (lv_at hl 2 rfl) ?_
          refine kx_ishl 27 C dX6_findsHand_27 ?_
          refine kx_goto 28 32 C dX6_findsHand_28 (by decide) ?_
          exact ih2 _ _ _ _ _ _ _ _ hf I (lv_sub hl [0, 2] rfl)
    · intro S p0 i0 i1 i2 H locs ls hf I hl
      replace hf : b_X6_findsHand_2 (g_X6_findsHand fu) fu S p0 i0 i1 i2 = some (r, S') := hf
      unfold b_X6_findsHand_2 at hf
      refine kx_ior 32 C dX6_findsHand_32 ?_
      obtain ⟨x13, e14, hf⟩ := nmx_e hf
      refine kx_istore_n 33 C (lv' := [(1, .int (iI x13)), (0, .ref (xB G + p0)), (2, .int (iI i0))]) dX6_findsHand_33 hl (by decide) e14 rfl (fun ls hl => ?_)
      obtain ⟨x15, e16, hf⟩ := nmx_e hf
      refine kx_iinc 34 C (lv' := [(2, .int (iI x15)), (1, .int (iI x13)), (0, .ref (xB G + p0))]) dX6_findsHand_34 hl 2 rfl e16 (by decide) rfl (fun ls hl => ?_)
      refine kx_goto 37 4 C dX6_findsHand_37 (by decide) ?_
      exact ih1 _ _ _ _ _ _ _ _ hf I (lv_sub hl [2, 1, 0] rfl)
set_option maxHeartbeats 4000000 in
set_option maxRecDepth 100000 in
theorem c_X6_findsHand (G : xG) (l : Launch) (fu : Nat) (S S' : xS) (p0 : Nat) (r : Int) (hf : f_X6_findsHand fu S p0 = some (r, S')) : Met l yX6_findsHand vsX6_findsHand rm_X6_findsHand (va_Pc [.ref (xB G + p0)] (xPre G S)) (xQi G r S') 0 0 (xA G) := by
  refine kx_met (ret := (some .int)) RX6 [(0, .ref (xB G + p0))] (by decide) rfl rfl (Nat.le_of_ble_eq_true rfl) rfl (fun p e s m below meth c ls C hin I hl => ?_)
  exact (w_X6_findsHand C r S' fu).1 S _ _ _ _ _ _ _ hf I hl
def rm_X6_all : Room := { frames := 1, cells := 0, slots := 0, locals := 20 }
theorem nyS_X6_all : yX6_all.cls ≠ "java/lang/invoke/MethodHandle" ∧ yX6_all.cls ≠ "java/lang/invoke/VarHandle" ∧ (parseMethodDescriptor yX6_all.desc).map (fun d => d.parameters.length) = some 0 := by decide +kernel
theorem nyV_X6_all : yX6_all.cls = RX6 ∧ yX6_all.cls ≠ "java/lang/invoke/MethodHandle" ∧ yX6_all.cls ≠ "java/lang/invoke/VarHandle" ∧ (parseMethodDescriptor yX6_all.desc).map (fun d => d.parameters.length) = some 0 := by decide +kernel
set_option maxHeartbeats 4000000 in
set_option maxRecDepth 100000 in
theorem c_X6_all (G : xG) (l : Launch) (fu : Nat) (S S' : xS) (p0 : Nat) (r : Int) (hf : f_X6_all fu S p0 = some (r, S')) : Met l yX6_all vsX6_all rm_X6_all (va_Pc [.ref (xB G + p0)] (xPre G S)) (xQi G r S') 0 0 (xA G) := by
  refine kx_met (ret := (some .int)) RX6 [(0, .ref (xB G + p0))] (by decide) rfl rfl (Nat.le_of_ble_eq_true rfl) rfl (fun p e s m below meth c ls C hin I hl => ?_)
  unfold f_X6_all at hf
  refine kx_iconst 0 C dX6_all_0 ?_
  refine kx_aload_n 1 C dX6_all_1 (lv_at hl 0 rfl) ?_
  obtain ⟨h4, hf⟩ := ift hf
  obtain ⟨x3, S1, h2, hf⟩ := ob2 hf
  refine kx_callVi 2 C hl I (ci := 5) (As := []) (rest := [.int (iI 1)]) (c_X6_n G l fu _ _ _ _ h2) (cwV 0 C.ts gX6_all_X6_n rfl rfl rfl nyV_X6_n ⟨Nat.le_of_ble_eq_true rfl, Nat.le_of_ble_eq_true rfl⟩) rfl h4 rfl rfl (Nat.le_of_ble_eq_true rfl) dX6_all_2 ⟨Nat.le_of_ble_eq_true rfl, Nat.le_of_ble_eq_true rfl⟩ (fun H locs I => ?_)
  refine kx_ishl 5 C dX6_all_5 ?_
  refine kx_iconst 6 C dX6_all_6 ?_
  refine kx_isub 7 C dX6_all_7 ?_
  exact kx_iret 8 C I hf dX6_all_8
def rm_X6_slip : Room := { frames := 2, cells := 0, slots := 0, locals := 46 }
theorem hin_X6_slip_RX6 : ∀ w ∈ wsX60, w ∈ vsX6_slip := fun w h => inM (inlX6 w h)
theorem fl_X6_slip_7 : xFl vsX6_slip RX6 7 5 0 := ⟨RX6, TX6, 30, rfl, by decide, hin_X6_slip_RX6, inM mq_4_16, rfl⟩
theorem nyS_X6_slip : yX6_slip.cls ≠ "java/lang/invoke/MethodHandle" ∧ yX6_slip.cls ≠ "java/lang/invoke/VarHandle" ∧ (parseMethodDescriptor yX6_slip.desc).map (fun d => d.parameters.length) = some 1 := by decide +kernel
theorem nyV_X6_slip : yX6_slip.cls = RX6 ∧ yX6_slip.cls ≠ "java/lang/invoke/MethodHandle" ∧ yX6_slip.cls ≠ "java/lang/invoke/VarHandle" ∧ (parseMethodDescriptor yX6_slip.desc).map (fun d => d.parameters.length) = some 1 := by decide +kernel
set_option maxHeartbeats 4000000 in
set_option maxRecDepth 100000 in
theorem c_X6_slip (G : xG) (l : Launch) (fu : Nat) (S S' : xS) (p0 : Nat) (i0 : Int) (r : Int) (hf : f_X6_slip fu S p0 i0 = some (r, S')) : Met l yX6_slip vsX6_slip rm_X6_slip (va_Pc [.ref (xB G + p0), .int (iI i0)] (xPre G S)) (xQi G r S') 0 0 (xA G) := by
  refine kx_met (ret := (some .int)) RX6 [(0, .ref (xB G + p0)), (1, .int (iI i0))] (by decide) rfl rfl (Nat.le_of_ble_eq_true rfl) rfl (fun p e s m below meth c ls C hin I hl => ?_)
  unfold f_X6_slip at hf
  refine kx_aload_n 0 C dX6_slip_0 (lv_at hl 0 rfl) ?_
  refine kx_iload_n 1 C dX6_slip_1 (lv_at hl 1 rfl) ?_
  obtain ⟨h4, hf⟩ := ift hf
  obtain ⟨x3, S1, h2, hf⟩ := ob2 hf
  refine kx_callVi 2 C hl I (ci := 5) (As := [.int (iI i0)]) (rest := []) (c_X6_isBox G l fu _ _ _ _ _ h2) (cwV 1 C.ts gX6_slip_X6_isBox rfl rfl rfl nyV_X6_isBox ⟨Nat.le_of_ble_eq_true rfl, Nat.le_of_ble_eq_true rfl⟩) rfl h4 rfl rfl (Nat.le_of_ble_eq_true rfl) dX6_slip_2 ⟨Nat.le_of_ble_eq_true rfl, Nat.le_of_ble_eq_true rfl⟩ (fun H locs I => ?_)
  refine kx_if_eq 5 19 C dX6_slip_5 (by decide) (fun c5 => ?_) (fun c5 => ?_)
  · have hf := ifp c5 hf
    refine kx_aload_n 19 C dX6_slip_19 (lv_at hl 0 rfl) ?_
    refine kx_bipush 20 C dX6_slip_20 (by decide) ?_
    obtain ⟨h9, hf⟩ := ift hf
    obtain ⟨x8, S6, h7, hf⟩ := ob2 hf
    refine kx_callVi 22 C hl I (ci := 5) (As := [.int (iI ((-2)))]) (rest := []) (c_X6_bad G l fu _ _ _ _ _ h7) (cwV 1 C.ts gX6_slip_X6_bad rfl rfl rfl nyV_X6_bad ⟨Nat.le_of_ble_eq_true rfl, Nat.le_of_ble_eq_true rfl⟩) rfl h9 rfl rfl (Nat.le_of_ble_eq_true rfl) dX6_slip_22 ⟨Nat.le_of_ble_eq_true rfl, Nat.le_of_ble_eq_true rfl⟩ (fun H locs I => ?_)
    exact kx_iret 25 C I hf dX6_slip_25
  · have hf := ifn c5 hf
    refine kx_aload_n 8 C dX6_slip_8 (lv_at hl 0 rfl) ?_
    obtain ⟨q11, h10, hf⟩ := ob hf
    refine kx_getp 9 C I fl_X6_slip_7 h10 dX6_slip_9 ?_
    refine kx_iconst 12 C dX6_slip_12 ?_
    refine kx_iload_n 13 C dX6_slip_13 (lv_at hl 1 rfl) ?_
    refine kx_iadd 14 C dX6_slip_14 ?_
    obtain ⟨x12, h13, hf⟩ := ob hf
    refine kx_iald 15 C I h13 dX6_slip_15 ?_
    refine kx_goto 16 25 C dX6_slip_16 (by decide) ?_
    exact kx_iret 25 C I hf dX6_slip_25
def rm_X6_rank : Room := { frames := 3, cells := 0, slots := 0, locals := 66 }
theorem nyS_X6_rank : yX6_rank.cls ≠ "java/lang/invoke/MethodHandle" ∧ yX6_rank.cls ≠ "java/lang/invoke/VarHandle" ∧ (parseMethodDescriptor yX6_rank.desc).map (fun d => d.parameters.length) = some 0 := by decide +kernel
theorem nyV_X6_rank : yX6_rank.cls = RX6 ∧ yX6_rank.cls ≠ "java/lang/invoke/MethodHandle" ∧ yX6_rank.cls ≠ "java/lang/invoke/VarHandle" ∧ (parseMethodDescriptor yX6_rank.desc).map (fun d => d.parameters.length) = some 0 := by decide +kernel
set_option maxHeartbeats 4000000 in
set_option maxRecDepth 100000 in
theorem c_X6_rank (G : xG) (l : Launch) (fu : Nat) (S S' : xS) (p0 : Nat) (r : Int) (hf : f_X6_rank fu S p0 = some (r, S')) : Met l yX6_rank vsX6_rank rm_X6_rank (va_Pc [.ref (xB G + p0)] (xPre G S)) (xQi G r S') 0 0 (xA G) := by
  refine kx_met (ret := (some .int)) RX6 [(0, .ref (xB G + p0))] (by decide) rfl rfl (Nat.le_of_ble_eq_true rfl) rfl (fun p e s m below meth c ls C hin I hl => ?_)
  unfold f_X6_rank at hf
  refine kx_aload_n 0 C dX6_rank_0 (lv_at hl 0 rfl) ?_
  obtain ⟨h4, hf⟩ := ift hf
  obtain ⟨x3, S1, h2, hf⟩ := ob2 hf
  refine kx_callVi 1 C hl I (ci := 5) (As := []) (rest := []) (c_X6_rankNow G l fu _ _ _ _ h2) (cwV 0 C.ts gX6_rank_X6_rankNow rfl rfl rfl nyV_X6_rankNow ⟨Nat.le_of_ble_eq_true rfl, Nat.le_of_ble_eq_true rfl⟩) rfl h4 rfl rfl (Nat.le_of_ble_eq_true rfl) dX6_rank_1 ⟨Nat.le_of_ble_eq_true rfl, Nat.le_of_ble_eq_true rfl⟩ (fun H locs I => ?_)
  exact kx_iret 4 C I hf dX6_rank_4
def rm_X6_ringOf : Room := { frames := 0, cells := 0, slots := 0, locals := 0 }
theorem hin_X6_ringOf_RX6 : ∀ w ∈ wsX60, w ∈ vsX6_ringOf := fun w h => inM (inlX6 w h)
theorem fl_X6_ringOf_27 : xFl vsX6_ringOf RX6 27 5 6 := ⟨RX6, TX6, 30, rfl, by decide, hin_X6_ringOf_RX6, inM mq_4_22, rfl⟩
theorem nyS_X6_ringOf : yX6_ringOf.cls ≠ "java/lang/invoke/MethodHandle" ∧ yX6_ringOf.cls ≠ "java/lang/invoke/VarHandle" ∧ (parseMethodDescriptor yX6_ringOf.desc).map (fun d => d.parameters.length) = some 1 := by decide +kernel
theorem nyV_X6_ringOf : yX6_ringOf.cls = RX6 ∧ yX6_ringOf.cls ≠ "java/lang/invoke/MethodHandle" ∧ yX6_ringOf.cls ≠ "java/lang/invoke/VarHandle" ∧ (parseMethodDescriptor yX6_ringOf.desc).map (fun d => d.parameters.length) = some 1 := by decide +kernel
set_option maxHeartbeats 4000000 in
set_option maxRecDepth 100000 in
theorem w_X6_ringOf {G : xG} {p : Program} {l : Launch} {e : Env} {s : State} {m : MethodId} {args : Array Value} {below : List Frame} {meth : Method} {c : Code} (C : xK G p s m args meth c cX6_ringOf 4 vsX6_ringOf RX6 (some .int)) (r : Int) (S' : xS) : ∀ k : Nat,
  (∀ (S : xS) (p0 : Nat) (i0 i1 i2 : Int) (H : Heap) (locs : List Loc) (ls : Array Slot), g_X6_ringOf k 0 S p0 i0 i1 i2 = some (r, S') → xI G S s H locs → lv_has ls 4 [(0, .ref (xB G + p0)), (1, .int (iI i0))] → W p l e rm_X6_ringOf s m args below meth c H locs 0 0 (MQ below (xQi G r S') args s 0 0 (xA G)) (F0 m 0 ls [])) ∧
  (∀ (S : xS) (p0 : Nat) (i0 i1 i2 : Int) (H : Heap) (locs : List Loc) (ls : Array Slot), g_X6_ringOf k 1 S p0 i0 i1 i2 = some (r, S') → xI G S s H locs → lv_has ls 4 [(0, .ref (xB G + p0)), (1, .int (iI i0)), (2, .int (iI i1)), (3, .int (iI i2))] → W p l e rm_X6_ringOf s m args below meth c H locs 0 0 (MQ below (xQi G r S') args s 0 0 (xA G)) (F0 m 9 ls [])) := by
  intro k
  induction k with
  | zero => exact ⟨fun _ _ _ _ _ _ _ _ hf => (by cases hf), fun _ _ _ _ _ _ _ _ hf => (by cases hf)⟩
  | succ fu ih =>
    obtain ⟨ih0, ih1⟩ := ih
    refine ⟨?_, ?_⟩
    · intro S p0 i0 i1 i2 H locs ls hf I hl
      replace hf : b_X6_ringOf_0 (g_X6_ringOf fu) fu S p0 i0 i1 i2 = some (r, S') := hf
      unfold b_X6_ringOf_0 at hf
      refine kx_iconst 0 C dX6_ringOf_0 ?_
      refine kx_istore_n 1 C (lv' := [(2, .int (iI 1)), (0, .ref (xB G + p0)), (1, .int (iI i0))]) dX6_ringOf_1 hl (by decide) rfl rfl (fun ls hl => ?_)
      refine kx_aload_n 2 C dX6_ringOf_2 (lv_at hl 1 rfl) ?_
      obtain ⟨q2, h1, hf⟩ := ob hf
      refine kx_getp 3 C I fl_X6_ringOf_27 h1 dX6_ringOf_3 ?_
      refine kx_iload_n 6 C dX6_ringOf_6 (lv_at hl 2 rfl) ?_
      obtain ⟨x3, h4, hf⟩ := ob hf
      refine kx_iald 7 C I h4 dX6_ringOf_7 ?_
      refine kx_istore_n 8 C (lv' := [(3, .int (iI x3)), (2, .int (iI 1)), (0, .ref (xB G + p0)), (1, .int (iI i0))]) dX6_ringOf_8 hl (by decide) rfl rfl (fun ls hl => ?_)
      exact ih1 _ _ _ _ _ _ _ _ hf I (lv_sub hl [2, 3, 1, 0] rfl)
    · intro S p0 i0 i1 i2 H locs ls hf I hl
      replace hf : b_X6_ringOf_1 (g_X6_ringOf fu) fu S p0 i0 i1 i2 = some (r, S') := hf
      unfold b_X6_ringOf_1 at hf
      refine kx_iload_n 9 C dX6_ringOf_9 (lv_at hl 3 rfl) ?_
      refine kx_iload_n 10 C dX6_ringOf_10 (lv_at hl 1 rfl) ?_
      refine kx_icmp_eq 11 27 C dX6_ringOf_11 (by decide) (fun c5 => ?_) (fun c5 => ?_)
      · have hf := ifp c5 hf
        refine kx_iload_n 27 C dX6_ringOf_27 (lv_at hl 2 rfl) ?_
        exact kx_iret 28 C I hf dX6_ringOf_28
      · have hf := ifn c5 hf
        refine kx_aload_n 14 C dX6_ringOf_14 (lv_at hl 0 rfl) ?_
        obtain ⟨q7, h6, hf⟩ := ob hf
        refine kx_getp 15 C I fl_X6_ringOf_27 h6 dX6_ringOf_15 ?_
        refine kx_iload_n 18 C dX6_ringOf_18 (lv_at hl 3 rfl) ?_
        obtain ⟨x8, h9, hf⟩ := ob hf
        refine kx_iald 19 C I h9 dX6_ringOf_19 ?_
        refine kx_istore_n 20 C (lv' := [(3, .int (iI x8)), (0, .ref (xB G + p0)), (1, .int (iI i0)), (2, .int (iI i1))]) dX6_ringOf_20 hl (by decide) rfl rfl (fun ls hl => ?_)
        obtain ⟨x10, e11, hf⟩ := nmx_e hf
        refine kx_iinc 21 C (lv' := [(2, .int (iI x10)), (3, .int (iI x8)), (0, .ref (xB G + p0)), (1, .int (iI i0))]) dX6_ringOf_21 hl 3 rfl e11 (by decide) rfl (fun ls hl => ?_)
        refine kx_goto 24 9 C dX6_ringOf_24 (by decide) ?_
        exact ih1 _ _ _ _ _ _ _ _ hf I (lv_sub hl [2, 3, 0, 1] rfl)
set_option maxHeartbeats 4000000 in
set_option maxRecDepth 100000 in
theorem c_X6_ringOf (G : xG) (l : Launch) (fu : Nat) (S S' : xS) (p0 : Nat) (i0 : Int) (r : Int) (hf : f_X6_ringOf fu S p0 i0 = some (r, S')) : Met l yX6_ringOf vsX6_ringOf rm_X6_ringOf (va_Pc [.ref (xB G + p0), .int (iI i0)] (xPre G S)) (xQi G r S') 0 0 (xA G) := by
  refine kx_met (ret := (some .int)) RX6 [(0, .ref (xB G + p0)), (1, .int (iI i0))] (by decide) rfl rfl (Nat.le_of_ble_eq_true rfl) rfl (fun p e s m below meth c ls C hin I hl => ?_)
  exact (w_X6_ringOf C r S' fu).1 S _ _ _ _ _ _ _ hf I hl
def rm_X6_ringsHand : Room := { frames := 1, cells := 0, slots := 0, locals := 20 }
theorem hin_X6_ringsHand_RX6 : ∀ w ∈ wsX60, w ∈ vsX6_ringsHand := fun w h => inM (inlX6 w h)
theorem fl_X6_ringsHand_27 : xFl vsX6_ringsHand RX6 27 5 6 := ⟨RX6, TX6, 30, rfl, by decide, hin_X6_ringsHand_RX6, inM mq_4_22, rfl⟩
theorem nyS_X6_ringsHand : yX6_ringsHand.cls ≠ "java/lang/invoke/MethodHandle" ∧ yX6_ringsHand.cls ≠ "java/lang/invoke/VarHandle" ∧ (parseMethodDescriptor yX6_ringsHand.desc).map (fun d => d.parameters.length) = some 0 := by decide +kernel
theorem nyV_X6_ringsHand : yX6_ringsHand.cls = RX6 ∧ yX6_ringsHand.cls ≠ "java/lang/invoke/MethodHandle" ∧ yX6_ringsHand.cls ≠ "java/lang/invoke/VarHandle" ∧ (parseMethodDescriptor yX6_ringsHand.desc).map (fun d => d.parameters.length) = some 0 := by decide +kernel
set_option maxHeartbeats 4000000 in
set_option maxRecDepth 100000 in
theorem w_X6_ringsHand {G : xG} {p : Program} {l : Launch} {e : Env} {s : State} {m : MethodId} {args : Array Value} {below : List Frame} {meth : Method} {c : Code} (C : xK G p s m args meth c cX6_ringsHand 5 vsX6_ringsHand RX6 (some .int)) (r : Int) (S' : xS) : ∀ k : Nat,
  (∀ (S : xS) (p0 : Nat) (i0 i1 i2 i3 : Int) (H : Heap) (locs : List Loc) (ls : Array Slot), g_X6_ringsHand k 0 S p0 i0 i1 i2 i3 = some (r, S') → xI G S s H locs → lv_has ls 5 [(0, .ref (xB G + p0))] → W p l e rm_X6_ringsHand s m args below meth c H locs 0 0 (MQ below (xQi G r S') args s 0 0 (xA G)) (F0 m 0 ls [])) ∧
  (∀ (S : xS) (p0 : Nat) (i0 i1 i2 i3 : Int) (H : Heap) (locs : List Loc) (ls : Array Slot), g_X6_ringsHand k 1 S p0 i0 i1 i2 i3 = some (r, S') → xI G S s H locs → lv_has ls 5 [(0, .ref (xB G + p0)), (1, .int (iI i0)), (2, .int (iI i1))] → W p l e rm_X6_ringsHand s m args below meth c H locs 0 0 (MQ below (xQi G r S') args s 0 0 (xA G)) (F0 m 4 ls [])) ∧
  (∀ (S : xS) (p0 : Nat) (i0 i1 i2 i3 : Int) (H : Heap) (locs : List Loc) (ls : Array Slot), g_X6_ringsHand k 2 S p0 i0 i1 i2 i3 = some (r, S') → xI G S s H locs → lv_has ls 5 [(0, .ref (xB G + p0)), (1, .int (iI i0)), (2, .int (iI i1)), (3, .int (iI i2)), (4, .int (iI i3))] → W p l e rm_X6_ringsHand s m args below meth c H locs 0 0 (MQ below (xQi G r S') args s 0 0 (xA G)) (F0 m 22 ls [])) ∧
  (∀ (S : xS) (p0 : Nat) (i0 i1 i2 i3 : Int) (H : Heap) (locs : List Loc) (ls : Array Slot), g_X6_ringsHand k 3 S p0 i0 i1 i2 i3 = some (r, S') → xI G S s H locs → lv_has ls 5 [(0, .ref (xB G + p0)), (1, .int (iI i0)), (2, .int (iI i1)), (4, .int (iI i2))] → W p l e rm_X6_ringsHand s m args below meth c H locs 0 0 (MQ below (xQi G r S') args s 0 0 (xA G)) (F0 m 42 ls [])) ∧
  (∀ (S : xS) (p0 : Nat) (i0 i1 i2 i3 : Int) (H : Heap) (locs : List Loc) (ls : Array Slot), g_X6_ringsHand k 4 S p0 i0 i1 i2 i3 = some (r, S') → xI G S s H locs → lv_has ls 5 [(0, .ref (xB G + p0)), (1, .int (iI i0)), (2, .int (iI i1)), (4, .int (iI i2))] → W p l e rm_X6_ringsHand s m args below meth c H locs 0 0 (MQ below (xQi G r S') args s 0 0 (xA G)) (F0 m 43 ls [.int (iI i3)])) ∧
  (∀ (S : xS) (p0 : Nat) (i0 i1 i2 i3 : Int) (H : Heap) (locs : List Loc) (ls : Array Slot), g_X6_ringsHand k 5 S p0 i0 i1 i2 i3 = some (r, S') → xI G S s H locs → lv_has ls 5 [(0, .ref (xB G + p0)), (2, .int (iI i0))] → W p l e rm_X6_ringsHand s m args below meth c H locs 0 0 (MQ below (xQi G r S') args s 0 0 (xA G)) (F0 m 66 ls [.int (iI i2), .int (iI i1)])) := by
  intro k
  induction k with
  | zero => exact ⟨fun _ _ _ _ _ _ _ _ _ hf => (by cases hf), fun _ _ _ _ _ _ _ _ _ hf => (by cases hf), fun _ _ _ _ _ _ _ _ _ hf => (by cases hf), fun _ _ _ _ _ _ _ _ _ hf => (by cases hf), fun _ _ _ _ _ _ _ _ _ hf => (by cases hf), fun _ _ _ _ _ _ _ _ _ hf => (by cases hf)⟩
  | succ fu ih =>
    obtain ⟨ih0, ih1, ih2, ih3, ih4, ih5⟩ := ih
    refine ⟨?_, ?_, ?_, ?_, ?_, ?_⟩
    · intro S p0 i0 i1 i2 i3 H locs ls hf I hl
      replace hf : b_X6_ringsHand_0 (g_X6_ringsHand fu) fu S p0 i0 i1 i2 i3 = some (r, S') := hf
      unfold b_X6_ringsHand_0 at hf
      refine kx_iconst 0 C dX6_ringsHand_0 ?_
      refine kx_istore_n 1 C (lv' := [(1, .int (iI 0)), (0, .ref (xB G + p0))]) dX6_ringsHand_1 hl (by decide) rfl rfl (fun ls hl => ?_)
      refine kx_iconst 2 C dX6_ringsHand_2 ?_
      refine kx_istore_n 3 C (lv' := [(2, .int (iI 0)), (1, .int (iI 0)), (0, .ref (xB G + p0))]) dX6_ringsHand_3 hl (by decide) rfl rfl (fun ls hl => ?_)
      exact ih1 _ _ _ _ _ _ _ _ _ hf I (lv_sub hl [2, 1, 0] rfl)
    · intro S p0 i0 i1 i2 i3 H locs ls hf I hl
      replace hf : b_X6_ringsHand_1 (g_X6_ringsHand fu) fu S p0 i0 i1 i2 i3 = some (r, S') := hf
      unfold b_X6_ringsHand_1 at hf
      refine kx_iload_n 4 C dX6_ringsHand_4 (lv_at hl 2 rfl) ?_
      refine kx_aload_n 5 C dX6_ringsHand_5 (lv_at hl 0 rfl) ?_
      obtain ⟨h4, hf⟩ := ift hf
      obtain ⟨x3, S1, h2, hf⟩ := ob2 hf
      refine kx_callVi 6 C hl I (ci := 5) (As := []) (rest := [.int (iI i1)]) (c_X6_n G l fu _ _ _ _ h2) (cwV 0 C.ts gX6_ringsHand_X6_n rfl rfl rfl nyV_X6_n ⟨Nat.le_of_ble_eq_true rfl, Nat.le_of_ble_eq_true rfl⟩) rfl h4 rfl rfl (Nat.le_of_ble_eq_true rfl) dX6_ringsHand_6 ⟨Nat.le_of_ble_eq_true rfl, Nat.le_of_ble_eq_true rfl⟩ (fun H locs I => ?_)
      refine kx_icmp_ge 9 74 C dX6_ringsHand_9 (by decide) (fun c5 => ?_) (fun c5 => ?_)
      · have hf := ifp c5 hf
        refine kx_iload_n 74 C dX6_ringsHand_74 (lv_at hl 1 rfl) ?_
        exact kx_iret 75 C I hf dX6_ringsHand_75
      · have hf := ifn c5 hf
        refine kx_iconst 12 C dX6_ringsHand_12 ?_
        refine kx_istore_n 13 C (lv' := [(3, .int (iI 1)), (0, .ref (xB G + p0)), (1, .int (iI i0)), (2, .int (iI i1))]) dX6_ringsHand_13 hl (by decide) rfl rfl (fun ls hl => ?_)
        refine kx_aload_n 14 C dX6_ringsHand_14 (lv_at hl 1 rfl) ?_
        obtain ⟨q7, h6, hf⟩ := ob hf
        refine kx_getp 15 C I fl_X6_ringsHand_27 h6 dX6_ringsHand_15 ?_
        refine kx_iload_n 18 C dX6_ringsHand_18 (lv_at hl 3 rfl) ?_
        obtain ⟨x8, h9, hf⟩ := ob hf
        refine kx_iald 19 C I h9 dX6_ringsHand_19 ?_
        refine kx_istore 20 C (lv' := [(4, .int (iI x8)), (3, .int (iI 1)), (0, .ref (xB G + p0)), (1, .int (iI i0)), (2, .int (iI i1))]) dX6_ringsHand_20 hl (by decide) rfl rfl (fun ls hl => ?_)
        exact ih2 _ _ _ _ _ _ _ _ _ hf I (lv_sub hl [2, 3, 4, 1, 0] rfl)
    · intro S p0 i0 i1 i2 i3 H locs ls hf I hl
      replace hf : b_X6_ringsHand_2 (g_X6_ringsHand fu) fu S p0 i0 i1 i2 i3 = some (r, S') := hf
      unfold b_X6_ringsHand_2 at hf
      refine kx_iload 22 C dX6_ringsHand_22 (lv_at hl 4 rfl) ?_
      refine kx_iload_n 24 C dX6_ringsHand_24 (lv_at hl 2 rfl) ?_
      refine kx_icmp_eq 25 56 C dX6_ringsHand_25 (by decide) (fun c10 => ?_) (fun c10 => ?_)
      · have hf := ifp c10 hf
        refine kx_iload_n 56 C dX6_ringsHand_56 (lv_at hl 1 rfl) ?_
        refine kx_iload_n 57 C dX6_ringsHand_57 (lv_at hl 3 rfl) ?_
        refine kx_if_eq 58 65 C dX6_ringsHand_58 (by decide) (fun c11 => ?_) (fun c11 => ?_)
        · have hf := ifp c11 hf
          refine kx_iconst 65 C dX6_ringsHand_65 ?_
          exact ih5 _ _ _ _ _ _ _ _ _ hf I (lv_sub hl [0, 2] rfl)
        · have hf := ifn c11 hf
          refine kx_iconst 61 C dX6_ringsHand_61 ?_
          refine kx_goto 62 66 C dX6_ringsHand_62 (by decide) ?_
          exact ih5 _ _ _ _ _ _ _ _ _ hf I (lv_sub hl [0, 2] rfl)
      · have hf := ifn c10 hf
        refine kx_iload_n 28 C dX6_ringsHand_28 (lv_at hl 3 rfl) ?_
        refine kx_if_eq 29 42 C dX6_ringsHand_29 (by decide) (fun c12 => ?_) (fun c12 => ?_)
        · have hf := ifp c12 hf
          exact ih3 _ _ _ _ _ _ _ _ _ hf I (lv_sub hl [0, 1, 2, 4] rfl)
        · have hf := ifn c12 hf
          refine kx_iload 32 C dX6_ringsHand_32 (lv_at hl 4 rfl) ?_
          refine kx_iload_n 34 C dX6_ringsHand_34 (lv_at hl 2 rfl) ?_
          refine kx_icmp_le 35 42 C dX6_ringsHand_35 (by decide) (fun c13 => ?_) (fun c13 => ?_)
          · have hf := ifp c13 hf
            exact ih3 _ _ _ _ _ _ _ _ _ hf I (lv_sub hl [0, 1, 2, 4] rfl)
          · have hf := ifn c13 hf
            refine kx_iconst 38 C dX6_ringsHand_38 ?_
            refine kx_goto 39 43 C dX6_ringsHand_39 (by decide) ?_
            exact ih4 _ _ _ _ _ _ _ _ _ hf I (lv_sub hl [0, 1, 2, 4] rfl)
    · intro S p0 i0 i1 i2 i3 H locs ls hf I hl
      replace hf : b_X6_ringsHand_3 (g_X6_ringsHand fu) fu S p0 i0 i1 i2 i3 = some (r, S') := hf
      unfold b_X6_ringsHand_3 at hf
      refine kx_iconst 42 C dX6_ringsHand_42 ?_
      exact ih4 _ _ _ _ _ _ _ _ _ hf I (lv_sub hl [0, 1, 2, 3] rfl)
    · intro S p0 i0 i1 i2 i3 H locs ls hf I hl
      replace hf : b_X6_ringsHand_4 (g_X6_ringsHand fu) fu S p0 i0 i1 i2 i3 = some (r, S') := hf
      unfold b_X6_ringsHand_4 at hf
      refine kx_istore_n 43 C (lv' := [(3, .int (iI i3)), (0, .ref (xB G + p0)), (1, .int (iI i0)), (2, .int (iI i1)), (4, .int (iI i2))]) dX6_ringsHand_43 hl (by decide) rfl rfl (fun ls hl => ?_)
      refine kx_aload_n 44 C dX6_ringsHand_44 (lv_at hl 1 rfl) ?_
      obtain ⟨q15, h14, hf⟩ := ob hf
      refine kx_getp 45 C I fl_X6_ringsHand_27 h14 dX6_ringsHand_45 ?_
      refine kx_iload 48 C dX6_ringsHand_48 (lv_at hl 4 rfl) ?_
      obtain ⟨x16, h17, hf⟩ := ob hf
      refine kx_iald 50 C I h17 dX6_ringsHand_50 ?_
      refine kx_istore 51 C (lv' := [(4, .int (iI x16)), (3, .int (iI i3)), (0, .ref (xB G + p0)), (1, .int (iI i0)), (2, .int (iI i1))]) dX6_ringsHand_51 hl (by decide) rfl rfl (fun ls hl => ?_)
      refine kx_goto 53 22 C dX6_ringsHand_53 (by decide) ?_
      exact ih2 _ _ _ _ _ _ _ _ _ hf I (lv_sub hl [2, 3, 4, 1, 0] rfl)
    · intro S p0 i0 i1 i2 i3 H locs ls hf I hl
      replace hf : b_X6_ringsHand_5 (g_X6_ringsHand fu) fu S p0 i0 i1 i2 i3 = some (r, S') := hf
      unfold b_X6_ringsHand_5 at hf
      refine kx_iadd 66 C dX6_ringsHand_66 ?_
      obtain ⟨x18, e19, hf⟩ := nmx_e hf
      refine kx_istore_n 67 C (lv' := [(1, .int (iI x18)), (0, .ref (xB G + p0)), (2, .int (iI i0))]) dX6_ringsHand_67 hl (by decide) e19 rfl (fun ls hl => ?_)
      obtain ⟨x20, e21, hf⟩ := nmx_e hf
      refine kx_iinc 68 C (lv' := [(2, .int (iI x20)), (1, .int (iI x18)), (0, .ref (xB G + p0))]) dX6_ringsHand_68 hl 2 rfl e21 (by decide) rfl (fun ls hl => ?_)
      refine kx_goto 71 4 C dX6_ringsHand_71 (by decide) ?_
      exact ih1 _ _ _ _ _ _ _ _ _ hf I (lv_sub hl [2, 1, 0] rfl)
set_option maxHeartbeats 4000000 in
set_option maxRecDepth 100000 in
theorem c_X6_ringsHand (G : xG) (l : Launch) (fu : Nat) (S S' : xS) (p0 : Nat) (r : Int) (hf : f_X6_ringsHand fu S p0 = some (r, S')) : Met l yX6_ringsHand vsX6_ringsHand rm_X6_ringsHand (va_Pc [.ref (xB G + p0)] (xPre G S)) (xQi G r S') 0 0 (xA G) := by
  refine kx_met (ret := (some .int)) RX6 [(0, .ref (xB G + p0))] (by decide) rfl rfl (Nat.le_of_ble_eq_true rfl) rfl (fun p e s m below meth c ls C hin I hl => ?_)
  exact (w_X6_ringsHand C r S' fu).1 S _ _ _ _ _ _ _ _ hf I hl
def rm_X6_rings : Room := { frames := 2, cells := 0, slots := 0, locals := 46 }
theorem nyS_X6_rings : yX6_rings.cls ≠ "java/lang/invoke/MethodHandle" ∧ yX6_rings.cls ≠ "java/lang/invoke/VarHandle" ∧ (parseMethodDescriptor yX6_rings.desc).map (fun d => d.parameters.length) = some 1 := by decide +kernel
theorem nyV_X6_rings : yX6_rings.cls = RX6 ∧ yX6_rings.cls ≠ "java/lang/invoke/MethodHandle" ∧ yX6_rings.cls ≠ "java/lang/invoke/VarHandle" ∧ (parseMethodDescriptor yX6_rings.desc).map (fun d => d.parameters.length) = some 1 := by decide +kernel
set_option maxHeartbeats 4000000 in
set_option maxRecDepth 100000 in
theorem w_X6_rings {G : xG} {p : Program} {l : Launch} {e : Env} {s : State} {m : MethodId} {args : Array Value} {below : List Frame} {meth : Method} {c : Code} (C : xK G p s m args meth c cX6_rings 2 vsX6_rings RX6 (some .int)) (r : Int) (S' : xS) : ∀ k : Nat,
  (∀ (S : xS) (p0 : Nat) (i0 : Int) (H : Heap) (locs : List Loc) (ls : Array Slot), g_X6_rings k 0 S p0 i0 = some (r, S') → xI G S s H locs → lv_has ls 2 [(0, .ref (xB G + p0)), (1, .int (iI i0))] → W p l e rm_X6_rings s m args below meth c H locs 0 0 (MQ below (xQi G r S') args s 0 0 (xA G)) (F0 m 0 ls [])) ∧
  (∀ (S : xS) (p0 : Nat) (i0 : Int) (H : Heap) (locs : List Loc) (ls : Array Slot), g_X6_rings k 1 S p0 i0 = some (r, S') → xI G S s H locs → lv_has ls 2 [(0, .ref (xB G + p0)), (1, .int (iI i0))] → W p l e rm_X6_rings s m args below meth c H locs 0 0 (MQ below (xQi G r S') args s 0 0 (xA G)) (F0 m 20 ls [])) := by
  intro k
  induction k with
  | zero => exact ⟨fun _ _ _ _ _ _ hf => (by cases hf), fun _ _ _ _ _ _ hf => (by cases hf)⟩
  | succ fu ih =>
    obtain ⟨ih0, ih1⟩ := ih
    refine ⟨?_, ?_⟩
    · intro S p0 i0 H locs ls hf I hl
      replace hf : b_X6_rings_0 (g_X6_rings fu) fu S p0 i0 = some (r, S') := hf
      unfold b_X6_rings_0 at hf
      refine kx_iload_n 0 C dX6_rings_0 (lv_at hl 1 rfl) ?_
      refine kx_iconst 1 C dX6_rings_1 ?_
      refine kx_icmp_eq 2 20 C dX6_rings_2 (by decide) (fun c1 => ?_) (fun c1 => ?_)
      · have hf := ifp c1 hf
        exact ih1 _ _ _ _ _ _ hf I (lv_sub hl [0, 1] rfl)
      · have hf := ifn c1 hf
        refine kx_aload_n 5 C dX6_rings_5 (lv_at hl 0 rfl) ?_
        refine kx_iload_n 6 C dX6_rings_6 (lv_at hl 1 rfl) ?_
        obtain ⟨h5, hf⟩ := ift hf
        obtain ⟨x4, S2, h3, hf⟩ := ob2 hf
        refine kx_callVi 7 C hl I (ci := 5) (As := [.int (iI i0)]) (rest := []) (c_X6_isBox G l fu _ _ _ _ _ h3) (cwV 1 C.ts gX6_rings_X6_isBox rfl rfl rfl nyV_X6_isBox ⟨Nat.le_of_ble_eq_true rfl, Nat.le_of_ble_eq_true rfl⟩) rfl h5 rfl rfl (Nat.le_of_ble_eq_true rfl) dX6_rings_7 ⟨Nat.le_of_ble_eq_true rfl, Nat.le_of_ble_eq_true rfl⟩ (fun H locs I => ?_)
        refine kx_if_ne 10 20 C dX6_rings_10 (by decide) (fun c6 => ?_) (fun c6 => ?_)
        · have hf := ifn c6 hf
          exact ih1 _ _ _ _ _ _ hf I (lv_sub hl [0, 1] rfl)
        · have hf := ifp c6 hf
          refine kx_aload_n 13 C dX6_rings_13 (lv_at hl 0 rfl) ?_
          refine kx_bipush 14 C dX6_rings_14 (by decide) ?_
          obtain ⟨h10, hf⟩ := ift hf
          obtain ⟨x9, S7, h8, hf⟩ := ob2 hf
          refine kx_callVi 16 C hl I (ci := 5) (As := [.int (iI ((-10)))]) (rest := []) (c_X6_bad G l fu _ _ _ _ _ h8) (cwV 1 C.ts gX6_rings_X6_bad rfl rfl rfl nyV_X6_bad ⟨Nat.le_of_ble_eq_true rfl, Nat.le_of_ble_eq_true rfl⟩) rfl h10 rfl rfl (Nat.le_of_ble_eq_true rfl) dX6_rings_16 ⟨Nat.le_of_ble_eq_true rfl, Nat.le_of_ble_eq_true rfl⟩ (fun H locs I => ?_)
          exact kx_iret 19 C I hf dX6_rings_19
    · intro S p0 i0 H locs ls hf I hl
      replace hf : b_X6_rings_1 (g_X6_rings fu) fu S p0 i0 = some (r, S') := hf
      unfold b_X6_rings_1 at hf
      refine kx_aload_n 20 C dX6_rings_20 (lv_at hl 0 rfl) ?_
      obtain ⟨h14, hf⟩ := ift hf
      obtain ⟨z13, S11, h12, hf⟩ := ob2 hf
      refine kx_callVv 21 C hl I (ci := 5) (As := []) (rest := []) (c_X6_takeNow G l fu _ _ _ _ h12) (cwV 0 C.ts gX6_rings_X6_takeNow rfl rfl rfl nyV_X6_takeNow ⟨Nat.le_of_ble_eq_true rfl, Nat.le_of_ble_eq_true rfl⟩) rfl h14 rfl rfl (Nat.le_of_ble_eq_true rfl) dX6_rings_21 ⟨Nat.le_of_ble_eq_true rfl, Nat.le_of_ble_eq_true rfl⟩ (fun H locs I => ?_)
      refine kx_iload_n 24 C dX6_rings_24 (lv_at hl 1 rfl) ?_
      refine kx_iconst 25 C dX6_rings_25 ?_
      refine kx_icmp_ne 26 36 C dX6_rings_26 (by decide) (fun c15 => ?_) (fun c15 => ?_)
      · have hf := ifn c15 hf
        refine kx_aload_n 36 C dX6_rings_36 (lv_at hl 0 rfl) ?_
        refine kx_iload_n 37 C dX6_rings_37 (lv_at hl 1 rfl) ?_
        obtain ⟨h19, hf⟩ := ift hf
        obtain ⟨x18, S16, h17, hf⟩ := ob2 hf
        refine kx_callVi 38 C hl I (ci := 5) (As := [.int (iI i0)]) (rest := []) (c_X6_ringOf G l fu _ _ _ _ _ h17) (cwV 1 C.ts gX6_rings_X6_ringOf rfl rfl rfl nyV_X6_ringOf ⟨Nat.le_of_ble_eq_true rfl, Nat.le_of_ble_eq_true rfl⟩) rfl h19 rfl rfl (Nat.le_of_ble_eq_true rfl) dX6_rings_38 ⟨Nat.le_of_ble_eq_true rfl, Nat.le_of_ble_eq_true rfl⟩ (fun H locs I => ?_)
        exact kx_iret 41 C I hf dX6_rings_41
      · have hf := ifp c15 hf
        refine kx_aload_n 29 C dX6_rings_29 (lv_at hl 0 rfl) ?_
        obtain ⟨h23, hf⟩ := ift hf
        obtain ⟨x22, S20, h21, hf⟩ := ob2 hf
        refine kx_callVi 30 C hl I (ci := 5) (As := []) (rest := []) (c_X6_ringsHand G l fu _ _ _ _ h21) (cwV 0 C.ts gX6_rings_X6_ringsHand rfl rfl rfl nyV_X6_ringsHand ⟨Nat.le_of_ble_eq_true rfl, Nat.le_of_ble_eq_true rfl⟩) rfl h23 rfl rfl (Nat.le_of_ble_eq_true rfl) dX6_rings_30 ⟨Nat.le_of_ble_eq_true rfl, Nat.le_of_ble_eq_true rfl⟩ (fun H locs I => ?_)
        refine kx_goto 33 41 C dX6_rings_33 (by decide) ?_
        exact kx_iret 41 C I hf dX6_rings_41
set_option maxHeartbeats 4000000 in
set_option maxRecDepth 100000 in
theorem c_X6_rings (G : xG) (l : Launch) (fu : Nat) (S S' : xS) (p0 : Nat) (i0 : Int) (r : Int) (hf : f_X6_rings fu S p0 i0 = some (r, S')) : Met l yX6_rings vsX6_rings rm_X6_rings (va_Pc [.ref (xB G + p0), .int (iI i0)] (xPre G S)) (xQi G r S') 0 0 (xA G) := by
  refine kx_met (ret := (some .int)) RX6 [(0, .ref (xB G + p0)), (1, .int (iI i0))] (by decide) rfl rfl (Nat.le_of_ble_eq_true rfl) rfl (fun p e s m below meth c ls C hin I hl => ?_)
  exact (w_X6_rings C r S' fu).1 S _ _ _ _ _ hf I hl
def rm_X6_opened : Room := { frames := 4, cells := 0, slots := 0, locals := 91 }
theorem hin_X6_opened_RX6 : ∀ w ∈ wsX60, w ∈ vsX6_opened := fun w h => inM (inlX6 w h)
theorem fl_X6_opened_30 : xFl vsX6_opened RX6 30 5 8 := ⟨RX6, TX6, 30, rfl, by decide, hin_X6_opened_RX6, inM mq_4_23, rfl⟩
theorem fl_X6_opened_151 : xFl vsX6_opened RX6 151 5 9 := ⟨RX6, TX6, 30, rfl, by decide, hin_X6_opened_RX6, inM mq_26_14, rfl⟩
theorem nyS_X6_opened : yX6_opened.cls ≠ "java/lang/invoke/MethodHandle" ∧ yX6_opened.cls ≠ "java/lang/invoke/VarHandle" ∧ (parseMethodDescriptor yX6_opened.desc).map (fun d => d.parameters.length) = some 2 := by decide +kernel
theorem nyV_X6_opened : yX6_opened.cls = RX6 ∧ yX6_opened.cls ≠ "java/lang/invoke/MethodHandle" ∧ yX6_opened.cls ≠ "java/lang/invoke/VarHandle" ∧ (parseMethodDescriptor yX6_opened.desc).map (fun d => d.parameters.length) = some 2 := by decide +kernel
set_option maxHeartbeats 4000000 in
set_option maxRecDepth 100000 in
theorem w_X6_opened {G : xG} {p : Program} {l : Launch} {e : Env} {s : State} {m : MethodId} {args : Array Value} {below : List Frame} {meth : Method} {c : Code} (C : xK G p s m args meth c cX6_opened 3 vsX6_opened RX6 (some .int)) (r : Int) (S' : xS) : ∀ k : Nat,
  (∀ (S : xS) (p0 : Nat) (i0 i1 : Int) (H : Heap) (locs : List Loc) (ls : Array Slot), g_X6_opened k 0 S p0 i0 i1 = some (r, S') → xI G S s H locs → lv_has ls 3 [(0, .ref (xB G + p0)), (1, .int (iI i0)), (2, .int (iI i1))] → W p l e rm_X6_opened s m args below meth c H locs 0 0 (MQ below (xQi G r S') args s 0 0 (xA G)) (F0 m 0 ls [])) ∧
  (∀ (S : xS) (p0 : Nat) (i0 i1 : Int) (H : Heap) (locs : List Loc) (ls : Array Slot), g_X6_opened k 1 S p0 i0 i1 = some (r, S') → xI G S s H locs → lv_has ls 3 [(0, .ref (xB G + p0))] → W p l e rm_X6_opened s m args below meth c H locs 0 0 (MQ below (xQi G r S') args s 0 0 (xA G)) (F0 m 13 ls [])) := by
  intro k
  induction k with
  | zero => exact ⟨fun _ _ _ _ _ _ _ hf => (by cases hf), fun _ _ _ _ _ _ _ hf => (by cases hf)⟩
  | succ fu ih =>
    obtain ⟨ih0, ih1⟩ := ih
    refine ⟨?_, ?_⟩
    · intro S p0 i0 i1 H locs ls hf I hl
      replace hf : b_X6_opened_0 (g_X6_opened fu) fu S p0 i0 i1 = some (r, S') := hf
      unfold b_X6_opened_0 at hf
      refine kx_aload_n 0 C dX6_opened_0 (lv_at hl 0 rfl) ?_
      refine kx_iload_n 1 C dX6_opened_1 (lv_at hl 1 rfl) ?_
      obtain ⟨h4, hf⟩ := ift hf
      obtain ⟨x3, S1, h2, hf⟩ := ob2 hf
      refine kx_callVi 2 C hl I (ci := 5) (As := [.int (iI i0)]) (rest := []) (c_X6_isBox G l fu _ _ _ _ _ h2) (cwV 1 C.ts gX6_opened_X6_isBox rfl rfl rfl nyV_X6_isBox ⟨Nat.le_of_ble_eq_true rfl, Nat.le_of_ble_eq_true rfl⟩) rfl h4 rfl rfl (Nat.le_of_ble_eq_true rfl) dX6_opened_2 ⟨Nat.le_of_ble_eq_true rfl, Nat.le_of_ble_eq_true rfl⟩ (fun H locs I => ?_)
      refine kx_if_eq 5 13 C dX6_opened_5 (by decide) (fun c5 => ?_) (fun c5 => ?_)
      · have hf := ifp c5 hf
        exact ih1 _ _ _ _ _ _ _ hf I (lv_sub hl [0] rfl)
      · have hf := ifn c5 hf
        refine kx_iload_n 8 C dX6_opened_8 (lv_at hl 2 rfl) ?_
        refine kx_iconst 9 C dX6_opened_9 ?_
        refine kx_icmp_ge 10 20 C dX6_opened_10 (by decide) (fun c6 => ?_) (fun c6 => ?_)
        · have hf := ifp c6 hf
          refine kx_aload_n 20 C dX6_opened_20 (lv_at hl 0 rfl) ?_
          obtain ⟨h10, hf⟩ := ift hf
          obtain ⟨z9, S7, h8, hf⟩ := ob2 hf
          refine kx_callVv 21 C hl I (ci := 5) (As := []) (rest := []) (c_X6_takeNow G l fu _ _ _ _ h8) (cwV 0 C.ts gX6_opened_X6_takeNow rfl rfl rfl nyV_X6_takeNow ⟨Nat.le_of_ble_eq_true rfl, Nat.le_of_ble_eq_true rfl⟩) rfl h10 rfl rfl (Nat.le_of_ble_eq_true rfl) dX6_opened_21 ⟨Nat.le_of_ble_eq_true rfl, Nat.le_of_ble_eq_true rfl⟩ (fun H locs I => ?_)
          refine kx_aload_n 24 C dX6_opened_24 (lv_at hl 0 rfl) ?_
          refine kx_iload_n 25 C dX6_opened_25 (lv_at hl 1 rfl) ?_
          obtain ⟨h14, hf⟩ := ift hf
          obtain ⟨z13, S11, h12, hf⟩ := ob2 hf
          refine kx_callVv 26 C hl I (ci := 5) (As := [.int (iI i0)]) (rest := []) (c_X6_seek G l fu _ _ _ _ _ h12) (cwV 1 C.ts gX6_opened_X6_seek rfl rfl rfl nyV_X6_seek ⟨Nat.le_of_ble_eq_true rfl, Nat.le_of_ble_eq_true rfl⟩) rfl h14 rfl rfl (Nat.le_of_ble_eq_true rfl) dX6_opened_26 ⟨Nat.le_of_ble_eq_true rfl, Nat.le_of_ble_eq_true rfl⟩ (fun H locs I => ?_)
          refine kx_iload_n 29 C dX6_opened_29 (lv_at hl 2 rfl) ?_
          refine kx_iconst 30 C dX6_opened_30 ?_
          refine kx_icmp_ne 31 41 C dX6_opened_31 (by decide) (fun c15 => ?_) (fun c15 => ?_)
          · have hf := ifn c15 hf
            refine kx_iload_n 41 C dX6_opened_41 (lv_at hl 2 rfl) ?_
            refine kx_aload_n 42 C dX6_opened_42 (lv_at hl 0 rfl) ?_
            obtain ⟨x17, h16, hf⟩ := ob hf
            refine kx_geti 43 C I fl_X6_opened_151 h16 dX6_opened_43 ?_
            refine kx_icmp_ge 46 58 C dX6_opened_46 (by decide) (fun c18 => ?_) (fun c18 => ?_)
            · have hf := ifp c18 hf
              refine kx_bipush 58 C dX6_opened_58 (by decide) ?_
              exact kx_iret 60 C I hf dX6_opened_60
            · have hf := ifn c18 hf
              refine kx_aload_n 49 C dX6_opened_49 (lv_at hl 0 rfl) ?_
              obtain ⟨q20, h19, hf⟩ := ob hf
              refine kx_getp 50 C I fl_X6_opened_30 h19 dX6_opened_50 ?_
              refine kx_iload_n 53 C dX6_opened_53 (lv_at hl 2 rfl) ?_
              obtain ⟨x21, h22, hf⟩ := ob hf
              refine kx_iald 54 C I h22 dX6_opened_54 ?_
              refine kx_goto 55 60 C dX6_opened_55 (by decide) ?_
              exact kx_iret 60 C I hf dX6_opened_60
          · have hf := ifp c15 hf
            refine kx_aload_n 34 C dX6_opened_34 (lv_at hl 0 rfl) ?_
            obtain ⟨x24, h23, hf⟩ := ob hf
            refine kx_geti 35 C I fl_X6_opened_151 h23 dX6_opened_35 ?_
            refine kx_goto 38 60 C dX6_opened_38 (by decide) ?_
            exact kx_iret 60 C I hf dX6_opened_60
        · have hf := ifn c6 hf
          exact ih1 _ _ _ _ _ _ _ hf I (lv_sub hl [0] rfl)
    · intro S p0 i0 i1 H locs ls hf I hl
      replace hf : b_X6_opened_1 (g_X6_opened fu) fu S p0 i0 i1 = some (r, S') := hf
      unfold b_X6_opened_1 at hf
      refine kx_aload_n 13 C dX6_opened_13 (lv_at hl 0 rfl) ?_
      refine kx_bipush 14 C dX6_opened_14 (by decide) ?_
      obtain ⟨h28, hf⟩ := ift hf
      obtain ⟨x27, S25, h26, hf⟩ := ob2 hf
      refine kx_callVi 16 C hl I (ci := 5) (As := [.int (iI ((-10)))]) (rest := []) (c_X6_bad G l fu _ _ _ _ _ h26) (cwV 1 C.ts gX6_opened_X6_bad rfl rfl rfl nyV_X6_bad ⟨Nat.le_of_ble_eq_true rfl, Nat.le_of_ble_eq_true rfl⟩) rfl h28 rfl rfl (Nat.le_of_ble_eq_true rfl) dX6_opened_16 ⟨Nat.le_of_ble_eq_true rfl, Nat.le_of_ble_eq_true rfl⟩ (fun H locs I => ?_)
      exact kx_iret 19 C I hf dX6_opened_19
set_option maxHeartbeats 4000000 in
set_option maxRecDepth 100000 in
theorem c_X6_opened (G : xG) (l : Launch) (fu : Nat) (S S' : xS) (p0 : Nat) (i0 : Int) (i1 : Int) (r : Int) (hf : f_X6_opened fu S p0 i0 i1 = some (r, S')) : Met l yX6_opened vsX6_opened rm_X6_opened (va_Pc [.ref (xB G + p0), .int (iI i0), .int (iI i1)] (xPre G S)) (xQi G r S') 0 0 (xA G) := by
  refine kx_met (ret := (some .int)) RX6 [(0, .ref (xB G + p0)), (1, .int (iI i0)), (2, .int (iI i1))] (by decide) rfl rfl (Nat.le_of_ble_eq_true rfl) rfl (fun p e s m below meth c ls C hin I hl => ?_)
  exact (w_X6_opened C r S' fu).1 S _ _ _ _ _ _ hf I hl
def rm_X6_finds : Room := { frames := 5, cells := 0, slots := 0, locals := 113 }
theorem nyS_X6_finds : yX6_finds.cls ≠ "java/lang/invoke/MethodHandle" ∧ yX6_finds.cls ≠ "java/lang/invoke/VarHandle" ∧ (parseMethodDescriptor yX6_finds.desc).map (fun d => d.parameters.length) = some 0 := by decide +kernel
theorem nyV_X6_finds : yX6_finds.cls = RX6 ∧ yX6_finds.cls ≠ "java/lang/invoke/MethodHandle" ∧ yX6_finds.cls ≠ "java/lang/invoke/VarHandle" ∧ (parseMethodDescriptor yX6_finds.desc).map (fun d => d.parameters.length) = some 0 := by decide +kernel
set_option maxHeartbeats 4000000 in
set_option maxRecDepth 100000 in
theorem c_X6_finds (G : xG) (l : Launch) (fu : Nat) (S S' : xS) (p0 : Nat) (r : Int) (hf : f_X6_finds fu S p0 = some (r, S')) : Met l yX6_finds vsX6_finds rm_X6_finds (va_Pc [.ref (xB G + p0)] (xPre G S)) (xQi G r S') 0 0 (xA G) := by
  refine kx_met (ret := (some .int)) RX6 [(0, .ref (xB G + p0))] (by decide) rfl rfl (Nat.le_of_ble_eq_true rfl) rfl (fun p e s m below meth c ls C hin I hl => ?_)
  unfold f_X6_finds at hf
  refine kx_aload_n 0 C dX6_finds_0 (lv_at hl 0 rfl) ?_
  obtain ⟨h4, hf⟩ := ift hf
  obtain ⟨z3, S1, h2, hf⟩ := ob2 hf
  refine kx_callVv 1 C hl I (ci := 5) (As := []) (rest := []) (c_X6_takeNow G l fu _ _ _ _ h2) (cwV 0 C.ts gX6_finds_X6_takeNow rfl rfl rfl nyV_X6_takeNow ⟨Nat.le_of_ble_eq_true rfl, Nat.le_of_ble_eq_true rfl⟩) rfl h4 rfl rfl (Nat.le_of_ble_eq_true rfl) dX6_finds_1 ⟨Nat.le_of_ble_eq_true rfl, Nat.le_of_ble_eq_true rfl⟩ (fun H locs I => ?_)
  refine kx_aload_n 4 C dX6_finds_4 (lv_at hl 0 rfl) ?_
  obtain ⟨h8, hf⟩ := ift hf
  obtain ⟨x7, S5, h6, hf⟩ := ob2 hf
  refine kx_callVi 5 C hl I (ci := 5) (As := []) (rest := []) (c_X6_findsHand G l fu _ _ _ _ h6) (cwV 0 C.ts gX6_finds_X6_findsHand rfl rfl rfl nyV_X6_findsHand ⟨Nat.le_of_ble_eq_true rfl, Nat.le_of_ble_eq_true rfl⟩) rfl h8 rfl rfl (Nat.le_of_ble_eq_true rfl) dX6_finds_5 ⟨Nat.le_of_ble_eq_true rfl, Nat.le_of_ble_eq_true rfl⟩ (fun H locs I => ?_)
  exact kx_iret 8 C I hf dX6_finds_8
