def rm_X6_lookAt : Room := { frames := 2, cells := 0, slots := 0, locals := 45 }
theorem hin_X6_lookAt_RX6 : ∀ w ∈ wsX60, w ∈ vsX6_lookAt := fun w h => inM (inlX6 w h)
theorem fl_X6_lookAt_60 : xFl vsX6_lookAt RX6 60 5 22 := ⟨RX6, TX6, 30, rfl, by decide, hin_X6_lookAt_RX6, inM mq_5_9, rfl⟩
theorem fl_X6_lookAt_271 : xFl vsX6_lookAt RX6 271 5 23 := ⟨RX6, TX6, 30, rfl, by decide, hin_X6_lookAt_RX6, inM mq_15_11, rfl⟩
theorem fl_X6_lookAt_282 : xFl vsX6_lookAt RX6 282 5 24 := ⟨RX6, TX6, 30, rfl, by decide, hin_X6_lookAt_RX6, inM mq_21_6, rfl⟩
theorem fl_X6_lookAt_285 : xFl vsX6_lookAt RX6 285 5 25 := ⟨RX6, TX6, 30, rfl, by decide, hin_X6_lookAt_RX6, inM mq_21_12, rfl⟩
theorem fl_X6_lookAt_288 : xFl vsX6_lookAt RX6 288 5 26 := ⟨RX6, TX6, 30, rfl, by decide, hin_X6_lookAt_RX6, inM mq_21_7, rfl⟩
theorem fl_X6_lookAt_291 : xFl vsX6_lookAt RX6 291 5 27 := ⟨RX6, TX6, 30, rfl, by decide, hin_X6_lookAt_RX6, inM mq_21_13, rfl⟩
theorem nyS_X6_lookAt : yX6_lookAt.cls ≠ "java/lang/invoke/MethodHandle" ∧ yX6_lookAt.cls ≠ "java/lang/invoke/VarHandle" ∧ (parseMethodDescriptor yX6_lookAt.desc).map (fun d => d.parameters.length) = some 1 := by decide +kernel
theorem nyV_X6_lookAt : yX6_lookAt.cls = RX6 ∧ yX6_lookAt.cls ≠ "java/lang/invoke/MethodHandle" ∧ yX6_lookAt.cls ≠ "java/lang/invoke/VarHandle" ∧ (parseMethodDescriptor yX6_lookAt.desc).map (fun d => d.parameters.length) = some 1 := by decide +kernel
set_option maxHeartbeats 4000000 in
set_option maxRecDepth 100000 in
theorem w_X6_lookAt {G : xG} {p : Program} {l : Launch} {e : Env} {s : State} {m : MethodId} {args : Array Value} {below : List Frame} {meth : Method} {c : Code} (C : xK G p s m args meth c cX6_lookAt 5 vsX6_lookAt RX6 none) (r : Int) (S' : xS) : ∀ k : Nat,
  (∀ (S : xS) (p0 p1 : Nat) (i0 i1 i2 : Int) (H : Heap) (locs : List Loc) (ls : Array Slot), g_X6_lookAt k 0 S p0 p1 i0 i1 i2 = some (r, S') → xI G S s H locs → lv_has ls 5 [(0, .ref (xB G + p0)), (1, .int (iI i0))] → W p l e rm_X6_lookAt s m args below meth c H locs 0 0 (MQ below (xQv G S') args s 0 0 (xA G)) (F0 m 0 ls [])) ∧
  (∀ (S : xS) (p0 p1 : Nat) (i0 i1 i2 : Int) (H : Heap) (locs : List Loc) (ls : Array Slot), g_X6_lookAt k 1 S p0 p1 i0 i1 i2 = some (r, S') → xI G S s H locs → lv_has ls 5 [(0, .ref (xB G + p0))] → W p l e rm_X6_lookAt s m args below meth c H locs 0 0 (MQ below (xQv G S') args s 0 0 (xA G)) (F0 m 5 ls [])) ∧
  (∀ (S : xS) (p0 p1 : Nat) (i0 i1 i2 : Int) (H : Heap) (locs : List Loc) (ls : Array Slot), g_X6_lookAt k 2 S p0 p1 i0 i1 i2 = some (r, S') → xI G S s H locs → lv_has ls 5 [(0, .ref (xB G + p0))] → W p l e rm_X6_lookAt s m args below meth c H locs 0 0 (MQ below (xQv G S') args s 0 0 (xA G)) (F0 m 43 ls [])) ∧
  (∀ (S : xS) (p0 p1 : Nat) (i0 i1 i2 : Int) (H : Heap) (locs : List Loc) (ls : Array Slot), g_X6_lookAt k 3 S p0 p1 i0 i1 i2 = some (r, S') → xI G S s H locs → lv_has ls 5 [(0, .ref (xB G + p0))] → W p l e rm_X6_lookAt s m args below meth c H locs 0 0 (MQ below (xQv G S') args s 0 0 (xA G)) (F0 m 114 ls [.int (iI i0), .ref (xB G + p1)])) ∧
  (∀ (S : xS) (p0 p1 : Nat) (i0 i1 i2 : Int) (H : Heap) (locs : List Loc) (ls : Array Slot), g_X6_lookAt k 4 S p0 p1 i0 i1 i2 = some (r, S') → xI G S s H locs → lv_has ls 5 [(0, .ref (xB G + p0))] → W p l e rm_X6_lookAt s m args below meth c H locs 0 0 (MQ below (xQv G S') args s 0 0 (xA G)) (F0 m 135 ls [.int (iI i0)])) ∧
  (∀ (S : xS) (p0 p1 : Nat) (i0 i1 i2 : Int) (H : Heap) (locs : List Loc) (ls : Array Slot), g_X6_lookAt k 5 S p0 p1 i0 i1 i2 = some (r, S') → xI G S s H locs → lv_has ls 5 [(0, .ref (xB G + p0)), (3, .int (iI i0))] → W p l e rm_X6_lookAt s m args below meth c H locs 0 0 (MQ below (xQv G S') args s 0 0 (xA G)) (F0 m 136 ls [])) ∧
  (∀ (S : xS) (p0 p1 : Nat) (i0 i1 i2 : Int) (H : Heap) (locs : List Loc) (ls : Array Slot), g_X6_lookAt k 6 S p0 p1 i0 i1 i2 = some (r, S') → xI G S s H locs → lv_has ls 5 [(0, .ref (xB G + p0))] → W p l e rm_X6_lookAt s m args below meth c H locs 0 0 (MQ below (xQv G S') args s 0 0 (xA G)) (F0 m 193 ls [.int (iI i0)])) ∧
  (∀ (S : xS) (p0 p1 : Nat) (i0 i1 i2 : Int) (H : Heap) (locs : List Loc) (ls : Array Slot), g_X6_lookAt k 7 S p0 p1 i0 i1 i2 = some (r, S') → xI G S s H locs → lv_has ls 5 [(0, .ref (xB G + p0)), (3, .int (iI i0))] → W p l e rm_X6_lookAt s m args below meth c H locs 0 0 (MQ below (xQv G S') args s 0 0 (xA G)) (F0 m 208 ls [.int (iI i2), .int (iI i1), .ref (xB G + p1)])) ∧
  (∀ (S : xS) (p0 p1 : Nat) (i0 i1 i2 : Int) (H : Heap) (locs : List Loc) (ls : Array Slot), g_X6_lookAt k 8 S p0 p1 i0 i1 i2 = some (r, S') → xI G S s H locs → lv_has ls 5 [(0, .ref (xB G + p0))] → W p l e rm_X6_lookAt s m args below meth c H locs 0 0 (MQ below (xQv G S') args s 0 0 (xA G)) (F0 m 215 ls [])) ∧
  (∀ (S : xS) (p0 p1 : Nat) (i0 i1 i2 : Int) (H : Heap) (locs : List Loc) (ls : Array Slot), g_X6_lookAt k 9 S p0 p1 i0 i1 i2 = some (r, S') → xI G S s H locs → lv_has ls 5 [(0, .ref (xB G + p0)), (4, .int (iI i0))] → W p l e rm_X6_lookAt s m args below meth c H locs 0 0 (MQ below (xQv G S') args s 0 0 (xA G)) (F0 m 218 ls [])) ∧
  (∀ (S : xS) (p0 p1 : Nat) (i0 i1 i2 : Int) (H : Heap) (locs : List Loc) (ls : Array Slot), g_X6_lookAt k 10 S p0 p1 i0 i1 i2 = some (r, S') → xI G S s H locs → lv_has ls 5 [(0, .ref (xB G + p0))] → W p l e rm_X6_lookAt s m args below meth c H locs 0 0 (MQ below (xQv G S') args s 0 0 (xA G)) (F0 m 274 ls [])) ∧
  (∀ (S : xS) (p0 p1 : Nat) (i0 i1 i2 : Int) (H : Heap) (locs : List Loc) (ls : Array Slot), g_X6_lookAt k 11 S p0 p1 i0 i1 i2 = some (r, S') → xI G S s H locs → lv_has ls 5 [(0, .ref (xB G + p0))] → W p l e rm_X6_lookAt s m args below meth c H locs 0 0 (MQ below (xQv G S') args s 0 0 (xA G)) (F0 m 295 ls [.ref (xB G + p1)])) := by
  intro k
  induction k with
  | zero => exact ⟨fun _ _ _ _ _ _ _ _ _ hf => (by cases hf), fun _ _ _ _ _ _ _ _ _ hf => (by cases hf), fun _ _ _ _ _ _ _ _ _ hf => (by cases hf), fun _ _ _ _ _ _ _ _ _ hf => (by cases hf), fun _ _ _ _ _ _ _ _ _ hf => (by cases hf), fun _ _ _ _ _ _ _ _ _ hf => (by cases hf), fun _ _ _ _ _ _ _ _ _ hf => (by cases hf), fun _ _ _ _ _ _ _ _ _ hf => (by cases hf), fun _ _ _ _ _ _ _ _ _ hf => (by cases hf), fun _ _ _ _ _ _ _ _ _ hf => (by cases hf), fun _ _ _ _ _ _ _ _ _ hf => (by cases hf), fun _ _ _ _ _ _ _ _ _ hf => (by cases hf)⟩
  | succ fu ih =>
    obtain ⟨ih0, ih1, ih2, ih3, ih4, ih5, ih6, ih7, ih8, ih9, ih10, ih11⟩ := ih
    refine ⟨?_, ?_, ?_, ?_, ?_, ?_, ?_, ?_, ?_, ?_, ?_, ?_⟩
    · intro S p0 p1 i0 i1 i2 H locs ls hf I hl
      replace hf : b_X6_lookAt_0 (g_X6_lookAt fu) fu S p0 p1 i0 i1 i2 = some (r, S') := hf
      unfold b_X6_lookAt_0 at hf
      refine kx_aload_n 0 C dX6_lookAt_0 (lv_at hl 0 rfl) ?_
      refine kx_iload_n 1 C dX6_lookAt_1 (lv_at hl 1 rfl) ?_
      obtain ⟨S2, h1, hf⟩ := ob hf
      refine kx_puti 2 C I fl_X6_lookAt_282 fw_RX6_24 h1 dX6_lookAt_2 (fun H locs I => ?_)
      exact ih1 _ _ _ _ _ _ _ _ _ hf I (lv_sub hl [0] rfl)
    · intro S p0 p1 i0 i1 i2 H locs ls hf I hl
      replace hf : b_X6_lookAt_1 (g_X6_lookAt fu) fu S p0 p1 i0 i1 i2 = some (r, S') := hf
      unfold b_X6_lookAt_1 at hf
      refine kx_aload_n 5 C dX6_lookAt_5 (lv_at hl 0 rfl) ?_
      obtain ⟨x4, h3, hf⟩ := ob hf
      refine kx_geti 6 C I fl_X6_lookAt_282 h3 dX6_lookAt_6 ?_
      refine kx_aload_n 9 C dX6_lookAt_9 (lv_at hl 0 rfl) ?_
      obtain ⟨x6, h5, hf⟩ := ob hf
      refine kx_geti 10 C I fl_X6_lookAt_271 h5 dX6_lookAt_10 ?_
      refine kx_icmp_ge 13 43 C dX6_lookAt_13 (by decide) (fun c7 => ?_) (fun c7 => ?_)
      · have hf := ifp c7 hf
        exact ih2 _ _ _ _ _ _ _ _ _ hf I (lv_sub hl [0] rfl)
      · have hf := ifn c7 hf
        refine kx_aload_n 16 C dX6_lookAt_16 (lv_at hl 0 rfl) ?_
        obtain ⟨q9, h8, hf⟩ := ob hf
        refine kx_getp 17 C I fl_X6_lookAt_60 h8 dX6_lookAt_17 ?_
        refine kx_aload_n 20 C dX6_lookAt_20 (lv_at hl 0 rfl) ?_
        obtain ⟨x11, h10, hf⟩ := ob hf
        refine kx_geti 21 C I fl_X6_lookAt_282 h10 dX6_lookAt_21 ?_
        obtain ⟨x12, h13, hf⟩ := ob hf
        refine kx_iald 24 C I h13 dX6_lookAt_24 ?_
        refine kx_bipush 25 C dX6_lookAt_25 (by decide) ?_
        refine kx_icmp_ne 27 43 C dX6_lookAt_27 (by decide) (fun c14 => ?_) (fun c14 => ?_)
        · have hf := ifn c14 hf
          exact ih2 _ _ _ _ _ _ _ _ _ hf I (lv_sub hl [0] rfl)
        · have hf := ifp c14 hf
          refine kx_aload_n 30 C dX6_lookAt_30 (lv_at hl 0 rfl) ?_
          refine kx_dup 31 C dX6_lookAt_31 rfl ?_
          obtain ⟨x16, h15, hf⟩ := ob hf
          refine kx_geti 32 C I fl_X6_lookAt_282 h15 dX6_lookAt_32 ?_
          refine kx_iconst 35 C dX6_lookAt_35 ?_
          refine kx_iadd 36 C dX6_lookAt_36 ?_
          obtain ⟨S18, h17, hf⟩ := ob hf
          refine kx_puti 37 C I fl_X6_lookAt_282 fw_RX6_24 h17 dX6_lookAt_37 (fun H locs I => ?_)
          refine kx_goto 40 5 C dX6_lookAt_40 (by decide) ?_
          exact ih1 _ _ _ _ _ _ _ _ _ hf I (lv_sub hl [0] rfl)
    · intro S p0 p1 i0 i1 i2 H locs ls hf I hl
      replace hf : b_X6_lookAt_2 (g_X6_lookAt fu) fu S p0 p1 i0 i1 i2 = some (r, S') := hf
      unfold b_X6_lookAt_2 at hf
      refine kx_aload_n 43 C dX6_lookAt_43 (lv_at hl 0 rfl) ?_
      refine kx_iconst 44 C dX6_lookAt_44 ?_
      obtain ⟨S20, h19, hf⟩ := ob hf
      refine kx_puti 45 C I fl_X6_lookAt_285 fw_RX6_25 h19 dX6_lookAt_45 (fun H locs I => ?_)
      refine kx_aload_n 48 C dX6_lookAt_48 (lv_at hl 0 rfl) ?_
      refine kx_iconst 49 C dX6_lookAt_49 ?_
      obtain ⟨S22, h21, hf⟩ := ob hf
      refine kx_puti 50 C I fl_X6_lookAt_288 fw_RX6_26 h21 dX6_lookAt_50 (fun H locs I => ?_)
      refine kx_aload_n 53 C dX6_lookAt_53 (lv_at hl 0 rfl) ?_
      refine kx_iconst 54 C dX6_lookAt_54 ?_
      obtain ⟨S24, h23, hf⟩ := ob hf
      refine kx_puti 55 C I fl_X6_lookAt_291 fw_RX6_27 h23 dX6_lookAt_55 (fun H locs I => ?_)
      refine kx_aload_n 58 C dX6_lookAt_58 (lv_at hl 0 rfl) ?_
      obtain ⟨x26, h25, hf⟩ := ob hf
      refine kx_geti 59 C I fl_X6_lookAt_282 h25 dX6_lookAt_59 ?_
      refine kx_aload_n 62 C dX6_lookAt_62 (lv_at hl 0 rfl) ?_
      obtain ⟨x28, h27, hf⟩ := ob hf
      refine kx_geti 63 C I fl_X6_lookAt_271 h27 dX6_lookAt_63 ?_
      refine kx_icmp_ne 66 70 C dX6_lookAt_66 (by decide) (fun c29 => ?_) (fun c29 => ?_)
      · have hf := ifn c29 hf
        refine kx_aload_n 70 C dX6_lookAt_70 (lv_at hl 0 rfl) ?_
        obtain ⟨q31, h30, hf⟩ := ob hf
        refine kx_getp 71 C I fl_X6_lookAt_60 h30 dX6_lookAt_71 ?_
        refine kx_aload_n 74 C dX6_lookAt_74 (lv_at hl 0 rfl) ?_
        obtain ⟨x33, h32, hf⟩ := ob hf
        refine kx_geti 75 C I fl_X6_lookAt_282 h32 dX6_lookAt_75 ?_
        obtain ⟨x34, h35, hf⟩ := ob hf
        refine kx_iald 78 C I h35 dX6_lookAt_78 ?_
        refine kx_istore_n 79 C (lv' := [(2, .int (iI x34)), (0, .ref (xB G + p0))]) dX6_lookAt_79 hl (by decide) rfl rfl (fun ls hl => ?_)
        refine kx_aload_n 80 C dX6_lookAt_80 (lv_at hl 1 rfl) ?_
        refine kx_iload_n 81 C dX6_lookAt_81 (lv_at hl 0 rfl) ?_
        obtain ⟨x38, S36, h37, hf⟩ := ob2 hf
        refine kx_callSi 82 C hl I (As := [.int (iI x34)]) (rest := [.ref (xB G + p0)]) (c_X6_isSmall G l fu _ _ _ _ h37) (va_cwS 1 C.ts gX6_lookAt_X6_isSmall rfl rfl rfl nyS_X6_isSmall ⟨Nat.le_of_ble_eq_true rfl, Nat.le_of_ble_eq_true rfl⟩) rfl rfl (Nat.le_of_ble_eq_true rfl) dX6_lookAt_82 ⟨Nat.le_of_ble_eq_true rfl, Nat.le_of_ble_eq_true rfl⟩ (fun H locs I => ?_)
        refine kx_if_eq 85 92 C dX6_lookAt_85 (by decide) (fun c39 => ?_) (fun c39 => ?_)
        · have hf := ifp c39 hf
          refine kx_iload_n 92 C dX6_lookAt_92 (lv_at hl 0 rfl) ?_
          obtain ⟨x42, S40, h41, hf⟩ := ob2 hf
          refine kx_callSi 93 C hl I (As := [.int (iI x34)]) (rest := [.ref (xB G + p0)]) (c_X6_isFigure G l fu _ _ _ _ h41) (va_cwS 1 C.ts gX6_lookAt_X6_isFigure rfl rfl rfl nyS_X6_isFigure ⟨Nat.le_of_ble_eq_true rfl, Nat.le_of_ble_eq_true rfl⟩) rfl rfl (Nat.le_of_ble_eq_true rfl) dX6_lookAt_93 ⟨Nat.le_of_ble_eq_true rfl, Nat.le_of_ble_eq_true rfl⟩ (fun H locs I => ?_)
          refine kx_if_eq 96 103 C dX6_lookAt_96 (by decide) (fun c43 => ?_) (fun c43 => ?_)
          · have hf := ifp c43 hf
            refine kx_iload_n 103 C dX6_lookAt_103 (lv_at hl 0 rfl) ?_
            refine kx_bipush 104 C dX6_lookAt_104 (by decide) ?_
            refine kx_icmp_ne 106 113 C dX6_lookAt_106 (by decide) (fun c44 => ?_) (fun c44 => ?_)
            · have hf := ifn c44 hf
              refine kx_iconst 113 C dX6_lookAt_113 ?_
              exact ih3 _ _ _ _ _ _ _ _ _ hf I (lv_sub hl [1] rfl)
            · have hf := ifp c44 hf
              refine kx_iconst 109 C dX6_lookAt_109 ?_
              refine kx_goto 110 114 C dX6_lookAt_110 (by decide) ?_
              exact ih3 _ _ _ _ _ _ _ _ _ hf I (lv_sub hl [1] rfl)
          · have hf := ifn c43 hf
            refine kx_iconst 99 C dX6_lookAt_99 ?_
            refine kx_goto 100 114 C dX6_lookAt_100 (by decide) ?_
            exact ih3 _ _ _ _ _ _ _ _ _ hf I (lv_sub hl [1] rfl)
        · have hf := ifn c39 hf
          refine kx_iconst 88 C dX6_lookAt_88 ?_
          refine kx_goto 89 114 C dX6_lookAt_89 (by decide) ?_
          exact ih3 _ _ _ _ _ _ _ _ _ hf I (lv_sub hl [1] rfl)
      · have hf := ifp c29 hf
        exact kx_vret 69 C I hf dX6_lookAt_69
    · intro S p0 p1 i0 i1 i2 H locs ls hf I hl
      replace hf : b_X6_lookAt_3 (g_X6_lookAt fu) fu S p0 p1 i0 i1 i2 = some (r, S') := hf
      unfold b_X6_lookAt_3 at hf
      obtain ⟨S46, h45, hf⟩ := ob hf
      refine kx_puti 114 C I fl_X6_lookAt_288 fw_RX6_26 h45 dX6_lookAt_114 (fun H locs I => ?_)
      refine kx_aload_n 117 C dX6_lookAt_117 (lv_at hl 0 rfl) ?_
      refine kx_iconst 118 C dX6_lookAt_118 ?_
      obtain ⟨S48, h47, hf⟩ := ob hf
      refine kx_puti 119 C I fl_X6_lookAt_285 fw_RX6_25 h47 dX6_lookAt_119 (fun H locs I => ?_)
      refine kx_aload_n 122 C dX6_lookAt_122 (lv_at hl 0 rfl) ?_
      obtain ⟨x50, h49, hf⟩ := ob hf
      refine kx_geti 123 C I fl_X6_lookAt_288 h49 dX6_lookAt_123 ?_
      refine kx_iconst 126 C dX6_lookAt_126 ?_
      refine kx_icmp_ge 127 134 C dX6_lookAt_127 (by decide) (fun c51 => ?_) (fun c51 => ?_)
      · have hf := ifp c51 hf
        refine kx_iconst 134 C dX6_lookAt_134 ?_
        exact ih4 _ _ _ _ _ _ _ _ _ hf I (lv_sub hl [0] rfl)
      · have hf := ifn c51 hf
        refine kx_iconst 130 C dX6_lookAt_130 ?_
        refine kx_goto 131 135 C dX6_lookAt_131 (by decide) ?_
        exact ih4 _ _ _ _ _ _ _ _ _ hf I (lv_sub hl [0] rfl)
    · intro S p0 p1 i0 i1 i2 H locs ls hf I hl
      replace hf : b_X6_lookAt_4 (g_X6_lookAt fu) fu S p0 p1 i0 i1 i2 = some (r, S') := hf
      unfold b_X6_lookAt_4 at hf
      refine kx_istore_n 135 C (lv' := [(3, .int (iI i0)), (0, .ref (xB G + p0))]) dX6_lookAt_135 hl (by decide) rfl rfl (fun ls hl => ?_)
      exact ih5 _ _ _ _ _ _ _ _ _ hf I (lv_sub hl [1, 0] rfl)
    · intro S p0 p1 i0 i1 i2 H locs ls hf I hl
      replace hf : b_X6_lookAt_5 (g_X6_lookAt fu) fu S p0 p1 i0 i1 i2 = some (r, S') := hf
      unfold b_X6_lookAt_5 at hf
      refine kx_iload_n 136 C dX6_lookAt_136 (lv_at hl 1 rfl) ?_
      refine kx_if_eq 137 215 C dX6_lookAt_137 (by decide) (fun c52 => ?_) (fun c52 => ?_)
      · have hf := ifp c52 hf
        exact ih8 _ _ _ _ _ _ _ _ _ hf I (lv_sub hl [0] rfl)
      · have hf := ifn c52 hf
        refine kx_aload_n 140 C dX6_lookAt_140 (lv_at hl 0 rfl) ?_
        obtain ⟨x54, h53, hf⟩ := ob hf
        refine kx_geti 141 C I fl_X6_lookAt_282 h53 dX6_lookAt_141 ?_
        refine kx_aload_n 144 C dX6_lookAt_144 (lv_at hl 0 rfl) ?_
        obtain ⟨x56, h55, hf⟩ := ob hf
        refine kx_geti 145 C I fl_X6_lookAt_285 h55 dX6_lookAt_145 ?_
        refine kx_iadd 148 C dX6_lookAt_148 ?_
        refine kx_aload_n 149 C dX6_lookAt_149 (lv_at hl 0 rfl) ?_
        obtain ⟨x58, h57, hf⟩ := ob hf
        refine kx_geti 150 C I fl_X6_lookAt_271 h57 dX6_lookAt_150 ?_
        refine kx_icmp_ge 153 215 C dX6_lookAt_153 (by decide) (fun c59 => ?_) (fun c59 => ?_)
        · have hf := ifp c59 hf
          exact ih8 _ _ _ _ _ _ _ _ _ hf I (lv_sub hl [0] rfl)
        · have hf := ifn c59 hf
          refine kx_aload_n 156 C dX6_lookAt_156 (lv_at hl 0 rfl) ?_
          obtain ⟨q61, h60, hf⟩ := ob hf
          refine kx_getp 157 C I fl_X6_lookAt_60 h60 dX6_lookAt_157 ?_
          refine kx_aload_n 160 C dX6_lookAt_160 (lv_at hl 0 rfl) ?_
          obtain ⟨x63, h62, hf⟩ := ob hf
          refine kx_geti 161 C I fl_X6_lookAt_282 h62 dX6_lookAt_161 ?_
          refine kx_aload_n 164 C dX6_lookAt_164 (lv_at hl 0 rfl) ?_
          obtain ⟨x65, h64, hf⟩ := ob hf
          refine kx_geti 165 C I fl_X6_lookAt_285 h64 dX6_lookAt_165 ?_
          refine kx_iadd 168 C dX6_lookAt_168 ?_
          obtain ⟨x66, h67, hf⟩ := ob hf
          refine kx_iald 169 C I h67 dX6_lookAt_169 ?_
          refine kx_istore 170 C (lv' := [(4, .int (iI x66)), (0, .ref (xB G + p0)), (3, .int (iI i0))]) dX6_lookAt_170 hl (by decide) rfl rfl (fun ls hl => ?_)
          refine kx_aload_n 172 C dX6_lookAt_172 (lv_at hl 1 rfl) ?_
          obtain ⟨x69, h68, hf⟩ := ob hf
          refine kx_geti 173 C I fl_X6_lookAt_288 h68 dX6_lookAt_173 ?_
          refine kx_iconst 176 C dX6_lookAt_176 ?_
          refine kx_icmp_ne 177 188 C dX6_lookAt_177 (by decide) (fun c70 => ?_) (fun c70 => ?_)
          · have hf := ifn c70 hf
            refine kx_iload 188 C dX6_lookAt_188 (lv_at hl 0 rfl) ?_
            obtain ⟨x73, S71, h72, hf⟩ := ob2 hf
            refine kx_callSi 190 C hl I (As := [.int (iI x66)]) (rest := []) (c_X6_isFigure G l fu _ _ _ _ h72) (va_cwS 1 C.ts gX6_lookAt_X6_isFigure rfl rfl rfl nyS_X6_isFigure ⟨Nat.le_of_ble_eq_true rfl, Nat.le_of_ble_eq_true rfl⟩) rfl rfl (Nat.le_of_ble_eq_true rfl) dX6_lookAt_190 ⟨Nat.le_of_ble_eq_true rfl, Nat.le_of_ble_eq_true rfl⟩ (fun H locs I => ?_)
            exact ih6 _ _ _ _ _ _ _ _ _ hf I (lv_sub hl [1] rfl)
          · have hf := ifp c70 hf
            refine kx_iload 180 C dX6_lookAt_180 (lv_at hl 0 rfl) ?_
            obtain ⟨x76, S74, h75, hf⟩ := ob2 hf
            refine kx_callSi 182 C hl I (As := [.int (iI x66)]) (rest := []) (c_X6_isSmall G l fu _ _ _ _ h75) (va_cwS 1 C.ts gX6_lookAt_X6_isSmall rfl rfl rfl nyS_X6_isSmall ⟨Nat.le_of_ble_eq_true rfl, Nat.le_of_ble_eq_true rfl⟩) rfl rfl (Nat.le_of_ble_eq_true rfl) dX6_lookAt_182 ⟨Nat.le_of_ble_eq_true rfl, Nat.le_of_ble_eq_true rfl⟩ (fun H locs I => ?_)
            refine kx_goto 185 193 C dX6_lookAt_185 (by decide) ?_
            exact ih6 _ _ _ _ _ _ _ _ _ hf I (lv_sub hl [1] rfl)
    · intro S p0 p1 i0 i1 i2 H locs ls hf I hl
      replace hf : b_X6_lookAt_6 (g_X6_lookAt fu) fu S p0 p1 i0 i1 i2 = some (r, S') := hf
      unfold b_X6_lookAt_6 at hf
      refine kx_istore_n 193 C (lv' := [(3, .int (iI i0)), (0, .ref (xB G + p0))]) dX6_lookAt_193 hl (by decide) rfl rfl (fun ls hl => ?_)
      refine kx_aload_n 194 C dX6_lookAt_194 (lv_at hl 1 rfl) ?_
      refine kx_dup 195 C dX6_lookAt_195 rfl ?_
      obtain ⟨x78, h77, hf⟩ := ob hf
      refine kx_geti 196 C I fl_X6_lookAt_285 h77 dX6_lookAt_196 ?_
      refine kx_iload_n 199 C dX6_lookAt_199 (lv_at hl 0 rfl) ?_
      refine kx_if_eq 200 207 C dX6_lookAt_200 (by decide) (fun c79 => ?_) (fun c79 => ?_)
      · have hf := ifp c79 hf
        refine kx_iconst 207 C dX6_lookAt_207 ?_
        exact ih7 _ _ _ _ _ _ _ _ _ hf I (lv_sub hl [1, 0] rfl)
      · have hf := ifn c79 hf
        refine kx_iconst 203 C dX6_lookAt_203 ?_
        refine kx_goto 204 208 C dX6_lookAt_204 (by decide) ?_
        exact ih7 _ _ _ _ _ _ _ _ _ hf I (lv_sub hl [1, 0] rfl)
    · intro S p0 p1 i0 i1 i2 H locs ls hf I hl
      replace hf : b_X6_lookAt_7 (g_X6_lookAt fu) fu S p0 p1 i0 i1 i2 = some (r, S') := hf
      unfold b_X6_lookAt_7 at hf
      refine kx_iadd 208 C dX6_lookAt_208 ?_
      obtain ⟨S81, h80, hf⟩ := ob hf
      refine kx_puti 209 C I fl_X6_lookAt_285 fw_RX6_25 h80 dX6_lookAt_209 (fun H locs I => ?_)
      refine kx_goto 212 136 C dX6_lookAt_212 (by decide) ?_
      exact ih5 _ _ _ _ _ _ _ _ _ hf I (lv_sub hl [0, 1] rfl)
    · intro S p0 p1 i0 i1 i2 H locs ls hf I hl
      replace hf : b_X6_lookAt_8 (g_X6_lookAt fu) fu S p0 p1 i0 i1 i2 = some (r, S') := hf
      unfold b_X6_lookAt_8 at hf
      refine kx_iconst 215 C dX6_lookAt_215 ?_
      refine kx_istore 216 C (lv' := [(4, .int (iI 0)), (0, .ref (xB G + p0))]) dX6_lookAt_216 hl (by decide) rfl rfl (fun ls hl => ?_)
      exact ih9 _ _ _ _ _ _ _ _ _ hf I (lv_sub hl [1, 0] rfl)
    · intro S p0 p1 i0 i1 i2 H locs ls hf I hl
      replace hf : b_X6_lookAt_9 (g_X6_lookAt fu) fu S p0 p1 i0 i1 i2 = some (r, S') := hf
      unfold b_X6_lookAt_9 at hf
      refine kx_iload 218 C dX6_lookAt_218 (lv_at hl 1 rfl) ?_
      refine kx_aload_n 220 C dX6_lookAt_220 (lv_at hl 0 rfl) ?_
      obtain ⟨x83, h82, hf⟩ := ob hf
      refine kx_geti 221 C I fl_X6_lookAt_285 h82 dX6_lookAt_221 ?_
      refine kx_icmp_ge 224 274 C dX6_lookAt_224 (by decide) (fun c84 => ?_) (fun c84 => ?_)
      · have hf := ifp c84 hf
        exact ih10 _ _ _ _ _ _ _ _ _ hf I (lv_sub hl [0] rfl)
      · have hf := ifn c84 hf
        refine kx_iload 227 C dX6_lookAt_227 (lv_at hl 1 rfl) ?_
        refine kx_iconst 229 C dX6_lookAt_229 ?_
        refine kx_icmp_ge 230 274 C dX6_lookAt_230 (by decide) (fun c85 => ?_) (fun c85 => ?_)
        · have hf := ifp c85 hf
          exact ih10 _ _ _ _ _ _ _ _ _ hf I (lv_sub hl [0] rfl)
        · have hf := ifn c85 hf
          refine kx_aload_n 233 C dX6_lookAt_233 (lv_at hl 0 rfl) ?_
          obtain ⟨x87, h86, hf⟩ := ob hf
          refine kx_geti 234 C I fl_X6_lookAt_288 h86 dX6_lookAt_234 ?_
          refine kx_iconst 237 C dX6_lookAt_237 ?_
          refine kx_icmp_ne 238 274 C dX6_lookAt_238 (by decide) (fun c88 => ?_) (fun c88 => ?_)
          · have hf := ifn c88 hf
            exact ih10 _ _ _ _ _ _ _ _ _ hf I (lv_sub hl [0] rfl)
          · have hf := ifp c88 hf
            refine kx_aload_n 241 C dX6_lookAt_241 (lv_at hl 0 rfl) ?_
            refine kx_bipush 242 C dX6_lookAt_242 (by decide) ?_
            refine kx_aload_n 244 C dX6_lookAt_244 (lv_at hl 0 rfl) ?_
            obtain ⟨x90, h89, hf⟩ := ob hf
            refine kx_geti 245 C I fl_X6_lookAt_291 h89 dX6_lookAt_245 ?_
            refine kx_imul 248 C dX6_lookAt_248 ?_
            refine kx_aload_n 249 C dX6_lookAt_249 (lv_at hl 0 rfl) ?_
            obtain ⟨q92, h91, hf⟩ := ob hf
            refine kx_getp 250 C I fl_X6_lookAt_60 h91 dX6_lookAt_250 ?_
            refine kx_aload_n 253 C dX6_lookAt_253 (lv_at hl 0 rfl) ?_
            obtain ⟨x94, h93, hf⟩ := ob hf
            refine kx_geti 254 C I fl_X6_lookAt_282 h93 dX6_lookAt_254 ?_
            refine kx_iload 257 C dX6_lookAt_257 (lv_at hl 1 rfl) ?_
            refine kx_iadd 259 C dX6_lookAt_259 ?_
            obtain ⟨x95, h96, hf⟩ := ob hf
            refine kx_iald 260 C I h96 dX6_lookAt_260 ?_
            refine kx_iadd 261 C dX6_lookAt_261 ?_
            refine kx_bipush 262 C dX6_lookAt_262 (by decide) ?_
            refine kx_isub 264 C dX6_lookAt_264 ?_
            obtain ⟨S98, h97, hf⟩ := ob hf
            refine kx_puti 265 C I fl_X6_lookAt_291 fw_RX6_27 h97 dX6_lookAt_265 (fun H locs I => ?_)
            obtain ⟨x99, e100, hf⟩ := nmx_e hf
            refine kx_iinc 268 C (lv' := [(4, .int (iI x99)), (0, .ref (xB G + p0))]) dX6_lookAt_268 hl 1 rfl e100 (by decide) rfl (fun ls hl => ?_)
            refine kx_goto 271 218 C dX6_lookAt_271 (by decide) ?_
            exact ih9 _ _ _ _ _ _ _ _ _ hf I (lv_sub hl [1, 0] rfl)
    · intro S p0 p1 i0 i1 i2 H locs ls hf I hl
      replace hf : b_X6_lookAt_10 (g_X6_lookAt fu) fu S p0 p1 i0 i1 i2 = some (r, S') := hf
      unfold b_X6_lookAt_10 at hf
      refine kx_aload_n 274 C dX6_lookAt_274 (lv_at hl 0 rfl) ?_
      refine kx_aload_n 275 C dX6_lookAt_275 (lv_at hl 0 rfl) ?_
      obtain ⟨x102, h101, hf⟩ := ob hf
      refine kx_geti 276 C I fl_X6_lookAt_288 h101 dX6_lookAt_276 ?_
      refine kx_iconst 279 C dX6_lookAt_279 ?_
      refine kx_icmp_ne 280 295 C dX6_lookAt_280 (by decide) (fun c103 => ?_) (fun c103 => ?_)
      · have hf := ifn c103 hf
        exact ih11 _ _ _ _ _ _ _ _ _ hf I (lv_sub hl [0] rfl)
      · have hf := ifp c103 hf
        refine kx_aload_n 283 C dX6_lookAt_283 (lv_at hl 0 rfl) ?_
        obtain ⟨x105, h104, hf⟩ := ob hf
        refine kx_geti 284 C I fl_X6_lookAt_285 h104 dX6_lookAt_284 ?_
        refine kx_iconst 287 C dX6_lookAt_287 ?_
        refine kx_icmp_le 288 295 C dX6_lookAt_288 (by decide) (fun c106 => ?_) (fun c106 => ?_)
        · have hf := ifp c106 hf
          exact ih11 _ _ _ _ _ _ _ _ _ hf I (lv_sub hl [0] rfl)
        · have hf := ifn c106 hf
          refine kx_iconst 291 C dX6_lookAt_291 ?_
          refine kx_goto 292 299 C dX6_lookAt_292 (by decide) ?_
          obtain ⟨S108, h107, hf⟩ := ob hf
          refine kx_puti 299 C I fl_X6_lookAt_288 fw_RX6_26 h107 dX6_lookAt_299 (fun H locs I => ?_)
          exact kx_vret 302 C I hf dX6_lookAt_302
    · intro S p0 p1 i0 i1 i2 H locs ls hf I hl
      replace hf : b_X6_lookAt_11 (g_X6_lookAt fu) fu S p0 p1 i0 i1 i2 = some (r, S') := hf
      unfold b_X6_lookAt_11 at hf
      refine kx_aload_n 295 C dX6_lookAt_295 (lv_at hl 0 rfl) ?_
      obtain ⟨x110, h109, hf⟩ := ob hf
      refine kx_geti 296 C I fl_X6_lookAt_288 h109 dX6_lookAt_296 ?_
      obtain ⟨S112, h111, hf⟩ := ob hf
      refine kx_puti 299 C I fl_X6_lookAt_288 fw_RX6_26 h111 dX6_lookAt_299 (fun H locs I => ?_)
      exact kx_vret 302 C I hf dX6_lookAt_302
set_option maxHeartbeats 4000000 in
set_option maxRecDepth 100000 in
theorem c_X6_lookAt (G : xG) (l : Launch) (fu : Nat) (S S' : xS) (p0 : Nat) (i0 : Int) (r : Int) (hf : f_X6_lookAt fu S p0 i0 = some (r, S')) : Met l yX6_lookAt vsX6_lookAt rm_X6_lookAt (va_Pc [.ref (xB G + p0), .int (iI i0)] (xPre G S)) (xQv G S') 0 0 (xA G) := by
  refine kx_met (ret := none) RX6 [(0, .ref (xB G + p0)), (1, .int (iI i0))] (by decide) rfl rfl (Nat.le_of_ble_eq_true rfl) rfl (fun p e s m below meth c ls C hin I hl => ?_)
  exact (w_X6_lookAt C r S' fu).1 S _ _ _ _ _ _ _ _ hf I hl
def rm_X6_goOn : Room := { frames := 3, cells := 0, slots := 0, locals := 69 }
theorem hin_X6_goOn_RX6 : ∀ w ∈ wsX60, w ∈ vsX6_goOn := fun w h => inM (inlX6 w h)
theorem fl_X6_goOn_282 : xFl vsX6_goOn RX6 282 5 24 := ⟨RX6, TX6, 30, rfl, by decide, hin_X6_goOn_RX6, inM mq_21_6, rfl⟩
theorem fl_X6_goOn_285 : xFl vsX6_goOn RX6 285 5 25 := ⟨RX6, TX6, 30, rfl, by decide, hin_X6_goOn_RX6, inM mq_21_12, rfl⟩
theorem nyS_X6_goOn : yX6_goOn.cls ≠ "java/lang/invoke/MethodHandle" ∧ yX6_goOn.cls ≠ "java/lang/invoke/VarHandle" ∧ (parseMethodDescriptor yX6_goOn.desc).map (fun d => d.parameters.length) = some 0 := by decide +kernel
theorem nyV_X6_goOn : yX6_goOn.cls = RX6 ∧ yX6_goOn.cls ≠ "java/lang/invoke/MethodHandle" ∧ yX6_goOn.cls ≠ "java/lang/invoke/VarHandle" ∧ (parseMethodDescriptor yX6_goOn.desc).map (fun d => d.parameters.length) = some 0 := by decide +kernel
set_option maxHeartbeats 4000000 in
set_option maxRecDepth 100000 in
theorem c_X6_goOn (G : xG) (l : Launch) (fu : Nat) (S S' : xS) (p0 : Nat) (r : Int) (hf : f_X6_goOn fu S p0 = some (r, S')) : Met l yX6_goOn vsX6_goOn rm_X6_goOn (va_Pc [.ref (xB G + p0)] (xPre G S)) (xQv G S') 0 0 (xA G) := by
  refine kx_met (ret := none) RX6 [(0, .ref (xB G + p0))] (by decide) rfl rfl (Nat.le_of_ble_eq_true rfl) rfl (fun p e s m below meth c ls C hin I hl => ?_)
  unfold f_X6_goOn at hf
  refine kx_aload_n 0 C dX6_goOn_0 (lv_at hl 0 rfl) ?_
  refine kx_aload_n 1 C dX6_goOn_1 (lv_at hl 0 rfl) ?_
  obtain ⟨x2, h1, hf⟩ := ob hf
  refine kx_geti 2 C I fl_X6_goOn_282 h1 dX6_goOn_2 ?_
  refine kx_aload_n 5 C dX6_goOn_5 (lv_at hl 0 rfl) ?_
  obtain ⟨x4, h3, hf⟩ := ob hf
  refine kx_geti 6 C I fl_X6_goOn_285 h3 dX6_goOn_6 ?_
  refine kx_iadd 9 C dX6_goOn_9 ?_
  obtain ⟨h8, hf⟩ := ift hf
  obtain ⟨z7, S5, h6, hf⟩ := ob2 hf
  refine kx_callVv 10 C hl I (ci := 5) (As := [.int (iI (x2 + x4))]) (rest := []) (c_X6_lookAt G l fu _ _ _ _ _ h6) (cwV 1 C.ts gX6_goOn_X6_lookAt rfl rfl rfl nyV_X6_lookAt ⟨Nat.le_of_ble_eq_true rfl, Nat.le_of_ble_eq_true rfl⟩) rfl h8 rfl rfl (Nat.le_of_ble_eq_true rfl) dX6_goOn_10 ⟨Nat.le_of_ble_eq_true rfl, Nat.le_of_ble_eq_true rfl⟩ (fun H locs I => ?_)
  exact kx_vret 13 C I hf dX6_goOn_13
def rm_X6_isWord : Room := { frames := 0, cells := 0, slots := 0, locals := 0 }
theorem hin_X6_isWord_RX6 : ∀ w ∈ wsX60, w ∈ vsX6_isWord := fun w h => inM (inlX6 w h)
theorem fl_X6_isWord_60 : xFl vsX6_isWord RX6 60 5 22 := ⟨RX6, TX6, 30, rfl, by decide, hin_X6_isWord_RX6, inM mq_5_9, rfl⟩
theorem fl_X6_isWord_282 : xFl vsX6_isWord RX6 282 5 24 := ⟨RX6, TX6, 30, rfl, by decide, hin_X6_isWord_RX6, inM mq_21_6, rfl⟩
theorem fl_X6_isWord_285 : xFl vsX6_isWord RX6 285 5 25 := ⟨RX6, TX6, 30, rfl, by decide, hin_X6_isWord_RX6, inM mq_21_12, rfl⟩
theorem fl_X6_isWord_288 : xFl vsX6_isWord RX6 288 5 26 := ⟨RX6, TX6, 30, rfl, by decide, hin_X6_isWord_RX6, inM mq_21_7, rfl⟩
theorem nyS_X6_isWord : yX6_isWord.cls ≠ "java/lang/invoke/MethodHandle" ∧ yX6_isWord.cls ≠ "java/lang/invoke/VarHandle" ∧ (parseMethodDescriptor yX6_isWord.desc).map (fun d => d.parameters.length) = some 6 := by decide +kernel
theorem nyV_X6_isWord : yX6_isWord.cls = RX6 ∧ yX6_isWord.cls ≠ "java/lang/invoke/MethodHandle" ∧ yX6_isWord.cls ≠ "java/lang/invoke/VarHandle" ∧ (parseMethodDescriptor yX6_isWord.desc).map (fun d => d.parameters.length) = some 6 := by decide +kernel
set_option maxHeartbeats 4000000 in
set_option maxRecDepth 100000 in
theorem w_X6_isWord {G : xG} {p : Program} {l : Launch} {e : Env} {s : State} {m : MethodId} {args : Array Value} {below : List Frame} {meth : Method} {c : Code} (C : xK G p s m args meth c cX6_isWord 10 vsX6_isWord RX6 (some .boolean)) (r : Int) (S' : xS) : ∀ k : Nat,
  (∀ (S : xS) (p0 : Nat) (i0 i1 i2 i3 i4 i5 i6 i7 i8 i9 : Int) (H : Heap) (locs : List Loc) (ls : Array Slot), g_X6_isWord k 0 S p0 i0 i1 i2 i3 i4 i5 i6 i7 i8 i9 = some (r, S') → xI G S s H locs → lv_has ls 10 [(0, .ref (xB G + p0)), (1, .int (iI i0)), (2, .int (iI i1)), (3, .int (iI i2)), (4, .int (iI i3)), (5, .int (iI i4)), (6, .int (iI i5))] → W p l e rm_X6_isWord s m args below meth c H locs 0 0 (MQ below (xQi G r S') args s 0 0 (xA G)) (F0 m 0 ls [])) ∧
  (∀ (S : xS) (p0 : Nat) (i0 i1 i2 i3 i4 i5 i6 i7 i8 i9 : Int) (H : Heap) (locs : List Loc) (ls : Array Slot), g_X6_isWord k 1 S p0 i0 i1 i2 i3 i4 i5 i6 i7 i8 i9 = some (r, S') → xI G S s H locs → lv_has ls 10 [(0, .ref (xB G + p0)), (1, .int (iI i0)), (2, .int (iI i1)), (3, .int (iI i2)), (4, .int (iI i3)), (5, .int (iI i4)), (6, .int (iI i5))] → W p l e rm_X6_isWord s m args below meth c H locs 0 0 (MQ below (xQi G r S') args s 0 0 (xA G)) (F0 m 20 ls [.int (iI i6)])) ∧
  (∀ (S : xS) (p0 : Nat) (i0 i1 i2 i3 i4 i5 i6 i7 i8 i9 : Int) (H : Heap) (locs : List Loc) (ls : Array Slot), g_X6_isWord k 2 S p0 i0 i1 i2 i3 i4 i5 i6 i7 i8 i9 = some (r, S') → xI G S s H locs → lv_has ls 10 [(0, .ref (xB G + p0)), (1, .int (iI i0)), (2, .int (iI i1)), (3, .int (iI i2)), (4, .int (iI i3)), (5, .int (iI i4)), (6, .int (iI i5)), (7, .int (iI i6))] → W p l e rm_X6_isWord s m args below meth c H locs 0 0 (MQ below (xQi G r S') args s 0 0 (xA G)) (F0 m 43 ls [])) ∧
  (∀ (S : xS) (p0 : Nat) (i0 i1 i2 i3 i4 i5 i6 i7 i8 i9 : Int) (H : Heap) (locs : List Loc) (ls : Array Slot), g_X6_isWord k 3 S p0 i0 i1 i2 i3 i4 i5 i6 i7 i8 i9 = some (r, S') → xI G S s H locs → lv_has ls 10 [(0, .ref (xB G + p0)), (1, .int (iI i0)), (2, .int (iI i1)), (3, .int (iI i2)), (4, .int (iI i3)), (5, .int (iI i4)), (6, .int (iI i5)), (7, .int (iI i6))] → W p l e rm_X6_isWord s m args below meth c H locs 0 0 (MQ below (xQi G r S') args s 0 0 (xA G)) (F0 m 44 ls [.int (iI i7)])) ∧
  (∀ (S : xS) (p0 : Nat) (i0 i1 i2 i3 i4 i5 i6 i7 i8 i9 : Int) (H : Heap) (locs : List Loc) (ls : Array Slot), g_X6_isWord k 4 S p0 i0 i1 i2 i3 i4 i5 i6 i7 i8 i9 = some (r, S') → xI G S s H locs → lv_has ls 10 [(0, .ref (xB G + p0)), (1, .int (iI i0)), (2, .int (iI i1)), (3, .int (iI i2)), (4, .int (iI i3)), (5, .int (iI i4)), (6, .int (iI i5)), (7, .int (iI i6)), (8, .int (iI i7)), (9, .int (iI i8))] → W p l e rm_X6_isWord s m args below meth c H locs 0 0 (MQ below (xQi G r S') args s 0 0 (xA G)) (F0 m 49 ls [])) ∧
  (∀ (S : xS) (p0 : Nat) (i0 i1 i2 i3 i4 i5 i6 i7 i8 i9 : Int) (H : Heap) (locs : List Loc) (ls : Array Slot), g_X6_isWord k 5 S p0 i0 i1 i2 i3 i4 i5 i6 i7 i8 i9 = some (r, S') → xI G S s H locs → lv_has ls 10 [(0, .ref (xB G + p0)), (1, .int (iI i0)), (2, .int (iI i1)), (3, .int (iI i2)), (4, .int (iI i3)), (5, .int (iI i4)), (6, .int (iI i5)), (7, .int (iI i6)), (9, .int (iI i7))] → W p l e rm_X6_isWord s m args below meth c H locs 0 0 (MQ below (xQi G r S') args s 0 0 (xA G)) (F0 m 126 ls [.int (iI i9), .int (iI i8)])) ∧
  (∀ (S : xS) (p0 : Nat) (i0 i1 i2 i3 i4 i5 i6 i7 i8 i9 : Int) (H : Heap) (locs : List Loc) (ls : Array Slot), g_X6_isWord k 6 S p0 i0 i1 i2 i3 i4 i5 i6 i7 i8 i9 = some (r, S') → xI G S s H locs → lv_has ls 10 [(0, .ref (xB G + p0)), (1, .int (iI i0)), (2, .int (iI i1)), (3, .int (iI i2)), (4, .int (iI i3)), (5, .int (iI i4)), (6, .int (iI i5)), (7, .int (iI i6)), (9, .int (iI i7))] → W p l e rm_X6_isWord s m args below meth c H locs 0 0 (MQ below (xQi G r S') args s 0 0 (xA G)) (F0 m 134 ls [.int (iI i8)])) := by
  intro k
  induction k with
  | zero => exact ⟨fun _ _ _ _ _ _ _ _ _ _ _ _ _ _ _ hf => (by cases hf), fun _ _ _ _ _ _ _ _ _ _ _ _ _ _ _ hf => (by cases hf), fun _ _ _ _ _ _ _ _ _ _ _ _ _ _ _ hf => (by cases hf), fun _ _ _ _ _ _ _ _ _ _ _ _ _ _ _ hf => (by cases hf), fun _ _ _ _ _ _ _ _ _ _ _ _ _ _ _ hf => (by cases hf), fun _ _ _ _ _ _ _ _ _ _ _ _ _ _ _ hf => (by cases hf), fun _ _ _ _ _ _ _ _ _ _ _ _ _ _ _ hf => (by cases hf)⟩
  | succ fu ih =>
    obtain ⟨ih0, ih1, ih2, ih3, ih4, ih5, ih6⟩ := ih
    refine ⟨?_, ?_, ?_, ?_, ?_, ?_, ?_⟩
    · intro S p0 i0 i1 i2 i3 i4 i5 i6 i7 i8 i9 H locs ls hf I hl
      replace hf : b_X6_isWord_0 (g_X6_isWord fu) fu S p0 i0 i1 i2 i3 i4 i5 i6 i7 i8 i9 = some (r, S') := hf
      unfold b_X6_isWord_0 at hf
      refine kx_iload 0 C dX6_isWord_0 (lv_at hl 5 rfl) ?_
      refine kx_if_ne 2 9 C dX6_isWord_2 (by decide) (fun c1 => ?_) (fun c1 => ?_)
      · have hf := ifn c1 hf
        refine kx_iload 9 C dX6_isWord_9 (lv_at hl 6 rfl) ?_
        refine kx_if_ne 11 18 C dX6_isWord_11 (by decide) (fun c2 => ?_) (fun c2 => ?_)
        · have hf := ifn c2 hf
          refine kx_bipush 18 C dX6_isWord_18 (by decide) ?_
          exact ih1 _ _ _ _ _ _ _ _ _ _ _ _ _ _ _ hf I (lv_sub hl [0, 1, 2, 3, 4, 5, 6] rfl)
        · have hf := ifp c2 hf
          refine kx_iconst 14 C dX6_isWord_14 ?_
          refine kx_goto 15 20 C dX6_isWord_15 (by decide) ?_
          exact ih1 _ _ _ _ _ _ _ _ _ _ _ _ _ _ _ hf I (lv_sub hl [0, 1, 2, 3, 4, 5, 6] rfl)
      · have hf := ifp c1 hf
        refine kx_iconst 5 C dX6_isWord_5 ?_
        refine kx_goto 6 20 C dX6_isWord_6 (by decide) ?_
        exact ih1 _ _ _ _ _ _ _ _ _ _ _ _ _ _ _ hf I (lv_sub hl [0, 1, 2, 3, 4, 5, 6] rfl)
    · intro S p0 i0 i1 i2 i3 i4 i5 i6 i7 i8 i9 H locs ls hf I hl
      replace hf : b_X6_isWord_1 (g_X6_isWord fu) fu S p0 i0 i1 i2 i3 i4 i5 i6 i7 i8 i9 = some (r, S') := hf
      unfold b_X6_isWord_1 at hf
      refine kx_istore 20 C (lv' := [(7, .int (iI i6)), (0, .ref (xB G + p0)), (1, .int (iI i0)), (2, .int (iI i1)), (3, .int (iI i2)), (4, .int (iI i3)), (5, .int (iI i4)), (6, .int (iI i5))]) dX6_isWord_20 hl (by decide) rfl rfl (fun ls hl => ?_)
      refine kx_aload_n 22 C dX6_isWord_22 (lv_at hl 1 rfl) ?_
      obtain ⟨x4, h3, hf⟩ := ob hf
      refine kx_geti 23 C I fl_X6_isWord_288 h3 dX6_isWord_23 ?_
      refine kx_iconst 26 C dX6_isWord_26 ?_
      refine kx_icmp_ne 27 43 C dX6_isWord_27 (by decide) (fun c5 => ?_) (fun c5 => ?_)
      · have hf := ifn c5 hf
        exact ih2 _ _ _ _ _ _ _ _ _ _ _ _ _ _ _ hf I (lv_sub hl [1, 2, 3, 4, 5, 6, 7, 0] rfl)
      · have hf := ifp c5 hf
        refine kx_aload_n 30 C dX6_isWord_30 (lv_at hl 1 rfl) ?_
        obtain ⟨x7, h6, hf⟩ := ob hf
        refine kx_geti 31 C I fl_X6_isWord_285 h6 dX6_isWord_31 ?_
        refine kx_iload 34 C dX6_isWord_34 (lv_at hl 0 rfl) ?_
        refine kx_icmp_ne 36 43 C dX6_isWord_36 (by decide) (fun c8 => ?_) (fun c8 => ?_)
        · have hf := ifn c8 hf
          exact ih2 _ _ _ _ _ _ _ _ _ _ _ _ _ _ _ hf I (lv_sub hl [1, 2, 3, 4, 5, 6, 7, 0] rfl)
        · have hf := ifp c8 hf
          refine kx_iconst 39 C dX6_isWord_39 ?_
          refine kx_goto 40 44 C dX6_isWord_40 (by decide) ?_
          exact ih3 _ _ _ _ _ _ _ _ _ _ _ _ _ _ _ hf I (lv_sub hl [1, 2, 3, 4, 5, 6, 7, 0] rfl)
    · intro S p0 i0 i1 i2 i3 i4 i5 i6 i7 i8 i9 H locs ls hf I hl
      replace hf : b_X6_isWord_2 (g_X6_isWord fu) fu S p0 i0 i1 i2 i3 i4 i5 i6 i7 i8 i9 = some (r, S') := hf
      unfold b_X6_isWord_2 at hf
      refine kx_iconst 43 C dX6_isWord_43 ?_
      exact ih3 _ _ _ _ _ _ _ _ _ _ _ _ _ _ _ hf I (lv_sub hl [0, 1, 2, 3, 4, 5, 6, 7] rfl)
    · intro S p0 i0 i1 i2 i3 i4 i5 i6 i7 i8 i9 H locs ls hf I hl
      replace hf : b_X6_isWord_3 (g_X6_isWord fu) fu S p0 i0 i1 i2 i3 i4 i5 i6 i7 i8 i9 = some (r, S') := hf
      unfold b_X6_isWord_3 at hf
      refine kx_istore 44 C (lv' := [(8, .int (iI i7)), (0, .ref (xB G + p0)), (1, .int (iI i0)), (2, .int (iI i1)), (3, .int (iI i2)), (4, .int (iI i3)), (5, .int (iI i4)), (6, .int (iI i5)), (7, .int (iI i6))]) dX6_isWord_44 hl (by decide) rfl rfl (fun ls hl => ?_)
      refine kx_iconst 46 C dX6_isWord_46 ?_
      refine kx_istore 47 C (lv' := [(9, .int (iI 0)), (8, .int (iI i7)), (0, .ref (xB G + p0)), (1, .int (iI i0)), (2, .int (iI i1)), (3, .int (iI i2)), (4, .int (iI i3)), (5, .int (iI i4)), (6, .int (iI i5)), (7, .int (iI i6))]) dX6_isWord_47 hl (by decide) rfl rfl (fun ls hl => ?_)
      exact ih4 _ _ _ _ _ _ _ _ _ _ _ _ _ _ _ hf I (lv_sub hl [2, 3, 4, 5, 6, 7, 8, 9, 1, 0] rfl)
    · intro S p0 i0 i1 i2 i3 i4 i5 i6 i7 i8 i9 H locs ls hf I hl
      replace hf : b_X6_isWord_4 (g_X6_isWord fu) fu S p0 i0 i1 i2 i3 i4 i5 i6 i7 i8 i9 = some (r, S') := hf
      unfold b_X6_isWord_4 at hf
      refine kx_iload 49 C dX6_isWord_49 (lv_at hl 9 rfl) ?_
      refine kx_iload 51 C dX6_isWord_51 (lv_at hl 7 rfl) ?_
      refine kx_icmp_ge 53 142 C dX6_isWord_53 (by decide) (fun c9 => ?_) (fun c9 => ?_)
      · have hf := ifp c9 hf
        refine kx_iload 142 C dX6_isWord_142 (lv_at hl 8 rfl) ?_
        obtain ⟨h10, hf⟩ := ift hf
        exact kx_zret 144 C I h10 hf dX6_isWord_144
      · have hf := ifn c9 hf
        refine kx_iload 56 C dX6_isWord_56 (lv_at hl 8 rfl) ?_
        refine kx_if_eq 58 142 C dX6_isWord_58 (by decide) (fun c11 => ?_) (fun c11 => ?_)
        · have hf := ifp c11 hf
          refine kx_iload 142 C dX6_isWord_142 (lv_at hl 8 rfl) ?_
          obtain ⟨h12, hf⟩ := ift hf
          exact kx_zret 144 C I h12 hf dX6_isWord_144
        · have hf := ifn c11 hf
          refine kx_aload_n 61 C dX6_isWord_61 (lv_at hl 0 rfl) ?_
          obtain ⟨q14, h13, hf⟩ := ob hf
          refine kx_getp 62 C I fl_X6_isWord_60 h13 dX6_isWord_62 ?_
          refine kx_aload_n 65 C dX6_isWord_65 (lv_at hl 0 rfl) ?_
          obtain ⟨x16, h15, hf⟩ := ob hf
          refine kx_geti 66 C I fl_X6_isWord_282 h15 dX6_isWord_66 ?_
          refine kx_iload 69 C dX6_isWord_69 (lv_at hl 9 rfl) ?_
          refine kx_iadd 71 C dX6_isWord_71 ?_
          obtain ⟨x17, h18, hf⟩ := ob hf
          refine kx_iald 72 C I h18 dX6_isWord_72 ?_
          refine kx_iload 73 C dX6_isWord_73 (lv_at hl 9 rfl) ?_
          refine kx_if_ne 75 82 C dX6_isWord_75 (by decide) (fun c19 => ?_) (fun c19 => ?_)
          · have hf := ifn c19 hf
            refine kx_iload 82 C dX6_isWord_82 (lv_at hl 9 rfl) ?_
            refine kx_iconst 84 C dX6_isWord_84 ?_
            refine kx_icmp_ne 85 92 C dX6_isWord_85 (by decide) (fun c20 => ?_) (fun c20 => ?_)
            · have hf := ifn c20 hf
              refine kx_iload 92 C dX6_isWord_92 (lv_at hl 9 rfl) ?_
              refine kx_iconst 94 C dX6_isWord_94 ?_
              refine kx_icmp_ne 95 102 C dX6_isWord_95 (by decide) (fun c21 => ?_) (fun c21 => ?_)
              · have hf := ifn c21 hf
                refine kx_iload 102 C dX6_isWord_102 (lv_at hl 9 rfl) ?_
                refine kx_iconst 104 C dX6_isWord_104 ?_
                refine kx_icmp_ne 105 113 C dX6_isWord_105 (by decide) (fun c22 => ?_) (fun c22 => ?_)
                · have hf := ifn c22 hf
                  refine kx_iload 113 C dX6_isWord_113 (lv_at hl 9 rfl) ?_
                  refine kx_iconst 115 C dX6_isWord_115 ?_
                  refine kx_icmp_ne 116 124 C dX6_isWord_116 (by decide) (fun c23 => ?_) (fun c23 => ?_)
                  · have hf := ifn c23 hf
                    refine kx_iload 124 C dX6_isWord_124 (lv_at hl 6 rfl) ?_
                    exact ih5 _ _ _ _ _ _ _ _ _ _ _ _ _ _ _ hf I (lv_sub hl [0, 1, 2, 3, 4, 5, 6, 7, 9] rfl)
                  · have hf := ifp c23 hf
                    refine kx_iload 119 C dX6_isWord_119 (lv_at hl 5 rfl) ?_
                    refine kx_goto 121 126 C dX6_isWord_121 (by decide) ?_
                    exact ih5 _ _ _ _ _ _ _ _ _ _ _ _ _ _ _ hf I (lv_sub hl [0, 1, 2, 3, 4, 5, 6, 7, 9] rfl)
                · have hf := ifp c22 hf
                  refine kx_iload 108 C dX6_isWord_108 (lv_at hl 4 rfl) ?_
                  refine kx_goto 110 126 C dX6_isWord_110 (by decide) ?_
                  exact ih5 _ _ _ _ _ _ _ _ _ _ _ _ _ _ _ hf I (lv_sub hl [0, 1, 2, 3, 4, 5, 6, 7, 9] rfl)
              · have hf := ifp c21 hf
                refine kx_iload_n 98 C dX6_isWord_98 (lv_at hl 3 rfl) ?_
                refine kx_goto 99 126 C dX6_isWord_99 (by decide) ?_
                exact ih5 _ _ _ _ _ _ _ _ _ _ _ _ _ _ _ hf I (lv_sub hl [0, 1, 2, 3, 4, 5, 6, 7, 9] rfl)
            · have hf := ifp c20 hf
              refine kx_iload_n 88 C dX6_isWord_88 (lv_at hl 2 rfl) ?_
              refine kx_goto 89 126 C dX6_isWord_89 (by decide) ?_
              exact ih5 _ _ _ _ _ _ _ _ _ _ _ _ _ _ _ hf I (lv_sub hl [0, 1, 2, 3, 4, 5, 6, 7, 9] rfl)
          · have hf := ifp c19 hf
            refine kx_iload_n 78 C dX6_isWord_78 (lv_at hl 1 rfl) ?_
            refine kx_goto 79 126 C dX6_isWord_79 (by decide) ?_
            exact ih5 _ _ _ _ _ _ _ _ _ _ _ _ _ _ _ hf I (lv_sub hl [0, 1, 2, 3, 4, 5, 6, 7, 9] rfl)
    · intro S p0 i0 i1 i2 i3 i4 i5 i6 i7 i8 i9 H locs ls hf I hl
      replace hf : b_X6_isWord_5 (g_X6_isWord fu) fu S p0 i0 i1 i2 i3 i4 i5 i6 i7 i8 i9 = some (r, S') := hf
      unfold b_X6_isWord_5 at hf
      refine kx_icmp_ne 126 133 C dX6_isWord_126 (by decide) (fun c24 => ?_) (fun c24 => ?_)
      · have hf := ifn c24 hf
        refine kx_iconst 133 C dX6_isWord_133 ?_
        exact ih6 _ _ _ _ _ _ _ _ _ _ _ _ _ _ _ hf I (lv_sub hl [0, 1, 2, 3, 4, 5, 6, 7, 8] rfl)
      · have hf := ifp c24 hf
        refine kx_iconst 129 C dX6_isWord_129 ?_
        refine kx_goto 130 134 C dX6_isWord_130 (by decide) ?_
        exact ih6 _ _ _ _ _ _ _ _ _ _ _ _ _ _ _ hf I (lv_sub hl [0, 1, 2, 3, 4, 5, 6, 7, 8] rfl)
    · intro S p0 i0 i1 i2 i3 i4 i5 i6 i7 i8 i9 H locs ls hf I hl
      replace hf : b_X6_isWord_6 (g_X6_isWord fu) fu S p0 i0 i1 i2 i3 i4 i5 i6 i7 i8 i9 = some (r, S') := hf
      unfold b_X6_isWord_6 at hf
      refine kx_istore 134 C (lv' := [(8, .int (iI i8)), (0, .ref (xB G + p0)), (1, .int (iI i0)), (2, .int (iI i1)), (3, .int (iI i2)), (4, .int (iI i3)), (5, .int (iI i4)), (6, .int (iI i5)), (7, .int (iI i6)), (9, .int (iI i7))]) dX6_isWord_134 hl (by decide) rfl rfl (fun ls hl => ?_)
      obtain ⟨x25, e26, hf⟩ := nmx_e hf
      refine kx_iinc 136 C (lv' := [(9, .int (iI x25)), (8, .int (iI i8)), (0, .ref (xB G + p0)), (1, .int (iI i0)), (2, .int (iI i1)), (3, .int (iI i2)), (4, .int (iI i3)), (5, .int (iI i4)), (6, .int (iI i5)), (7, .int (iI i6))]) dX6_isWord_136 hl 9 rfl e26 (by decide) rfl (fun ls hl => ?_)
      refine kx_goto 139 49 C dX6_isWord_139 (by decide) ?_
      exact ih4 _ _ _ _ _ _ _ _ _ _ _ _ _ _ _ hf I (lv_sub hl [2, 3, 4, 5, 6, 7, 8, 9, 1, 0] rfl)
set_option maxHeartbeats 4000000 in
set_option maxRecDepth 100000 in
theorem c_X6_isWord (G : xG) (l : Launch) (fu : Nat) (S S' : xS) (p0 : Nat) (i0 : Int) (i1 : Int) (i2 : Int) (i3 : Int) (i4 : Int) (i5 : Int) (r : Int) (hf : f_X6_isWord fu S p0 i0 i1 i2 i3 i4 i5 = some (r, S')) : Met l yX6_isWord vsX6_isWord rm_X6_isWord (va_Pc [.ref (xB G + p0), .int (iI i0), .int (iI i1), .int (iI i2), .int (iI i3), .int (iI i4), .int (iI i5)] (xPre G S)) (xQi G r S') 0 0 (xA G) := by
  refine kx_met (ret := (some .boolean)) RX6 [(0, .ref (xB G + p0)), (1, .int (iI i0)), (2, .int (iI i1)), (3, .int (iI i2)), (4, .int (iI i3)), (5, .int (iI i4)), (6, .int (iI i5))] (by decide) rfl rfl (Nat.le_of_ble_eq_true rfl) rfl (fun p e s m below meth c ls C hin I hl => ?_)
  exact (w_X6_isWord C r S' fu).1 S _ _ _ _ _ _ _ _ _ _ _ _ _ _ hf I hl
def rm_X6_takes : Room := { frames := 4, cells := 0, slots := 0, locals := 89 }
theorem hin_X6_takes_RX6 : ∀ w ∈ wsX60, w ∈ vsX6_takes := fun w h => inM (inlX6 w h)
theorem fl_X6_takes_66 : xFl vsX6_takes RX6 66 5 29 := ⟨RX6, TX6, 30, rfl, by decide, hin_X6_takes_RX6, inM mq_5_11, rfl⟩
theorem fl_X6_takes_288 : xFl vsX6_takes RX6 288 5 26 := ⟨RX6, TX6, 30, rfl, by decide, hin_X6_takes_RX6, inM mq_21_7, rfl⟩
theorem fl_X6_takes_291 : xFl vsX6_takes RX6 291 5 27 := ⟨RX6, TX6, 30, rfl, by decide, hin_X6_takes_RX6, inM mq_21_13, rfl⟩
theorem nyS_X6_takes : yX6_takes.cls ≠ "java/lang/invoke/MethodHandle" ∧ yX6_takes.cls ≠ "java/lang/invoke/VarHandle" ∧ (parseMethodDescriptor yX6_takes.desc).map (fun d => d.parameters.length) = some 3 := by decide +kernel
theorem nyV_X6_takes : yX6_takes.cls = RX6 ∧ yX6_takes.cls ≠ "java/lang/invoke/MethodHandle" ∧ yX6_takes.cls ≠ "java/lang/invoke/VarHandle" ∧ (parseMethodDescriptor yX6_takes.desc).map (fun d => d.parameters.length) = some 3 := by decide +kernel
set_option maxHeartbeats 4000000 in
set_option maxRecDepth 100000 in
theorem c_X6_takes (G : xG) (l : Launch) (fu : Nat) (S S' : xS) (p0 : Nat) (i0 : Int) (i1 : Int) (i2 : Int) (r : Int) (hf : f_X6_takes fu S p0 i0 i1 i2 = some (r, S')) : Met l yX6_takes vsX6_takes rm_X6_takes (va_Pc [.ref (xB G + p0), .int (iI i0), .int (iI i1), .int (iI i2)] (xPre G S)) (xQi G r S') 0 0 (xA G) := by
  refine kx_met (ret := (some .boolean)) RX6 [(0, .ref (xB G + p0)), (1, .int (iI i0)), (2, .int (iI i1)), (3, .int (iI i2))] (by decide) rfl rfl (Nat.le_of_ble_eq_true rfl) rfl (fun p e s m below meth c ls C hin I hl => ?_)
  unfold f_X6_takes at hf
  refine kx_aload_n 0 C dX6_takes_0 (lv_at hl 0 rfl) ?_
  obtain ⟨x2, h1, hf⟩ := ob hf
  refine kx_geti 1 C I fl_X6_takes_288 h1 dX6_takes_1 ?_
  refine kx_iconst 4 C dX6_takes_4 ?_
  refine kx_icmp_ne 5 23 C dX6_takes_5 (by decide) (fun c3 => ?_) (fun c3 => ?_)
  · have hf := ifn c3 hf
    refine kx_iconst 23 C dX6_takes_23 ?_
    exact kx_zret 24 C I (by decide) hf dX6_takes_24
  · have hf := ifp c3 hf
    refine kx_aload_n 8 C dX6_takes_8 (lv_at hl 0 rfl) ?_
    obtain ⟨x5, h4, hf⟩ := ob hf
    refine kx_geti 9 C I fl_X6_takes_291 h4 dX6_takes_9 ?_
    refine kx_i2l 12 C dX6_takes_12 ?_
    refine kx_iload_n 13 C dX6_takes_13 (lv_at hl 2 rfl) ?_
    refine kx_i2l 14 C dX6_takes_14 ?_
    refine kx_iload_n 15 C dX6_takes_15 (lv_at hl 3 rfl) ?_
    refine kx_i2l 16 C dX6_takes_16 ?_
    obtain ⟨x8, S6, h7, hf⟩ := ob2 hf
    refine kx_callSi 17 C hl I (As := [.long (lI (wI x5)), .long (lI (wI i1)), .long (lI (wI i2))]) (rest := []) (c_X6_in G l fu _ _ _ _ _ _ h7) (va_cwS 3 C.ts gX6_takes_X6_in rfl rfl rfl nyS_X6_in ⟨Nat.le_of_ble_eq_true rfl, Nat.le_of_ble_eq_true rfl⟩) rfl rfl (Nat.le_of_ble_eq_true rfl) dX6_takes_17 ⟨Nat.le_of_ble_eq_true rfl, Nat.le_of_ble_eq_true rfl⟩ (fun H locs I => ?_)
    refine kx_if_ne 20 25 C dX6_takes_20 (by decide) (fun c9 => ?_) (fun c9 => ?_)
    · have hf := ifn c9 hf
      refine kx_aload_n 25 C dX6_takes_25 (lv_at hl 0 rfl) ?_
      obtain ⟨q11, h10, hf⟩ := ob hf
      refine kx_getp 26 C I fl_X6_takes_66 h10 dX6_takes_26 ?_
      refine kx_iload_n 29 C dX6_takes_29 (lv_at hl 1 rfl) ?_
      refine kx_aload_n 30 C dX6_takes_30 (lv_at hl 0 rfl) ?_
      obtain ⟨x13, h12, hf⟩ := ob hf
      refine kx_geti 31 C I fl_X6_takes_291 h12 dX6_takes_31 ?_
      obtain ⟨S15, h14, hf⟩ := ob hf
      refine kx_iast 34 C I h14 dX6_takes_34 (fun H locs I => ?_)
      refine kx_aload_n 35 C dX6_takes_35 (lv_at hl 0 rfl) ?_
      obtain ⟨h19, hf⟩ := ift hf
      obtain ⟨z18, S16, h17, hf⟩ := ob2 hf
      refine kx_callVv 36 C hl I (ci := 5) (As := []) (rest := []) (c_X6_goOn G l fu _ _ _ _ h17) (cwV 0 C.ts gX6_takes_X6_goOn rfl rfl rfl nyV_X6_goOn ⟨Nat.le_of_ble_eq_true rfl, Nat.le_of_ble_eq_true rfl⟩) rfl h19 rfl rfl (Nat.le_of_ble_eq_true rfl) dX6_takes_36 ⟨Nat.le_of_ble_eq_true rfl, Nat.le_of_ble_eq_true rfl⟩ (fun H locs I => ?_)
      refine kx_iconst 39 C dX6_takes_39 ?_
      exact kx_zret 40 C I (by decide) hf dX6_takes_40
    · have hf := ifp c9 hf
      refine kx_iconst 23 C dX6_takes_23 ?_
      exact kx_zret 24 C I (by decide) hf dX6_takes_24
def rm_X6_last : Room := { frames := 0, cells := 0, slots := 0, locals := 0 }
theorem hin_X6_last_RX6 : ∀ w ∈ wsX60, w ∈ vsX6_last := fun w h => inM (inlX6 w h)
theorem fl_X6_last_63 : xFl vsX6_last RX6 63 5 28 := ⟨RX6, TX6, 30, rfl, by decide, hin_X6_last_RX6, inM mq_5_10, rfl⟩
theorem nyS_X6_last : yX6_last.cls ≠ "java/lang/invoke/MethodHandle" ∧ yX6_last.cls ≠ "java/lang/invoke/VarHandle" ∧ (parseMethodDescriptor yX6_last.desc).map (fun d => d.parameters.length) = some 0 := by decide +kernel
theorem nyV_X6_last : yX6_last.cls = RX6 ∧ yX6_last.cls ≠ "java/lang/invoke/MethodHandle" ∧ yX6_last.cls ≠ "java/lang/invoke/VarHandle" ∧ (parseMethodDescriptor yX6_last.desc).map (fun d => d.parameters.length) = some 0 := by decide +kernel
set_option maxHeartbeats 4000000 in
set_option maxRecDepth 100000 in
theorem c_X6_last (G : xG) (l : Launch) (fu : Nat) (S S' : xS) (p0 : Nat) (r : Int) (hf : f_X6_last fu S p0 = some (r, S')) : Met l yX6_last vsX6_last rm_X6_last (va_Pc [.ref (xB G + p0)] (xPre G S)) (xQi G r S') 0 0 (xA G) := by
  refine kx_met (ret := (some .int)) RX6 [(0, .ref (xB G + p0))] (by decide) rfl rfl (Nat.le_of_ble_eq_true rfl) rfl (fun p e s m below meth c ls C hin I hl => ?_)
  unfold f_X6_last at hf
  refine kx_aload_n 0 C dX6_last_0 (lv_at hl 0 rfl) ?_
  obtain ⟨q2, h1, hf⟩ := ob hf
  refine kx_getp 1 C I fl_X6_last_63 h1 dX6_last_1 ?_
  refine kx_iconst 4 C dX6_last_4 ?_
  obtain ⟨x3, h4, hf⟩ := ob hf
  refine kx_iald 5 C I h4 dX6_last_5 ?_
  refine kx_iconst 6 C dX6_last_6 ?_
  refine kx_isub 7 C dX6_last_7 ?_
  exact kx_iret 8 C I hf dX6_last_8
def rm_X6_readsFirst : Room := { frames := 5, cells := 0, slots := 0, locals := 112 }
theorem hin_X6_readsFirst_RX6 : ∀ w ∈ wsX60, w ∈ vsX6_readsFirst := fun w h => inM (inlX6 w h)
theorem fl_X6_readsFirst_63 : xFl vsX6_readsFirst RX6 63 5 28 := ⟨RX6, TX6, 30, rfl, by decide, hin_X6_readsFirst_RX6, inM mq_5_10, rfl⟩
theorem fl_X6_readsFirst_66 : xFl vsX6_readsFirst RX6 66 5 29 := ⟨RX6, TX6, 30, rfl, by decide, hin_X6_readsFirst_RX6, inM mq_5_11, rfl⟩
theorem fl_X6_readsFirst_288 : xFl vsX6_readsFirst RX6 288 5 26 := ⟨RX6, TX6, 30, rfl, by decide, hin_X6_readsFirst_RX6, inM mq_21_7, rfl⟩
theorem nyS_X6_readsFirst : yX6_readsFirst.cls ≠ "java/lang/invoke/MethodHandle" ∧ yX6_readsFirst.cls ≠ "java/lang/invoke/VarHandle" ∧ (parseMethodDescriptor yX6_readsFirst.desc).map (fun d => d.parameters.length) = some 0 := by decide +kernel
theorem nyV_X6_readsFirst : yX6_readsFirst.cls = RX6 ∧ yX6_readsFirst.cls ≠ "java/lang/invoke/MethodHandle" ∧ yX6_readsFirst.cls ≠ "java/lang/invoke/VarHandle" ∧ (parseMethodDescriptor yX6_readsFirst.desc).map (fun d => d.parameters.length) = some 0 := by decide +kernel
set_option maxHeartbeats 4000000 in
set_option maxRecDepth 100000 in
theorem w_X6_readsFirst {G : xG} {p : Program} {l : Launch} {e : Env} {s : State} {m : MethodId} {args : Array Value} {below : List Frame} {meth : Method} {c : Code} (C : xK G p s m args meth c cX6_readsFirst 2 vsX6_readsFirst RX6 (some .boolean)) (r : Int) (S' : xS) : ∀ k : Nat,
  (∀ (S : xS) (p0 p1 : Nat) (i0 i1 : Int) (H : Heap) (locs : List Loc) (ls : Array Slot), g_X6_readsFirst k 0 S p0 p1 i0 i1 = some (r, S') → xI G S s H locs → lv_has ls 2 [(0, .ref (xB G + p0))] → W p l e rm_X6_readsFirst s m args below meth c H locs 0 0 (MQ below (xQi G r S') args s 0 0 (xA G)) (F0 m 0 ls [])) ∧
  (∀ (S : xS) (p0 p1 : Nat) (i0 i1 : Int) (H : Heap) (locs : List Loc) (ls : Array Slot), g_X6_readsFirst k 1 S p0 p1 i0 i1 = some (r, S') → xI G S s H locs → lv_has ls 2 [(0, .ref (xB G + p0)), (1, .int (iI i0))] → W p l e rm_X6_readsFirst s m args below meth c H locs 0 0 (MQ below (xQi G r S') args s 0 0 (xA G)) (F0 m 51 ls [.int (iI i1), .ref (xB G + p1)])) ∧
  (∀ (S : xS) (p0 p1 : Nat) (i0 i1 : Int) (H : Heap) (locs : List Loc) (ls : Array Slot), g_X6_readsFirst k 2 S p0 p1 i0 i1 = some (r, S') → xI G S s H locs → lv_has ls 2 [] → W p l e rm_X6_readsFirst s m args below meth c H locs 0 0 (MQ below (xQi G r S') args s 0 0 (xA G)) (F0 m 70 ls [])) := by
  intro k
  induction k with
  | zero => exact ⟨fun _ _ _ _ _ _ _ _ hf => (by cases hf), fun _ _ _ _ _ _ _ _ hf => (by cases hf), fun _ _ _ _ _ _ _ _ hf => (by cases hf)⟩
  | succ fu ih =>
    obtain ⟨ih0, ih1, ih2⟩ := ih
    refine ⟨?_, ?_, ?_⟩
    · intro S p0 p1 i0 i1 H locs ls hf I hl
      replace hf : b_X6_readsFirst_0 (g_X6_readsFirst fu) fu S p0 p1 i0 i1 = some (r, S') := hf
      unfold b_X6_readsFirst_0 at hf
      refine kx_aload_n 0 C dX6_readsFirst_0 (lv_at hl 0 rfl) ?_
      refine kx_bipush 1 C dX6_readsFirst_1 (by decide) ?_
      refine kx_bipush 3 C dX6_readsFirst_3 (by decide) ?_
      refine kx_bipush 5 C dX6_readsFirst_5 (by decide) ?_
      refine kx_bipush 7 C dX6_readsFirst_7 (by decide) ?_
      refine kx_bipush 9 C dX6_readsFirst_9 (by decide) ?_
      refine kx_iconst 11 C dX6_readsFirst_11 ?_
      obtain ⟨h4, hf⟩ := ift hf
      obtain ⟨x3, S1, h2, hf⟩ := ob2 hf
      refine kx_callVi 12 C hl I (ci := 5) (As := [.int (iI 98), .int (iI 111), .int (iI 120), .int (iI 101), .int (iI 115), .int (iI 0)]) (rest := []) (c_X6_isWord G l fu _ _ _ _ _ _ _ _ _ _ h2) (cwV 6 C.ts gX6_readsFirst_X6_isWord rfl rfl rfl nyV_X6_isWord ⟨Nat.le_of_ble_eq_true rfl, Nat.le_of_ble_eq_true rfl⟩) rfl h4 rfl rfl (Nat.le_of_ble_eq_true rfl) dX6_readsFirst_12 ⟨Nat.le_of_ble_eq_true rfl, Nat.le_of_ble_eq_true rfl⟩ (fun H locs I => ?_)
      refine kx_if_ne 15 20 C dX6_readsFirst_15 (by decide) (fun c5 => ?_) (fun c5 => ?_)
      · have hf := ifn c5 hf
        refine kx_aload_n 20 C dX6_readsFirst_20 (lv_at hl 0 rfl) ?_
        obtain ⟨h9, hf⟩ := ift hf
        obtain ⟨z8, S6, h7, hf⟩ := ob2 hf
        refine kx_callVv 21 C hl I (ci := 5) (As := []) (rest := []) (c_X6_goOn G l fu _ _ _ _ h7) (cwV 0 C.ts gX6_readsFirst_X6_goOn rfl rfl rfl nyV_X6_goOn ⟨Nat.le_of_ble_eq_true rfl, Nat.le_of_ble_eq_true rfl⟩) rfl h9 rfl rfl (Nat.le_of_ble_eq_true rfl) dX6_readsFirst_21 ⟨Nat.le_of_ble_eq_true rfl, Nat.le_of_ble_eq_true rfl⟩ (fun H locs I => ?_)
        refine kx_aload_n 24 C dX6_readsFirst_24 (lv_at hl 0 rfl) ?_
        refine kx_iconst 25 C dX6_readsFirst_25 ?_
        refine kx_iconst 26 C dX6_readsFirst_26 ?_
        refine kx_bipush 27 C dX6_readsFirst_27 (by decide) ?_
        obtain ⟨h13, hf⟩ := ift hf
        obtain ⟨x12, S10, h11, hf⟩ := ob2 hf
        refine kx_callVi 29 C hl I (ci := 5) (As := [.int (iI 0), .int (iI 2), .int (iI 7)]) (rest := []) (c_X6_takes G l fu _ _ _ _ _ _ _ h11) (cwV 3 C.ts gX6_readsFirst_X6_takes rfl rfl rfl nyV_X6_takes ⟨Nat.le_of_ble_eq_true rfl, Nat.le_of_ble_eq_true rfl⟩) rfl h13 rfl rfl (Nat.le_of_ble_eq_true rfl) dX6_readsFirst_29 ⟨Nat.le_of_ble_eq_true rfl, Nat.le_of_ble_eq_true rfl⟩ (fun H locs I => ?_)
        refine kx_istore_n 32 C (lv' := [(1, .int (iI x12)), (0, .ref (xB G + p0))]) dX6_readsFirst_32 hl (by decide) rfl rfl (fun ls hl => ?_)
        refine kx_aload_n 33 C dX6_readsFirst_33 (lv_at hl 1 rfl) ?_
        obtain ⟨q15, h14, hf⟩ := ob hf
        refine kx_getp 34 C I fl_X6_readsFirst_63 h14 dX6_readsFirst_34 ?_
        refine kx_iload_n 37 C dX6_readsFirst_37 (lv_at hl 0 rfl) ?_
        refine kx_if_eq 38 50 C dX6_readsFirst_38 (by decide) (fun c16 => ?_) (fun c16 => ?_)
        · have hf := ifp c16 hf
          refine kx_iconst 50 C dX6_readsFirst_50 ?_
          exact ih1 _ _ _ _ _ _ _ _ hf I (lv_sub hl [1, 0] rfl)
        · have hf := ifn c16 hf
          refine kx_aload_n 41 C dX6_readsFirst_41 (lv_at hl 1 rfl) ?_
          obtain ⟨q18, h17, hf⟩ := ob hf
          refine kx_getp 42 C I fl_X6_readsFirst_66 h17 dX6_readsFirst_42 ?_
          refine kx_iconst 45 C dX6_readsFirst_45 ?_
          obtain ⟨x19, h20, hf⟩ := ob hf
          refine kx_iald 46 C I h20 dX6_readsFirst_46 ?_
          refine kx_goto 47 51 C dX6_readsFirst_47 (by decide) ?_
          exact ih1 _ _ _ _ _ _ _ _ hf I (lv_sub hl [1, 0] rfl)
      · have hf := ifp c5 hf
        refine kx_iconst 18 C dX6_readsFirst_18 ?_
        exact kx_zret 19 C I (by decide) hf dX6_readsFirst_19
    · intro S p0 p1 i0 i1 H locs ls hf I hl
      replace hf : b_X6_readsFirst_1 (g_X6_readsFirst fu) fu S p0 p1 i0 i1 = some (r, S') := hf
      unfold b_X6_readsFirst_1 at hf
      obtain ⟨z23, S21, h22, hf⟩ := ob2 hf
      refine kx_callSv 51 C hl I (As := [.ref (xB G + p1), .int (iI i1)]) (rest := []) (c_X6_begin G l fu _ _ _ _ _ h22) (va_cwS 2 C.ts gX6_readsFirst_X6_begin rfl rfl rfl nyS_X6_begin ⟨Nat.le_of_ble_eq_true rfl, Nat.le_of_ble_eq_true rfl⟩) rfl rfl (Nat.le_of_ble_eq_true rfl) dX6_readsFirst_51 ⟨Nat.le_of_ble_eq_true rfl, Nat.le_of_ble_eq_true rfl⟩ (fun H locs I => ?_)
      refine kx_iload_n 54 C dX6_readsFirst_54 (lv_at hl 1 rfl) ?_
      refine kx_if_eq 55 70 C dX6_readsFirst_55 (by decide) (fun c24 => ?_) (fun c24 => ?_)
      · have hf := ifp c24 hf
        exact ih2 _ _ _ _ _ _ _ _ hf I (lv_sub hl [] rfl)
      · have hf := ifn c24 hf
        refine kx_aload_n 58 C dX6_readsFirst_58 (lv_at hl 0 rfl) ?_
        obtain ⟨x26, h25, hf⟩ := ob hf
        refine kx_geti 59 C I fl_X6_readsFirst_288 h25 dX6_readsFirst_59 ?_
        refine kx_iconst 62 C dX6_readsFirst_62 ?_
        refine kx_icmp_ne 63 70 C dX6_readsFirst_63 (by decide) (fun c27 => ?_) (fun c27 => ?_)
        · have hf := ifn c27 hf
          exact ih2 _ _ _ _ _ _ _ _ hf I (lv_sub hl [] rfl)
        · have hf := ifp c27 hf
          refine kx_iconst 66 C dX6_readsFirst_66 ?_
          refine kx_goto 67 71 C dX6_readsFirst_67 (by decide) ?_
          exact kx_zret 71 C I (by decide) hf dX6_readsFirst_71
    · intro S p0 p1 i0 i1 H locs ls hf I hl
      replace hf : b_X6_readsFirst_2 (g_X6_readsFirst fu) fu S p0 p1 i0 i1 = some (r, S') := hf
      unfold b_X6_readsFirst_2 at hf
      refine kx_iconst 70 C dX6_readsFirst_70 ?_
      exact kx_zret 71 C I (by decide) hf dX6_readsFirst_71
set_option maxHeartbeats 4000000 in
set_option maxRecDepth 100000 in
theorem c_X6_readsFirst (G : xG) (l : Launch) (fu : Nat) (S S' : xS) (p0 : Nat) (r : Int) (hf : f_X6_readsFirst fu S p0 = some (r, S')) : Met l yX6_readsFirst vsX6_readsFirst rm_X6_readsFirst (va_Pc [.ref (xB G + p0)] (xPre G S)) (xQi G r S') 0 0 (xA G) := by
  refine kx_met (ret := (some .boolean)) RX6 [(0, .ref (xB G + p0))] (by decide) rfl rfl (Nat.le_of_ble_eq_true rfl) rfl (fun p e s m below meth c ls C hin I hl => ?_)
  exact (w_X6_readsFirst C r S' fu).1 S _ _ _ _ _ _ _ hf I hl
def rm_X6_readsSwap : Room := { frames := 5, cells := 0, slots := 0, locals := 112 }
theorem hin_X6_readsSwap_RX6 : ∀ w ∈ wsX60, w ∈ vsX6_readsSwap := fun w h => inM (inlX6 w h)
theorem fl_X6_readsSwap_63 : xFl vsX6_readsSwap RX6 63 5 28 := ⟨RX6, TX6, 30, rfl, by decide, hin_X6_readsSwap_RX6, inM mq_5_10, rfl⟩
theorem fl_X6_readsSwap_66 : xFl vsX6_readsSwap RX6 66 5 29 := ⟨RX6, TX6, 30, rfl, by decide, hin_X6_readsSwap_RX6, inM mq_5_11, rfl⟩
theorem fl_X6_readsSwap_288 : xFl vsX6_readsSwap RX6 288 5 26 := ⟨RX6, TX6, 30, rfl, by decide, hin_X6_readsSwap_RX6, inM mq_21_7, rfl⟩
theorem fl_X6_readsSwap_291 : xFl vsX6_readsSwap RX6 291 5 27 := ⟨RX6, TX6, 30, rfl, by decide, hin_X6_readsSwap_RX6, inM mq_21_13, rfl⟩
theorem nyS_X6_readsSwap : yX6_readsSwap.cls ≠ "java/lang/invoke/MethodHandle" ∧ yX6_readsSwap.cls ≠ "java/lang/invoke/VarHandle" ∧ (parseMethodDescriptor yX6_readsSwap.desc).map (fun d => d.parameters.length) = some 0 := by decide +kernel
theorem nyV_X6_readsSwap : yX6_readsSwap.cls = RX6 ∧ yX6_readsSwap.cls ≠ "java/lang/invoke/MethodHandle" ∧ yX6_readsSwap.cls ≠ "java/lang/invoke/VarHandle" ∧ (parseMethodDescriptor yX6_readsSwap.desc).map (fun d => d.parameters.length) = some 0 := by decide +kernel
set_option maxHeartbeats 4000000 in
set_option maxRecDepth 100000 in
theorem w_X6_readsSwap {G : xG} {p : Program} {l : Launch} {e : Env} {s : State} {m : MethodId} {args : Array Value} {below : List Frame} {meth : Method} {c : Code} (C : xK G p s m args meth c cX6_readsSwap 2 vsX6_readsSwap RX6 (some .boolean)) (r : Int) (S' : xS) : ∀ k : Nat,
  (∀ (S : xS) (p0 : Nat) (H : Heap) (locs : List Loc) (ls : Array Slot), g_X6_readsSwap k 0 S p0 = some (r, S') → xI G S s H locs → lv_has ls 2 [(0, .ref (xB G + p0))] → W p l e rm_X6_readsSwap s m args below meth c H locs 0 0 (MQ below (xQi G r S') args s 0 0 (xA G)) (F0 m 0 ls [])) ∧
  (∀ (S : xS) (p0 : Nat) (H : Heap) (locs : List Loc) (ls : Array Slot), g_X6_readsSwap k 1 S p0 = some (r, S') → xI G S s H locs → lv_has ls 2 [(0, .ref (xB G + p0))] → W p l e rm_X6_readsSwap s m args below meth c H locs 0 0 (MQ below (xQi G r S') args s 0 0 (xA G)) (F0 m 38 ls [])) := by
  intro k
  induction k with
  | zero => exact ⟨fun _ _ _ _ _ hf => (by cases hf), fun _ _ _ _ _ hf => (by cases hf)⟩
  | succ fu ih =>
    obtain ⟨ih0, ih1⟩ := ih
    refine ⟨?_, ?_⟩
    · intro S p0 H locs ls hf I hl
      replace hf : b_X6_readsSwap_0 (g_X6_readsSwap fu) fu S p0 = some (r, S') := hf
      unfold b_X6_readsSwap_0 at hf
      refine kx_aload_n 0 C dX6_readsSwap_0 (lv_at hl 0 rfl) ?_
      obtain ⟨h4, hf⟩ := ift hf
      obtain ⟨z3, S1, h2, hf⟩ := ob2 hf
      refine kx_callVv 1 C hl I (ci := 5) (As := []) (rest := []) (c_X6_goOn G l fu _ _ _ _ h2) (cwV 0 C.ts gX6_readsSwap_X6_goOn rfl rfl rfl nyV_X6_goOn ⟨Nat.le_of_ble_eq_true rfl, Nat.le_of_ble_eq_true rfl⟩) rfl h4 rfl rfl (Nat.le_of_ble_eq_true rfl) dX6_readsSwap_1 ⟨Nat.le_of_ble_eq_true rfl, Nat.le_of_ble_eq_true rfl⟩ (fun H locs I => ?_)
      refine kx_aload_n 4 C dX6_readsSwap_4 (lv_at hl 0 rfl) ?_
      refine kx_iconst 5 C dX6_readsSwap_5 ?_
      refine kx_iconst 6 C dX6_readsSwap_6 ?_
      refine kx_aload_n 7 C dX6_readsSwap_7 (lv_at hl 0 rfl) ?_
      obtain ⟨h8, hf⟩ := ift hf
      obtain ⟨x7, S5, h6, hf⟩ := ob2 hf
      refine kx_callVi 8 C hl I (ci := 5) (As := []) (rest := [.int (iI 0), .int (iI 0), .ref (xB G + p0)]) (c_X6_last G l fu _ _ _ _ h6) (cwV 0 C.ts gX6_readsSwap_X6_last rfl rfl rfl nyV_X6_last ⟨Nat.le_of_ble_eq_true rfl, Nat.le_of_ble_eq_true rfl⟩) rfl h8 rfl rfl (Nat.le_of_ble_eq_true rfl) dX6_readsSwap_8 ⟨Nat.le_of_ble_eq_true rfl, Nat.le_of_ble_eq_true rfl⟩ (fun H locs I => ?_)
      obtain ⟨h12, hf⟩ := ift hf
      obtain ⟨x11, S9, h10, hf⟩ := ob2 hf
      refine kx_callVi 11 C hl I (ci := 5) (As := [.int (iI 0), .int (iI 0), .int (iI x7)]) (rest := []) (c_X6_takes G l fu _ _ _ _ _ _ _ h10) (cwV 3 C.ts gX6_readsSwap_X6_takes rfl rfl rfl nyV_X6_takes ⟨Nat.le_of_ble_eq_true rfl, Nat.le_of_ble_eq_true rfl⟩) rfl h12 rfl rfl (Nat.le_of_ble_eq_true rfl) dX6_readsSwap_11 ⟨Nat.le_of_ble_eq_true rfl, Nat.le_of_ble_eq_true rfl⟩ (fun H locs I => ?_)
      refine kx_if_eq 14 51 C dX6_readsSwap_14 (by decide) (fun c13 => ?_) (fun c13 => ?_)
      · have hf := ifp c13 hf
        refine kx_iconst 51 C dX6_readsSwap_51 ?_
        exact kx_zret 52 C I (by decide) hf dX6_readsSwap_52
      · have hf := ifn c13 hf
        refine kx_aload_n 17 C dX6_readsSwap_17 (lv_at hl 0 rfl) ?_
        obtain ⟨x15, h14, hf⟩ := ob hf
        refine kx_geti 18 C I fl_X6_readsSwap_288 h14 dX6_readsSwap_18 ?_
        refine kx_iconst 21 C dX6_readsSwap_21 ?_
        refine kx_icmp_ne 22 38 C dX6_readsSwap_22 (by decide) (fun c16 => ?_) (fun c16 => ?_)
        · have hf := ifn c16 hf
          exact ih1 _ _ _ _ _ hf I (lv_sub hl [0] rfl)
        · have hf := ifp c16 hf
          refine kx_aload_n 25 C dX6_readsSwap_25 (lv_at hl 0 rfl) ?_
          obtain ⟨x18, h17, hf⟩ := ob hf
          refine kx_geti 26 C I fl_X6_readsSwap_291 h17 dX6_readsSwap_26 ?_
          refine kx_aload_n 29 C dX6_readsSwap_29 (lv_at hl 0 rfl) ?_
          obtain ⟨q20, h19, hf⟩ := ob hf
          refine kx_getp 30 C I fl_X6_readsSwap_66 h19 dX6_readsSwap_30 ?_
          refine kx_iconst 33 C dX6_readsSwap_33 ?_
          obtain ⟨x21, h22, hf⟩ := ob hf
          refine kx_iald 34 C I h22 dX6_readsSwap_34 ?_
          refine kx_icmp_eq 35 51 C dX6_readsSwap_35 (by decide) (fun c23 => ?_) (fun c23 => ?_)
          · have hf := ifp c23 hf
            refine kx_iconst 51 C dX6_readsSwap_51 ?_
            exact kx_zret 52 C I (by decide) hf dX6_readsSwap_52
          · have hf := ifn c23 hf
            exact ih1 _ _ _ _ _ hf I (lv_sub hl [0] rfl)
    · intro S p0 H locs ls hf I hl
      replace hf : b_X6_readsSwap_1 (g_X6_readsSwap fu) fu S p0 = some (r, S') := hf
      unfold b_X6_readsSwap_1 at hf
      refine kx_aload_n 38 C dX6_readsSwap_38 (lv_at hl 0 rfl) ?_
      refine kx_iconst 39 C dX6_readsSwap_39 ?_
      refine kx_iconst 40 C dX6_readsSwap_40 ?_
      refine kx_aload_n 41 C dX6_readsSwap_41 (lv_at hl 0 rfl) ?_
      obtain ⟨h27, hf⟩ := ift hf
      obtain ⟨x26, S24, h25, hf⟩ := ob2 hf
      refine kx_callVi 42 C hl I (ci := 5) (As := []) (rest := [.int (iI 0), .int (iI 1), .ref (xB G + p0)]) (c_X6_last G l fu _ _ _ _ h25) (cwV 0 C.ts gX6_readsSwap_X6_last rfl rfl rfl nyV_X6_last ⟨Nat.le_of_ble_eq_true rfl, Nat.le_of_ble_eq_true rfl⟩) rfl h27 rfl rfl (Nat.le_of_ble_eq_true rfl) dX6_readsSwap_42 ⟨Nat.le_of_ble_eq_true rfl, Nat.le_of_ble_eq_true rfl⟩ (fun H locs I => ?_)
      obtain ⟨h31, hf⟩ := ift hf
      obtain ⟨x30, S28, h29, hf⟩ := ob2 hf
      refine kx_callVi 45 C hl I (ci := 5) (As := [.int (iI 1), .int (iI 0), .int (iI x26)]) (rest := []) (c_X6_takes G l fu _ _ _ _ _ _ _ h29) (cwV 3 C.ts gX6_readsSwap_X6_takes rfl rfl rfl nyV_X6_takes ⟨Nat.le_of_ble_eq_true rfl, Nat.le_of_ble_eq_true rfl⟩) rfl h31 rfl rfl (Nat.le_of_ble_eq_true rfl) dX6_readsSwap_45 ⟨Nat.le_of_ble_eq_true rfl, Nat.le_of_ble_eq_true rfl⟩ (fun H locs I => ?_)
      refine kx_if_ne 48 53 C dX6_readsSwap_48 (by decide) (fun c32 => ?_) (fun c32 => ?_)
      · have hf := ifn c32 hf
        refine kx_aload_n 53 C dX6_readsSwap_53 (lv_at hl 0 rfl) ?_
        obtain ⟨q34, h33, hf⟩ := ob hf
        refine kx_getp 54 C I fl_X6_readsSwap_63 h33 dX6_readsSwap_54 ?_
        refine kx_iconst 57 C dX6_readsSwap_57 ?_
        refine kx_aload_n 58 C dX6_readsSwap_58 (lv_at hl 0 rfl) ?_
        obtain ⟨q36, h35, hf⟩ := ob hf
        refine kx_getp 59 C I fl_X6_readsSwap_66 h35 dX6_readsSwap_59 ?_
        refine kx_iconst 62 C dX6_readsSwap_62 ?_
        obtain ⟨x37, h38, hf⟩ := ob hf
        refine kx_iald 63 C I h38 dX6_readsSwap_63 ?_
        refine kx_iadd 64 C dX6_readsSwap_64 ?_
        obtain ⟨x39, h40, hf⟩ := ob hf
        refine kx_iald 65 C I h40 dX6_readsSwap_65 ?_
        refine kx_istore_n 66 C (lv' := [(1, .int (iI x39)), (0, .ref (xB G + p0))]) dX6_readsSwap_66 hl (by decide) rfl rfl (fun ls hl => ?_)
        refine kx_aload_n 67 C dX6_readsSwap_67 (lv_at hl 1 rfl) ?_
        obtain ⟨q42, h41, hf⟩ := ob hf
        refine kx_getp 68 C I fl_X6_readsSwap_63 h41 dX6_readsSwap_68 ?_
        refine kx_iconst 71 C dX6_readsSwap_71 ?_
        refine kx_aload_n 72 C dX6_readsSwap_72 (lv_at hl 1 rfl) ?_
        obtain ⟨q44, h43, hf⟩ := ob hf
        refine kx_getp 73 C I fl_X6_readsSwap_66 h43 dX6_readsSwap_73 ?_
        refine kx_iconst 76 C dX6_readsSwap_76 ?_
        obtain ⟨x45, h46, hf⟩ := ob hf
        refine kx_iald 77 C I h46 dX6_readsSwap_77 ?_
        refine kx_iadd 78 C dX6_readsSwap_78 ?_
        refine kx_aload_n 79 C dX6_readsSwap_79 (lv_at hl 1 rfl) ?_
        obtain ⟨q48, h47, hf⟩ := ob hf
        refine kx_getp 80 C I fl_X6_readsSwap_63 h47 dX6_readsSwap_80 ?_
        refine kx_iconst 83 C dX6_readsSwap_83 ?_
        refine kx_aload_n 84 C dX6_readsSwap_84 (lv_at hl 1 rfl) ?_
        obtain ⟨q50, h49, hf⟩ := ob hf
        refine kx_getp 85 C I fl_X6_readsSwap_66 h49 dX6_readsSwap_85 ?_
        refine kx_iconst 88 C dX6_readsSwap_88 ?_
        obtain ⟨x51, h52, hf⟩ := ob hf
        refine kx_iald 89 C I h52 dX6_readsSwap_89 ?_
        refine kx_iadd 90 C dX6_readsSwap_90 ?_
        obtain ⟨x53, h54, hf⟩ := ob hf
        refine kx_iald 91 C I h54 dX6_readsSwap_91 ?_
        obtain ⟨S56, h55, hf⟩ := ob hf
        refine kx_iast 92 C I h55 dX6_readsSwap_92 (fun H locs I => ?_)
        refine kx_aload_n 93 C dX6_readsSwap_93 (lv_at hl 1 rfl) ?_
        obtain ⟨q58, h57, hf⟩ := ob hf
        refine kx_getp 94 C I fl_X6_readsSwap_63 h57 dX6_readsSwap_94 ?_
        refine kx_iconst 97 C dX6_readsSwap_97 ?_
        refine kx_aload_n 98 C dX6_readsSwap_98 (lv_at hl 1 rfl) ?_
        obtain ⟨q60, h59, hf⟩ := ob hf
        refine kx_getp 99 C I fl_X6_readsSwap_66 h59 dX6_readsSwap_99 ?_
        refine kx_iconst 102 C dX6_readsSwap_102 ?_
        obtain ⟨x61, h62, hf⟩ := ob hf
        refine kx_iald 103 C I h62 dX6_readsSwap_103 ?_
        refine kx_iadd 104 C dX6_readsSwap_104 ?_
        refine kx_iload_n 105 C dX6_readsSwap_105 (lv_at hl 0 rfl) ?_
        obtain ⟨S64, h63, hf⟩ := ob hf
        refine kx_iast 106 C I h63 dX6_readsSwap_106 (fun H locs I => ?_)
        refine kx_iconst 107 C dX6_readsSwap_107 ?_
        exact kx_zret 108 C I (by decide) hf dX6_readsSwap_108
      · have hf := ifp c32 hf
        refine kx_iconst 51 C dX6_readsSwap_51 ?_
        exact kx_zret 52 C I (by decide) hf dX6_readsSwap_52
set_option maxHeartbeats 4000000 in
set_option maxRecDepth 100000 in
theorem c_X6_readsSwap (G : xG) (l : Launch) (fu : Nat) (S S' : xS) (p0 : Nat) (r : Int) (hf : f_X6_readsSwap fu S p0 = some (r, S')) : Met l yX6_readsSwap vsX6_readsSwap rm_X6_readsSwap (va_Pc [.ref (xB G + p0)] (xPre G S)) (xQi G r S') 0 0 (xA G) := by
  refine kx_met (ret := (some .boolean)) RX6 [(0, .ref (xB G + p0))] (by decide) rfl rfl (Nat.le_of_ble_eq_true rfl) rfl (fun p e s m below meth c ls C hin I hl => ?_)
  exact (w_X6_readsSwap C r S' fu).1 S _ _ _ _ hf I hl
def rm_X6_readsReport : Room := { frames := 5, cells := 0, slots := 0, locals := 112 }
theorem hin_X6_readsReport_RX6 : ∀ w ∈ wsX60, w ∈ vsX6_readsReport := fun w h => inM (inlX6 w h)
theorem fl_X6_readsReport_63 : xFl vsX6_readsReport RX6 63 5 28 := ⟨RX6, TX6, 30, rfl, by decide, hin_X6_readsReport_RX6, inM mq_5_10, rfl⟩
theorem fl_X6_readsReport_66 : xFl vsX6_readsReport RX6 66 5 29 := ⟨RX6, TX6, 30, rfl, by decide, hin_X6_readsReport_RX6, inM mq_5_11, rfl⟩
theorem nyS_X6_readsReport : yX6_readsReport.cls ≠ "java/lang/invoke/MethodHandle" ∧ yX6_readsReport.cls ≠ "java/lang/invoke/VarHandle" ∧ (parseMethodDescriptor yX6_readsReport.desc).map (fun d => d.parameters.length) = some 1 := by decide +kernel
theorem nyV_X6_readsReport : yX6_readsReport.cls = RX6 ∧ yX6_readsReport.cls ≠ "java/lang/invoke/MethodHandle" ∧ yX6_readsReport.cls ≠ "java/lang/invoke/VarHandle" ∧ (parseMethodDescriptor yX6_readsReport.desc).map (fun d => d.parameters.length) = some 1 := by decide +kernel
set_option maxHeartbeats 4000000 in
set_option maxRecDepth 100000 in
theorem w_X6_readsReport {G : xG} {p : Program} {l : Launch} {e : Env} {s : State} {m : MethodId} {args : Array Value} {below : List Frame} {meth : Method} {c : Code} (C : xK G p s m args meth c cX6_readsReport 2 vsX6_readsReport RX6 (some .boolean)) (r : Int) (S' : xS) : ∀ k : Nat,
  (∀ (S : xS) (p0 : Nat) (i0 : Int) (H : Heap) (locs : List Loc) (ls : Array Slot), g_X6_readsReport k 0 S p0 i0 = some (r, S') → xI G S s H locs → lv_has ls 2 [(0, .ref (xB G + p0)), (1, .int (iI i0))] → W p l e rm_X6_readsReport s m args below meth c H locs 0 0 (MQ below (xQi G r S') args s 0 0 (xA G)) (F0 m 0 ls [])) ∧
  (∀ (S : xS) (p0 : Nat) (i0 : Int) (H : Heap) (locs : List Loc) (ls : Array Slot), g_X6_readsReport k 1 S p0 i0 = some (r, S') → xI G S s H locs → lv_has ls 2 [(0, .ref (xB G + p0))] → W p l e rm_X6_readsReport s m args below meth c H locs 0 0 (MQ below (xQi G r S') args s 0 0 (xA G)) (F0 m 59 ls [])) := by
  intro k
  induction k with
  | zero => exact ⟨fun _ _ _ _ _ _ hf => (by cases hf), fun _ _ _ _ _ _ hf => (by cases hf)⟩
  | succ fu ih =>
    obtain ⟨ih0, ih1⟩ := ih
    refine ⟨?_, ?_⟩
    · intro S p0 i0 H locs ls hf I hl
      replace hf : b_X6_readsReport_0 (g_X6_readsReport fu) fu S p0 i0 = some (r, S') := hf
      unfold b_X6_readsReport_0 at hf
      refine kx_aload_n 0 C dX6_readsReport_0 (lv_at hl 0 rfl) ?_
      obtain ⟨q2, h1, hf⟩ := ob hf
      refine kx_getp 1 C I fl_X6_readsReport_63 h1 dX6_readsReport_1 ?_
      refine kx_bipush 4 C dX6_readsReport_4 (by decide) ?_
      obtain ⟨x3, h4, hf⟩ := ob hf
      refine kx_iald 6 C I h4 dX6_readsReport_6 ?_
      refine kx_bipush 7 C dX6_readsReport_7 (by decide) ?_
      refine kx_icmp_ne 9 14 C dX6_readsReport_9 (by decide) (fun c5 => ?_) (fun c5 => ?_)
      · have hf := ifn c5 hf
        refine kx_aload_n 14 C dX6_readsReport_14 (lv_at hl 0 rfl) ?_
        obtain ⟨h9, hf⟩ := ift hf
        obtain ⟨z8, S6, h7, hf⟩ := ob2 hf
        refine kx_callVv 15 C hl I (ci := 5) (As := []) (rest := []) (c_X6_goOn G l fu _ _ _ _ h7) (cwV 0 C.ts gX6_readsReport_X6_goOn rfl rfl rfl nyV_X6_goOn ⟨Nat.le_of_ble_eq_true rfl, Nat.le_of_ble_eq_true rfl⟩) rfl h9 rfl rfl (Nat.le_of_ble_eq_true rfl) dX6_readsReport_15 ⟨Nat.le_of_ble_eq_true rfl, Nat.le_of_ble_eq_true rfl⟩ (fun H locs I => ?_)
        refine kx_aload_n 18 C dX6_readsReport_18 (lv_at hl 0 rfl) ?_
        obtain ⟨q11, h10, hf⟩ := ob hf
        refine kx_getp 19 C I fl_X6_readsReport_66 h10 dX6_readsReport_19 ?_
        refine kx_iconst 22 C dX6_readsReport_22 ?_
        refine kx_iconst 23 C dX6_readsReport_23 ?_
        obtain ⟨S13, h12, hf⟩ := ob hf
        refine kx_iast 24 C I h12 dX6_readsReport_24 (fun H locs I => ?_)
        refine kx_aload_n 25 C dX6_readsReport_25 (lv_at hl 0 rfl) ?_
        refine kx_iconst 26 C dX6_readsReport_26 ?_
        refine kx_iconst 27 C dX6_readsReport_27 ?_
        refine kx_aload_n 28 C dX6_readsReport_28 (lv_at hl 0 rfl) ?_
        obtain ⟨h17, hf⟩ := ift hf
        obtain ⟨x16, S14, h15, hf⟩ := ob2 hf
        refine kx_callVi 29 C hl I (ci := 5) (As := []) (rest := [.int (iI 0), .int (iI 0), .ref (xB G + p0)]) (c_X6_last G l fu _ _ _ _ h15) (cwV 0 C.ts gX6_readsReport_X6_last rfl rfl rfl nyV_X6_last ⟨Nat.le_of_ble_eq_true rfl, Nat.le_of_ble_eq_true rfl⟩) rfl h17 rfl rfl (Nat.le_of_ble_eq_true rfl) dX6_readsReport_29 ⟨Nat.le_of_ble_eq_true rfl, Nat.le_of_ble_eq_true rfl⟩ (fun H locs I => ?_)
        obtain ⟨h21, hf⟩ := ift hf
        obtain ⟨x20, S18, h19, hf⟩ := ob2 hf
        refine kx_callVi 32 C hl I (ci := 5) (As := [.int (iI 0), .int (iI 0), .int (iI x16)]) (rest := []) (c_X6_takes G l fu _ _ _ _ _ _ _ h19) (cwV 3 C.ts gX6_readsReport_X6_takes rfl rfl rfl nyV_X6_takes ⟨Nat.le_of_ble_eq_true rfl, Nat.le_of_ble_eq_true rfl⟩) rfl h21 rfl rfl (Nat.le_of_ble_eq_true rfl) dX6_readsReport_32 ⟨Nat.le_of_ble_eq_true rfl, Nat.le_of_ble_eq_true rfl⟩ (fun H locs I => ?_)
        refine kx_if_eq 35 57 C dX6_readsReport_35 (by decide) (fun c22 => ?_) (fun c22 => ?_)
        · have hf := ifp c22 hf
          refine kx_iconst 57 C dX6_readsReport_57 ?_
          exact kx_zret 58 C I (by decide) hf dX6_readsReport_58
        · have hf := ifn c22 hf
          refine kx_iload_n 38 C dX6_readsReport_38 (lv_at hl 1 rfl) ?_
          refine kx_if_eq 39 59 C dX6_readsReport_39 (by decide) (fun c23 => ?_) (fun c23 => ?_)
          · have hf := ifp c23 hf
            exact ih1 _ _ _ _ _ _ hf I (lv_sub hl [0] rfl)
          · have hf := ifn c23 hf
            refine kx_aload_n 42 C dX6_readsReport_42 (lv_at hl 0 rfl) ?_
            refine kx_iconst 43 C dX6_readsReport_43 ?_
            refine kx_iconst 44 C dX6_readsReport_44 ?_
            refine kx_aload_n 45 C dX6_readsReport_45 (lv_at hl 0 rfl) ?_
            obtain ⟨q25, h24, hf⟩ := ob hf
            refine kx_getp 46 C I fl_X6_readsReport_63 h24 dX6_readsReport_46 ?_
            refine kx_iconst 49 C dX6_readsReport_49 ?_
            obtain ⟨x26, h27, hf⟩ := ob hf
            refine kx_iald 50 C I h27 dX6_readsReport_50 ?_
            obtain ⟨h31, hf⟩ := ift hf
            obtain ⟨x30, S28, h29, hf⟩ := ob2 hf
            refine kx_callVi 51 C hl I (ci := 5) (As := [.int (iI 1), .int (iI 1), .int (iI x26)]) (rest := []) (c_X6_takes G l fu _ _ _ _ _ _ _ h29) (cwV 3 C.ts gX6_readsReport_X6_takes rfl rfl rfl nyV_X6_takes ⟨Nat.le_of_ble_eq_true rfl, Nat.le_of_ble_eq_true rfl⟩) rfl h31 rfl rfl (Nat.le_of_ble_eq_true rfl) dX6_readsReport_51 ⟨Nat.le_of_ble_eq_true rfl, Nat.le_of_ble_eq_true rfl⟩ (fun H locs I => ?_)
            refine kx_if_ne 54 59 C dX6_readsReport_54 (by decide) (fun c32 => ?_) (fun c32 => ?_)
            · have hf := ifn c32 hf
              exact ih1 _ _ _ _ _ _ hf I (lv_sub hl [0] rfl)
            · have hf := ifp c32 hf
              refine kx_iconst 57 C dX6_readsReport_57 ?_
              exact kx_zret 58 C I (by decide) hf dX6_readsReport_58
      · have hf := ifp c5 hf
        refine kx_iconst 12 C dX6_readsReport_12 ?_
        exact kx_zret 13 C I (by decide) hf dX6_readsReport_13
    · intro S p0 i0 H locs ls hf I hl
      replace hf : b_X6_readsReport_1 (g_X6_readsReport fu) fu S p0 i0 = some (r, S') := hf
      unfold b_X6_readsReport_1 at hf
      refine kx_aload_n 59 C dX6_readsReport_59 (lv_at hl 0 rfl) ?_
      obtain ⟨q34, h33, hf⟩ := ob hf
      refine kx_getp 60 C I fl_X6_readsReport_63 h33 dX6_readsReport_60 ?_
      refine kx_aload_n 63 C dX6_readsReport_63 (lv_at hl 0 rfl) ?_
      obtain ⟨q36, h35, hf⟩ := ob hf
      refine kx_getp 64 C I fl_X6_readsReport_66 h35 dX6_readsReport_64 ?_
      refine kx_iconst 67 C dX6_readsReport_67 ?_
      obtain ⟨x37, h38, hf⟩ := ob hf
      refine kx_iald 68 C I h38 dX6_readsReport_68 ?_
      refine kx_aload_n 69 C dX6_readsReport_69 (lv_at hl 0 rfl) ?_
      obtain ⟨q40, h39, hf⟩ := ob hf
      refine kx_getp 70 C I fl_X6_readsReport_66 h39 dX6_readsReport_70 ?_
      refine kx_iconst 73 C dX6_readsReport_73 ?_
      obtain ⟨x41, h42, hf⟩ := ob hf
      refine kx_iald 74 C I h42 dX6_readsReport_74 ?_
      obtain ⟨z45, S43, h44, hf⟩ := ob2 hf
      refine kx_callSv 75 C hl I (As := [.ref (xB G + q34), .int (iI x37), .int (iI x41)]) (rest := []) (c_X6_layReport G l fu _ _ _ _ _ _ h44) (va_cwS 3 C.ts gX6_readsReport_X6_layReport rfl rfl rfl nyS_X6_layReport ⟨Nat.le_of_ble_eq_true rfl, Nat.le_of_ble_eq_true rfl⟩) rfl rfl (Nat.le_of_ble_eq_true rfl) dX6_readsReport_75 ⟨Nat.le_of_ble_eq_true rfl, Nat.le_of_ble_eq_true rfl⟩ (fun H locs I => ?_)
      refine kx_iconst 78 C dX6_readsReport_78 ?_
      exact kx_zret 79 C I (by decide) hf dX6_readsReport_79
set_option maxHeartbeats 4000000 in
set_option maxRecDepth 100000 in
theorem c_X6_readsReport (G : xG) (l : Launch) (fu : Nat) (S S' : xS) (p0 : Nat) (i0 : Int) (r : Int) (hf : f_X6_readsReport fu S p0 i0 = some (r, S')) : Met l yX6_readsReport vsX6_readsReport rm_X6_readsReport (va_Pc [.ref (xB G + p0), .int (iI i0)] (xPre G S)) (xQi G r S') 0 0 (xA G) := by
  refine kx_met (ret := (some .boolean)) RX6 [(0, .ref (xB G + p0)), (1, .int (iI i0))] (by decide) rfl rfl (Nat.le_of_ble_eq_true rfl) rfl (fun p e s m below meth c ls C hin I hl => ?_)
  exact (w_X6_readsReport C r S' fu).1 S _ _ _ _ _ hf I hl
def rm_X6_readsKnown : Room := { frames := 4, cells := 0, slots := 0, locals := 89 }
theorem hin_X6_readsKnown_RX6 : ∀ w ∈ wsX60, w ∈ vsX6_readsKnown := fun w h => inM (inlX6 w h)
theorem fl_X6_readsKnown_63 : xFl vsX6_readsKnown RX6 63 5 28 := ⟨RX6, TX6, 30, rfl, by decide, hin_X6_readsKnown_RX6, inM mq_5_10, rfl⟩
theorem fl_X6_readsKnown_288 : xFl vsX6_readsKnown RX6 288 5 26 := ⟨RX6, TX6, 30, rfl, by decide, hin_X6_readsKnown_RX6, inM mq_21_7, rfl⟩
theorem fl_X6_readsKnown_291 : xFl vsX6_readsKnown RX6 291 5 27 := ⟨RX6, TX6, 30, rfl, by decide, hin_X6_readsKnown_RX6, inM mq_21_13, rfl⟩
theorem nyS_X6_readsKnown : yX6_readsKnown.cls ≠ "java/lang/invoke/MethodHandle" ∧ yX6_readsKnown.cls ≠ "java/lang/invoke/VarHandle" ∧ (parseMethodDescriptor yX6_readsKnown.desc).map (fun d => d.parameters.length) = some 0 := by decide +kernel
theorem nyV_X6_readsKnown : yX6_readsKnown.cls = RX6 ∧ yX6_readsKnown.cls ≠ "java/lang/invoke/MethodHandle" ∧ yX6_readsKnown.cls ≠ "java/lang/invoke/VarHandle" ∧ (parseMethodDescriptor yX6_readsKnown.desc).map (fun d => d.parameters.length) = some 0 := by decide +kernel
set_option maxHeartbeats 4000000 in
set_option maxRecDepth 100000 in
theorem c_X6_readsKnown (G : xG) (l : Launch) (fu : Nat) (S S' : xS) (p0 : Nat) (r : Int) (hf : f_X6_readsKnown fu S p0 = some (r, S')) : Met l yX6_readsKnown vsX6_readsKnown rm_X6_readsKnown (va_Pc [.ref (xB G + p0)] (xPre G S)) (xQi G r S') 0 0 (xA G) := by
  refine kx_met (ret := (some .boolean)) RX6 [(0, .ref (xB G + p0))] (by decide) rfl rfl (Nat.le_of_ble_eq_true rfl) rfl (fun p e s m below meth c ls C hin I hl => ?_)
  unfold f_X6_readsKnown at hf
  refine kx_aload_n 0 C dX6_readsKnown_0 (lv_at hl 0 rfl) ?_
  obtain ⟨h4, hf⟩ := ift hf
  obtain ⟨z3, S1, h2, hf⟩ := ob2 hf
  refine kx_callVv 1 C hl I (ci := 5) (As := []) (rest := []) (c_X6_goOn G l fu _ _ _ _ h2) (cwV 0 C.ts gX6_readsKnown_X6_goOn rfl rfl rfl nyV_X6_goOn ⟨Nat.le_of_ble_eq_true rfl, Nat.le_of_ble_eq_true rfl⟩) rfl h4 rfl rfl (Nat.le_of_ble_eq_true rfl) dX6_readsKnown_1 ⟨Nat.le_of_ble_eq_true rfl, Nat.le_of_ble_eq_true rfl⟩ (fun H locs I => ?_)
  refine kx_aload_n 4 C dX6_readsKnown_4 (lv_at hl 0 rfl) ?_
  obtain ⟨x6, h5, hf⟩ := ob hf
  refine kx_geti 5 C I fl_X6_readsKnown_288 h5 dX6_readsKnown_5 ?_
  refine kx_iconst 8 C dX6_readsKnown_8 ?_
  refine kx_icmp_ne 9 45 C dX6_readsKnown_9 (by decide) (fun c7 => ?_) (fun c7 => ?_)
  · have hf := ifn c7 hf
    refine kx_iconst 45 C dX6_readsKnown_45 ?_
    exact kx_zret 46 C I (by decide) hf dX6_readsKnown_46
  · have hf := ifp c7 hf
    refine kx_aload_n 12 C dX6_readsKnown_12 (lv_at hl 0 rfl) ?_
    obtain ⟨x9, h8, hf⟩ := ob hf
    refine kx_geti 13 C I fl_X6_readsKnown_291 h8 dX6_readsKnown_13 ?_
    refine kx_i2l 16 C dX6_readsKnown_16 ?_
    refine kx_lconst 17 C (z := 0) dX6_readsKnown_17 rfl ?_
    refine kx_aload_n 18 C dX6_readsKnown_18 (lv_at hl 0 rfl) ?_
    obtain ⟨h13, hf⟩ := ift hf
    obtain ⟨x12, S10, h11, hf⟩ := ob2 hf
    refine kx_callVi 19 C hl I (ci := 5) (As := []) (rest := [.long (lI 0), .long (lI (wI x9))]) (c_X6_last G l fu _ _ _ _ h11) (cwV 0 C.ts gX6_readsKnown_X6_last rfl rfl rfl nyV_X6_last ⟨Nat.le_of_ble_eq_true rfl, Nat.le_of_ble_eq_true rfl⟩) rfl h13 rfl rfl (Nat.le_of_ble_eq_true rfl) dX6_readsKnown_19 ⟨Nat.le_of_ble_eq_true rfl, Nat.le_of_ble_eq_true rfl⟩ (fun H locs I => ?_)
    refine kx_i2l 22 C dX6_readsKnown_22 ?_
    obtain ⟨x16, S14, h15, hf⟩ := ob2 hf
    refine kx_callSi 23 C hl I (As := [.long (lI (wI x9)), .long (lI 0), .long (lI (wI x12))]) (rest := []) (c_X6_in G l fu _ _ _ _ _ _ h15) (va_cwS 3 C.ts gX6_readsKnown_X6_in rfl rfl rfl nyS_X6_in ⟨Nat.le_of_ble_eq_true rfl, Nat.le_of_ble_eq_true rfl⟩) rfl rfl (Nat.le_of_ble_eq_true rfl) dX6_readsKnown_23 ⟨Nat.le_of_ble_eq_true rfl, Nat.le_of_ble_eq_true rfl⟩ (fun H locs I => ?_)
    refine kx_if_eq 26 45 C dX6_readsKnown_26 (by decide) (fun c17 => ?_) (fun c17 => ?_)
    · have hf := ifp c17 hf
      refine kx_iconst 45 C dX6_readsKnown_45 ?_
      exact kx_zret 46 C I (by decide) hf dX6_readsKnown_46
    · have hf := ifn c17 hf
      refine kx_aload_n 29 C dX6_readsKnown_29 (lv_at hl 0 rfl) ?_
      obtain ⟨q19, h18, hf⟩ := ob hf
      refine kx_getp 30 C I fl_X6_readsKnown_63 h18 dX6_readsKnown_30 ?_
      refine kx_bipush 33 C dX6_readsKnown_33 (by decide) ?_
      refine kx_aload_n 35 C dX6_readsKnown_35 (lv_at hl 0 rfl) ?_
      obtain ⟨x21, h20, hf⟩ := ob hf
      refine kx_geti 36 C I fl_X6_readsKnown_291 h20 dX6_readsKnown_36 ?_
      refine kx_iadd 39 C dX6_readsKnown_39 ?_
      obtain ⟨x22, h23, hf⟩ := ob hf
      refine kx_iald 40 C I h23 dX6_readsKnown_40 ?_
      refine kx_iconst 41 C dX6_readsKnown_41 ?_
      refine kx_icmp_eq 42 47 C dX6_readsKnown_42 (by decide) (fun c24 => ?_) (fun c24 => ?_)
      · have hf := ifp c24 hf
        refine kx_aload_n 47 C dX6_readsKnown_47 (lv_at hl 0 rfl) ?_
        obtain ⟨x26, h25, hf⟩ := ob hf
        refine kx_geti 48 C I fl_X6_readsKnown_291 h25 dX6_readsKnown_48 ?_
        refine kx_istore_n 51 C (lv' := [(1, .int (iI x26)), (0, .ref (xB G + p0))]) dX6_readsKnown_51 hl (by decide) rfl rfl (fun ls hl => ?_)
        refine kx_aload_n 52 C dX6_readsKnown_52 (lv_at hl 1 rfl) ?_
        obtain ⟨h30, hf⟩ := ift hf
        obtain ⟨z29, S27, h28, hf⟩ := ob2 hf
        refine kx_callVv 53 C hl I (ci := 5) (As := []) (rest := []) (c_X6_goOn G l fu _ _ _ _ h28) (cwV 0 C.ts gX6_readsKnown_X6_goOn rfl rfl rfl nyV_X6_goOn ⟨Nat.le_of_ble_eq_true rfl, Nat.le_of_ble_eq_true rfl⟩) rfl h30 rfl rfl (Nat.le_of_ble_eq_true rfl) dX6_readsKnown_53 ⟨Nat.le_of_ble_eq_true rfl, Nat.le_of_ble_eq_true rfl⟩ (fun H locs I => ?_)
        refine kx_aload_n 56 C dX6_readsKnown_56 (lv_at hl 1 rfl) ?_
        obtain ⟨x32, h31, hf⟩ := ob hf
        refine kx_geti 57 C I fl_X6_readsKnown_288 h31 dX6_readsKnown_57 ?_
        refine kx_iconst 60 C dX6_readsKnown_60 ?_
        refine kx_icmp_ne 61 95 C dX6_readsKnown_61 (by decide) (fun c33 => ?_) (fun c33 => ?_)
        · have hf := ifn c33 hf
          refine kx_iconst 95 C dX6_readsKnown_95 ?_
          exact kx_zret 96 C I (by decide) hf dX6_readsKnown_96
        · have hf := ifp c33 hf
          refine kx_aload_n 64 C dX6_readsKnown_64 (lv_at hl 1 rfl) ?_
          obtain ⟨x35, h34, hf⟩ := ob hf
          refine kx_geti 65 C I fl_X6_readsKnown_291 h34 dX6_readsKnown_65 ?_
          refine kx_i2l 68 C dX6_readsKnown_68 ?_
          refine kx_lconst 69 C (z := 0) dX6_readsKnown_69 rfl ?_
          refine kx_aload_n 70 C dX6_readsKnown_70 (lv_at hl 1 rfl) ?_
          obtain ⟨h39, hf⟩ := ift hf
          obtain ⟨x38, S36, h37, hf⟩ := ob2 hf
          refine kx_callVi 71 C hl I (ci := 5) (As := []) (rest := [.long (lI 0), .long (lI (wI x35))]) (c_X6_last G l fu _ _ _ _ h37) (cwV 0 C.ts gX6_readsKnown_X6_last rfl rfl rfl nyV_X6_last ⟨Nat.le_of_ble_eq_true rfl, Nat.le_of_ble_eq_true rfl⟩) rfl h39 rfl rfl (Nat.le_of_ble_eq_true rfl) dX6_readsKnown_71 ⟨Nat.le_of_ble_eq_true rfl, Nat.le_of_ble_eq_true rfl⟩ (fun H locs I => ?_)
          refine kx_i2l 74 C dX6_readsKnown_74 ?_
          obtain ⟨x42, S40, h41, hf⟩ := ob2 hf
          refine kx_callSi 75 C hl I (As := [.long (lI (wI x35)), .long (lI 0), .long (lI (wI x38))]) (rest := []) (c_X6_in G l fu _ _ _ _ _ _ h41) (va_cwS 3 C.ts gX6_readsKnown_X6_in rfl rfl rfl nyS_X6_in ⟨Nat.le_of_ble_eq_true rfl, Nat.le_of_ble_eq_true rfl⟩) rfl rfl (Nat.le_of_ble_eq_true rfl) dX6_readsKnown_75 ⟨Nat.le_of_ble_eq_true rfl, Nat.le_of_ble_eq_true rfl⟩ (fun H locs I => ?_)
          refine kx_if_eq 78 95 C dX6_readsKnown_78 (by decide) (fun c43 => ?_) (fun c43 => ?_)
          · have hf := ifp c43 hf
            refine kx_iconst 95 C dX6_readsKnown_95 ?_
            exact kx_zret 96 C I (by decide) hf dX6_readsKnown_96
          · have hf := ifn c43 hf
            refine kx_aload_n 81 C dX6_readsKnown_81 (lv_at hl 1 rfl) ?_
            obtain ⟨q45, h44, hf⟩ := ob hf
            refine kx_getp 82 C I fl_X6_readsKnown_63 h44 dX6_readsKnown_82 ?_
            refine kx_aload_n 85 C dX6_readsKnown_85 (lv_at hl 1 rfl) ?_
            obtain ⟨x47, h46, hf⟩ := ob hf
            refine kx_geti 86 C I fl_X6_readsKnown_291 h46 dX6_readsKnown_86 ?_
            obtain ⟨x50, S48, h49, hf⟩ := ob2 hf
            refine kx_callSi 89 C hl I (As := [.ref (xB G + q45), .int (iI x47)]) (rest := []) (c_X6_isKnown G l fu _ _ _ _ _ h49) (va_cwS 2 C.ts gX6_readsKnown_X6_isKnown rfl rfl rfl nyS_X6_isKnown ⟨Nat.le_of_ble_eq_true rfl, Nat.le_of_ble_eq_true rfl⟩) rfl rfl (Nat.le_of_ble_eq_true rfl) dX6_readsKnown_89 ⟨Nat.le_of_ble_eq_true rfl, Nat.le_of_ble_eq_true rfl⟩ (fun H locs I => ?_)
            refine kx_if_eq 92 97 C dX6_readsKnown_92 (by decide) (fun c51 => ?_) (fun c51 => ?_)
            · have hf := ifp c51 hf
              refine kx_aload_n 97 C dX6_readsKnown_97 (lv_at hl 1 rfl) ?_
              obtain ⟨q53, h52, hf⟩ := ob hf
              refine kx_getp 98 C I fl_X6_readsKnown_63 h52 dX6_readsKnown_98 ?_
              refine kx_bipush 101 C dX6_readsKnown_101 (by decide) ?_
              refine kx_iload_n 103 C dX6_readsKnown_103 (lv_at hl 0 rfl) ?_
              refine kx_iadd 104 C dX6_readsKnown_104 ?_
              refine kx_aload_n 105 C dX6_readsKnown_105 (lv_at hl 1 rfl) ?_
              obtain ⟨x55, h54, hf⟩ := ob hf
              refine kx_geti 106 C I fl_X6_readsKnown_291 h54 dX6_readsKnown_106 ?_
              obtain ⟨S57, h56, hf⟩ := ob hf
              refine kx_iast 109 C I h56 dX6_readsKnown_109 (fun H locs I => ?_)
              refine kx_aload_n 110 C dX6_readsKnown_110 (lv_at hl 1 rfl) ?_
              obtain ⟨h61, hf⟩ := ift hf
              obtain ⟨z60, S58, h59, hf⟩ := ob2 hf
              refine kx_callVv 111 C hl I (ci := 5) (As := []) (rest := []) (c_X6_goOn G l fu _ _ _ _ h59) (cwV 0 C.ts gX6_readsKnown_X6_goOn rfl rfl rfl nyV_X6_goOn ⟨Nat.le_of_ble_eq_true rfl, Nat.le_of_ble_eq_true rfl⟩) rfl h61 rfl rfl (Nat.le_of_ble_eq_true rfl) dX6_readsKnown_111 ⟨Nat.le_of_ble_eq_true rfl, Nat.le_of_ble_eq_true rfl⟩ (fun H locs I => ?_)
              refine kx_iconst 114 C dX6_readsKnown_114 ?_
              exact kx_zret 115 C I (by decide) hf dX6_readsKnown_115
            · have hf := ifn c51 hf
              refine kx_iconst 95 C dX6_readsKnown_95 ?_
              exact kx_zret 96 C I (by decide) hf dX6_readsKnown_96
      · have hf := ifn c24 hf
        refine kx_iconst 45 C dX6_readsKnown_45 ?_
        exact kx_zret 46 C I (by decide) hf dX6_readsKnown_46
def rm_X6_readsMove : Room := { frames := 5, cells := 0, slots := 0, locals := 112 }
theorem hin_X6_readsMove_RX6 : ∀ w ∈ wsX60, w ∈ vsX6_readsMove := fun w h => inM (inlX6 w h)
theorem fl_X6_readsMove_63 : xFl vsX6_readsMove RX6 63 5 28 := ⟨RX6, TX6, 30, rfl, by decide, hin_X6_readsMove_RX6, inM mq_5_10, rfl⟩
theorem fl_X6_readsMove_66 : xFl vsX6_readsMove RX6 66 5 29 := ⟨RX6, TX6, 30, rfl, by decide, hin_X6_readsMove_RX6, inM mq_5_11, rfl⟩
theorem nyS_X6_readsMove : yX6_readsMove.cls ≠ "java/lang/invoke/MethodHandle" ∧ yX6_readsMove.cls ≠ "java/lang/invoke/VarHandle" ∧ (parseMethodDescriptor yX6_readsMove.desc).map (fun d => d.parameters.length) = some 0 := by decide +kernel
theorem nyV_X6_readsMove : yX6_readsMove.cls = RX6 ∧ yX6_readsMove.cls ≠ "java/lang/invoke/MethodHandle" ∧ yX6_readsMove.cls ≠ "java/lang/invoke/VarHandle" ∧ (parseMethodDescriptor yX6_readsMove.desc).map (fun d => d.parameters.length) = some 0 := by decide +kernel
set_option maxHeartbeats 4000000 in
set_option maxRecDepth 100000 in
theorem w_X6_readsMove {G : xG} {p : Program} {l : Launch} {e : Env} {s : State} {m : MethodId} {args : Array Value} {below : List Frame} {meth : Method} {c : Code} (C : xK G p s m args meth c cX6_readsMove 3 vsX6_readsMove RX6 (some .boolean)) (r : Int) (S' : xS) : ∀ k : Nat,
  (∀ (S : xS) (p0 p1 : Nat) (i0 i1 i2 : Int) (H : Heap) (locs : List Loc) (ls : Array Slot), g_X6_readsMove k 0 S p0 p1 i0 i1 i2 = some (r, S') → xI G S s H locs → lv_has ls 3 [(0, .ref (xB G + p0))] → W p l e rm_X6_readsMove s m args below meth c H locs 0 0 (MQ below (xQi G r S') args s 0 0 (xA G)) (F0 m 0 ls [])) ∧
  (∀ (S : xS) (p0 p1 : Nat) (i0 i1 i2 : Int) (H : Heap) (locs : List Loc) (ls : Array Slot), g_X6_readsMove k 1 S p0 p1 i0 i1 i2 = some (r, S') → xI G S s H locs → lv_has ls 3 [(0, .ref (xB G + p0)), (2, .int (iI i0))] → W p l e rm_X6_readsMove s m args below meth c H locs 0 0 (MQ below (xQi G r S') args s 0 0 (xA G)) (F0 m 59 ls [.int (iI i2), .int (iI i1), .ref (xB G + p1)])) := by
  intro k
  induction k with
  | zero => exact ⟨fun _ _ _ _ _ _ _ _ _ hf => (by cases hf), fun _ _ _ _ _ _ _ _ _ hf => (by cases hf)⟩
  | succ fu ih =>
    obtain ⟨ih0, ih1⟩ := ih
    refine ⟨?_, ?_⟩
    · intro S p0 p1 i0 i1 i2 H locs ls hf I hl
      replace hf : b_X6_readsMove_0 (g_X6_readsMove fu) fu S p0 p1 i0 i1 i2 = some (r, S') := hf
      unfold b_X6_readsMove_0 at hf
      refine kx_aload_n 0 C dX6_readsMove_0 (lv_at hl 0 rfl) ?_
      obtain ⟨q2, h1, hf⟩ := ob hf
      refine kx_getp 1 C I fl_X6_readsMove_63 h1 dX6_readsMove_1 ?_
      refine kx_bipush 4 C dX6_readsMove_4 (by decide) ?_
      obtain ⟨x3, h4, hf⟩ := ob hf
      refine kx_iald 6 C I h4 dX6_readsMove_6 ?_
      refine kx_istore_n 7 C (lv' := [(1, .int (iI x3)), (0, .ref (xB G + p0))]) dX6_readsMove_7 hl (by decide) rfl rfl (fun ls hl => ?_)
      refine kx_iload_n 8 C dX6_readsMove_8 (lv_at hl 0 rfl) ?_
      refine kx_iconst 9 C dX6_readsMove_9 ?_
      refine kx_icmp_ne 10 15 C dX6_readsMove_10 (by decide) (fun c5 => ?_) (fun c5 => ?_)
      · have hf := ifn c5 hf
        refine kx_aload_n 15 C dX6_readsMove_15 (lv_at hl 1 rfl) ?_
        obtain ⟨h9, hf⟩ := ift hf
        obtain ⟨z8, S6, h7, hf⟩ := ob2 hf
        refine kx_callVv 16 C hl I (ci := 5) (As := []) (rest := []) (c_X6_goOn G l fu _ _ _ _ h7) (cwV 0 C.ts gX6_readsMove_X6_goOn rfl rfl rfl nyV_X6_goOn ⟨Nat.le_of_ble_eq_true rfl, Nat.le_of_ble_eq_true rfl⟩) rfl h9 rfl rfl (Nat.le_of_ble_eq_true rfl) dX6_readsMove_16 ⟨Nat.le_of_ble_eq_true rfl, Nat.le_of_ble_eq_true rfl⟩ (fun H locs I => ?_)
        refine kx_aload_n 19 C dX6_readsMove_19 (lv_at hl 1 rfl) ?_
        refine kx_iconst 20 C dX6_readsMove_20 ?_
        refine kx_iconst 21 C dX6_readsMove_21 ?_
        refine kx_aload_n 22 C dX6_readsMove_22 (lv_at hl 1 rfl) ?_
        obtain ⟨q11, h10, hf⟩ := ob hf
        refine kx_getp 23 C I fl_X6_readsMove_63 h10 dX6_readsMove_23 ?_
        refine kx_iconst 26 C dX6_readsMove_26 ?_
        obtain ⟨x12, h13, hf⟩ := ob hf
        refine kx_iald 27 C I h13 dX6_readsMove_27 ?_
        obtain ⟨x16, S14, h15, hf⟩ := ob2 hf
        refine kx_callSi 28 C hl I (As := [.int (iI x12)]) (rest := [.int (iI 0), .int (iI 0), .ref (xB G + p0)]) (c_X6_factorial G l fu _ _ _ _ h15) (va_cwS 1 C.ts gX6_readsMove_X6_factorial rfl rfl rfl nyS_X6_factorial ⟨Nat.le_of_ble_eq_true rfl, Nat.le_of_ble_eq_true rfl⟩) rfl rfl (Nat.le_of_ble_eq_true rfl) dX6_readsMove_28 ⟨Nat.le_of_ble_eq_true rfl, Nat.le_of_ble_eq_true rfl⟩ (fun H locs I => ?_)
        refine kx_iconst 31 C dX6_readsMove_31 ?_
        refine kx_isub 32 C dX6_readsMove_32 ?_
        obtain ⟨h20, hf⟩ := ift hf
        obtain ⟨x19, S17, h18, hf⟩ := ob2 hf
        refine kx_callVi 33 C hl I (ci := 5) (As := [.int (iI 0), .int (iI 0), .int (iI (x16 - 1))]) (rest := []) (c_X6_takes G l fu _ _ _ _ _ _ _ h18) (cwV 3 C.ts gX6_readsMove_X6_takes rfl rfl rfl nyV_X6_takes ⟨Nat.le_of_ble_eq_true rfl, Nat.le_of_ble_eq_true rfl⟩) rfl h20 rfl rfl (Nat.le_of_ble_eq_true rfl) dX6_readsMove_33 ⟨Nat.le_of_ble_eq_true rfl, Nat.le_of_ble_eq_true rfl⟩ (fun H locs I => ?_)
        refine kx_istore_n 36 C (lv' := [(2, .int (iI x19)), (1, .int (iI x3)), (0, .ref (xB G + p0))]) dX6_readsMove_36 hl (by decide) rfl rfl (fun ls hl => ?_)
        refine kx_aload_n 37 C dX6_readsMove_37 (lv_at hl 2 rfl) ?_
        obtain ⟨q22, h21, hf⟩ := ob hf
        refine kx_getp 38 C I fl_X6_readsMove_63 h21 dX6_readsMove_38 ?_
        refine kx_bipush 41 C dX6_readsMove_41 (by decide) ?_
        refine kx_iload_n 43 C dX6_readsMove_43 (lv_at hl 1 rfl) ?_
        refine kx_iadd 44 C dX6_readsMove_44 ?_
        refine kx_iload_n 45 C dX6_readsMove_45 (lv_at hl 0 rfl) ?_
        refine kx_if_eq 46 58 C dX6_readsMove_46 (by decide) (fun c23 => ?_) (fun c23 => ?_)
        · have hf := ifp c23 hf
          refine kx_iconst 58 C dX6_readsMove_58 ?_
          exact ih1 _ _ _ _ _ _ _ _ _ hf I (lv_sub hl [2, 0] rfl)
        · have hf := ifn c23 hf
          refine kx_aload_n 49 C dX6_readsMove_49 (lv_at hl 2 rfl) ?_
          obtain ⟨q25, h24, hf⟩ := ob hf
          refine kx_getp 50 C I fl_X6_readsMove_66 h24 dX6_readsMove_50 ?_
          refine kx_iconst 53 C dX6_readsMove_53 ?_
          obtain ⟨x26, h27, hf⟩ := ob hf
          refine kx_iald 54 C I h27 dX6_readsMove_54 ?_
          refine kx_goto 55 59 C dX6_readsMove_55 (by decide) ?_
          exact ih1 _ _ _ _ _ _ _ _ _ hf I (lv_sub hl [2, 0] rfl)
      · have hf := ifp c5 hf
        refine kx_iconst 13 C dX6_readsMove_13 ?_
        exact kx_zret 14 C I (by decide) hf dX6_readsMove_14
    · intro S p0 p1 i0 i1 i2 H locs ls hf I hl
      replace hf : b_X6_readsMove_1 (g_X6_readsMove fu) fu S p0 p1 i0 i1 i2 = some (r, S') := hf
      unfold b_X6_readsMove_1 at hf
      obtain ⟨S29, h28, hf⟩ := ob hf
      refine kx_iast 59 C I h28 dX6_readsMove_59 (fun H locs I => ?_)
      refine kx_aload_n 60 C dX6_readsMove_60 (lv_at hl 0 rfl) ?_
      obtain ⟨q31, h30, hf⟩ := ob hf
      refine kx_getp 61 C I fl_X6_readsMove_63 h30 dX6_readsMove_61 ?_
      refine kx_bipush 64 C dX6_readsMove_64 (by decide) ?_
      refine kx_dup2 66 C dX6_readsMove_66 rfl rfl ?_
      obtain ⟨x32, h33, hf⟩ := ob hf
      refine kx_iald 67 C I h33 dX6_readsMove_67 ?_
      refine kx_iconst 68 C dX6_readsMove_68 ?_
      refine kx_iadd 69 C dX6_readsMove_69 ?_
      obtain ⟨S35, h34, hf⟩ := ob hf
      refine kx_iast 70 C I h34 dX6_readsMove_70 (fun H locs I => ?_)
      refine kx_iload_n 71 C dX6_readsMove_71 (lv_at hl 1 rfl) ?_
      obtain ⟨h36, hf⟩ := ift hf
      exact kx_zret 72 C I h36 hf dX6_readsMove_72
set_option maxHeartbeats 4000000 in
set_option maxRecDepth 100000 in
theorem c_X6_readsMove (G : xG) (l : Launch) (fu : Nat) (S S' : xS) (p0 : Nat) (r : Int) (hf : f_X6_readsMove fu S p0 = some (r, S')) : Met l yX6_readsMove vsX6_readsMove rm_X6_readsMove (va_Pc [.ref (xB G + p0)] (xPre G S)) (xQi G r S') 0 0 (xA G) := by
  refine kx_met (ret := (some .boolean)) RX6 [(0, .ref (xB G + p0))] (by decide) rfl rfl (Nat.le_of_ble_eq_true rfl) rfl (fun p e s m below meth c ls C hin I hl => ?_)
  exact (w_X6_readsMove C r S' fu).1 S _ _ _ _ _ _ _ _ hf I hl
