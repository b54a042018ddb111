def rm_X5_worst : Room := { frames := 5, cells := 0, slots := 0, locals := 121 }
theorem hin_X5_worst_RX1 : ∀ w ∈ wsX10, w ∈ vsX5_worst := fun w h => inM (inlX1 w h)
theorem hin_X5_worst_RX5 : ∀ w ∈ wsX50, w ∈ vsX5_worst := fun w h => inM (inlX5 w h)
theorem fl_X5_worst_10 : xFl vsX5_worst RX5 10 4 0 := ⟨RX5, TX5, 13, rfl, by decide, hin_X5_worst_RX5, inM mq_1_15, rfl⟩
theorem fl_X5_worst_37 : xFl vsX5_worst RX5 37 4 5 := ⟨RX5, TX5, 13, rfl, by decide, hin_X5_worst_RX5, inM mq_2_3, rfl⟩
theorem fl_X5_worst_69 : xFl vsX5_worst RX5 69 1 0 := ⟨RX1, TX1, 14, rfl, by decide, hin_X5_worst_RX1, inM mq_5_19, rfl⟩
theorem mw_X5_worst_0 : Cond.fieldLink RX5 201 "BoxRings" "WAYS_OF" "[I" ∈ vsX5_worst := inM mq_10_21
theorem nyS_X5_worst : yX5_worst.cls ≠ "java/lang/invoke/MethodHandle" ∧ yX5_worst.cls ≠ "java/lang/invoke/VarHandle" ∧ (parseMethodDescriptor yX5_worst.desc).map (fun d => d.parameters.length) = some 1 := by decide +kernel
theorem nyV_X5_worst : yX5_worst.cls = RX5 ∧ yX5_worst.cls ≠ "java/lang/invoke/MethodHandle" ∧ yX5_worst.cls ≠ "java/lang/invoke/VarHandle" ∧ (parseMethodDescriptor yX5_worst.desc).map (fun d => d.parameters.length) = some 1 := by decide +kernel
set_option maxHeartbeats 4000000 in
set_option maxRecDepth 100000 in
theorem w_X5_worst {G : xG} {p : Program} {l : Launch} {e : Env} {s : State} {m : MethodId} {args : Array Value} {below : List Frame} {meth : Method} {c : Code} (C : xK G p s m args meth c cX5_worst 7 vsX5_worst RX5 (some .int)) (r : Int) (S' : xS) : ∀ k : Nat,
  (∀ (S : xS) (p0 : Nat) (i0 i1 i2 i3 i4 : Int) (H : Heap) (locs : List Loc) (ls : Array Slot), g_X5_worst k 0 S p0 i0 i1 i2 i3 i4 = some (r, S') → xI G S s H locs → lv_has ls 7 [(0, .ref (xB G + p0)), (1, .int (iI i0))] → W p l e rm_X5_worst s m args below meth c H locs 0 0 (MQ below (xQi G r S') args s 0 0 (xA G)) (F0 m 0 ls [])) ∧
  (∀ (S : xS) (p0 : Nat) (i0 i1 i2 i3 i4 : Int) (H : Heap) (locs : List Loc) (ls : Array Slot), g_X5_worst k 1 S p0 i0 i1 i2 i3 i4 = some (r, S') → xI G S s H locs → lv_has ls 7 [(0, .ref (xB G + p0)), (1, .int (iI i0))] → W p l e rm_X5_worst s m args below meth c H locs 0 0 (MQ below (xQi G r S') args s 0 0 (xA G)) (F0 m 14 ls [])) ∧
  (∀ (S : xS) (p0 : Nat) (i0 i1 i2 i3 i4 : Int) (H : Heap) (locs : List Loc) (ls : Array Slot), g_X5_worst k 2 S p0 i0 i1 i2 i3 i4 = some (r, S') → xI G S s H locs → lv_has ls 7 [(0, .ref (xB G + p0)), (1, .int (iI i0)), (2, .int (iI i1)), (3, .int (iI i2)), (4, .int (iI i3)), (5, .int (iI i4))] → W p l e rm_X5_worst s m args below meth c H locs 0 0 (MQ below (xQi G r S') args s 0 0 (xA G)) (F0 m 38 ls [])) ∧
  (∀ (S : xS) (p0 : Nat) (i0 i1 i2 i3 i4 : Int) (H : Heap) (locs : List Loc) (ls : Array Slot), g_X5_worst k 3 S p0 i0 i1 i2 i3 i4 = some (r, S') → xI G S s H locs → lv_has ls 7 [(0, .ref (xB G + p0)), (1, .int (iI i0)), (2, .int (iI i1)), (5, .int (iI i2)), (6, .int (iI i3))] → W p l e rm_X5_worst s m args below meth c H locs 0 0 (MQ below (xQi G r S') args s 0 0 (xA G)) (F0 m 80 ls [])) ∧
  (∀ (S : xS) (p0 : Nat) (i0 i1 i2 i3 i4 : Int) (H : Heap) (locs : List Loc) (ls : Array Slot), g_X5_worst k 4 S p0 i0 i1 i2 i3 i4 = some (r, S') → xI G S s H locs → lv_has ls 7 [(0, .ref (xB G + p0)), (1, .int (iI i0)), (2, .int (iI i1)), (3, .int (iI i2)), (4, .int (iI i3)), (5, .int (iI i4))] → W p l e rm_X5_worst s m args below meth c H locs 0 0 (MQ below (xQi G r S') args s 0 0 (xA G)) (F0 m 87 ls [])) := by
  intro k
  induction k with
  | zero => exact ⟨fun _ _ _ _ _ _ _ _ _ _ hf => (by cases hf), fun _ _ _ _ _ _ _ _ _ _ hf => (by cases hf), fun _ _ _ _ _ _ _ _ _ _ hf => (by cases hf), fun _ _ _ _ _ _ _ _ _ _ hf => (by cases hf), fun _ _ _ _ _ _ _ _ _ _ hf => (by cases hf)⟩
  | succ fu ih =>
    obtain ⟨ih0, ih1, ih2, ih3, ih4⟩ := ih
    refine ⟨?_, ?_, ?_, ?_, ?_⟩
    · intro S p0 i0 i1 i2 i3 i4 H locs ls hf I hl
      replace hf : b_X5_worst_0 (g_X5_worst fu) fu S p0 i0 i1 i2 i3 i4 = some (r, S') := hf
      unfold b_X5_worst_0 at hf
      refine kx_iload_n 0 C dX5_worst_0 (lv_at hl 1 rfl) ?_
      refine kx_if_eq 1 14 C dX5_worst_1 (by decide) (fun c1 => ?_) (fun c1 => ?_)
      · have hf := ifp c1 hf
        exact ih1 _ _ _ _ _ _ _ _ _ _ hf I (lv_sub hl [0, 1] rfl)
      · have hf := ifn c1 hf
        refine kx_iload_n 4 C dX5_worst_4 (lv_at hl 1 rfl) ?_
        refine kx_iconst 5 C dX5_worst_5 ?_
        refine kx_icmp_eq 6 14 C dX5_worst_6 (by decide) (fun c2 => ?_) (fun c2 => ?_)
        · have hf := ifp c2 hf
          exact ih1 _ _ _ _ _ _ _ _ _ _ hf I (lv_sub hl [0, 1] rfl)
        · have hf := ifn c2 hf
          refine kx_aload_n 9 C dX5_worst_9 (lv_at hl 0 rfl) ?_
          obtain ⟨h6, hf⟩ := ift hf
          obtain ⟨x5, S3, h4, hf⟩ := ob2 hf
          refine kx_callVi 10 C hl I (ci := 4) (As := []) (rest := []) (c_X5_refuseBad G l fu _ _ _ _ h4) (cwV 0 C.ts gX5_worst_X5_refuseBad rfl rfl rfl nyV_X5_refuseBad ⟨Nat.le_of_ble_eq_true rfl, Nat.le_of_ble_eq_true rfl⟩) rfl h6 rfl rfl (Nat.le_of_ble_eq_true rfl) dX5_worst_10 ⟨Nat.le_of_ble_eq_true rfl, Nat.le_of_ble_eq_true rfl⟩ (fun H locs I => ?_)
          exact kx_iret 13 C I hf dX5_worst_13
    · intro S p0 i0 i1 i2 i3 i4 H locs ls hf I hl
      replace hf : b_X5_worst_1 (g_X5_worst fu) fu S p0 i0 i1 i2 i3 i4 = some (r, S') := hf
      unfold b_X5_worst_1 at hf
      refine kx_aload_n 14 C dX5_worst_14 (lv_at hl 0 rfl) ?_
      obtain ⟨q8, h7, hf⟩ := ob hf
      refine kx_getp 15 C I fl_X5_worst_10 h7 dX5_worst_15 ?_
      obtain ⟨x10, h9, hf⟩ := ob hf
      refine kx_geti 18 C I fl_X5_worst_69 h9 dX5_worst_18 ?_
      refine kx_istore_n 21 C (lv' := [(2, .int (iI x10)), (0, .ref (xB G + p0)), (1, .int (iI i0))]) dX5_worst_21 hl (by decide) rfl rfl (fun ls hl => ?_)
      refine kx_iconst 22 C dX5_worst_22 ?_
      refine kx_istore_n 23 C (lv' := [(3, .int (iI ((-1)))), (2, .int (iI x10)), (0, .ref (xB G + p0)), (1, .int (iI i0))]) dX5_worst_23 hl (by decide) rfl rfl (fun ls hl => ?_)
      refine kx_iconst 24 C dX5_worst_24 ?_
      refine kx_istore 25 C (lv' := [(4, .int (iI 0)), (3, .int (iI ((-1)))), (2, .int (iI x10)), (0, .ref (xB G + p0)), (1, .int (iI i0))]) dX5_worst_25 hl (by decide) rfl rfl (fun ls hl => ?_)
      refine kx_aload_n 27 C dX5_worst_27 (lv_at hl 3 rfl) ?_
      obtain ⟨q12, h11, hf⟩ := ob hf
      refine kx_getp 28 C I fl_X5_worst_37 h11 dX5_worst_28 ?_
      refine kx_iload_n 31 C dX5_worst_31 (lv_at hl 2 rfl) ?_
      obtain ⟨z15, S13, h14, hf⟩ := ob2 hf
      refine kx_callSv 32 C hl I (As := [.ref (xB G + q12), .int (iI x10)]) (rest := []) (c_X4_setToFirst G l fu _ _ _ _ _ h14) (va_cwS 2 C.ts gX5_worst_X4_setToFirst rfl rfl rfl nyS_X4_setToFirst ⟨Nat.le_of_ble_eq_true rfl, Nat.le_of_ble_eq_true rfl⟩) rfl rfl (Nat.le_of_ble_eq_true rfl) dX5_worst_32 ⟨Nat.le_of_ble_eq_true rfl, Nat.le_of_ble_eq_true rfl⟩ (fun H locs I => ?_)
      refine kx_iconst 35 C dX5_worst_35 ?_
      refine kx_istore 36 C (lv' := [(5, .int (iI 0)), (4, .int (iI 0)), (3, .int (iI ((-1)))), (2, .int (iI x10)), (0, .ref (xB G + p0)), (1, .int (iI i0))]) dX5_worst_36 hl (by decide) rfl rfl (fun ls hl => ?_)
      exact ih2 _ _ _ _ _ _ _ _ _ _ hf I (lv_sub hl [4, 5, 3, 2, 1, 0] rfl)
    · intro S p0 i0 i1 i2 i3 i4 H locs ls hf I hl
      replace hf : b_X5_worst_2 (g_X5_worst fu) fu S p0 i0 i1 i2 i3 i4 = some (r, S') := hf
      unfold b_X5_worst_2 at hf
      refine kx_iload 38 C dX5_worst_38 (lv_at hl 5 rfl) ?_
      refine kx_gets 40 C I mw_X5_worst_0 dX5_worst_40 ?_
      refine kx_iload_n 43 C dX5_worst_43 (lv_at hl 2 rfl) ?_
      obtain ⟨x16, h17, hf⟩ := ob hf
      refine kx_tab 44 C I h17 dX5_worst_44 ?_
      refine kx_icmp_ge 45 101 C dX5_worst_45 (by decide) (fun c18 => ?_) (fun c18 => ?_)
      · have hf := ifp c18 hf
        refine kx_iload_n 101 C dX5_worst_101 (lv_at hl 3 rfl) ?_
        refine kx_iconst 102 C dX5_worst_102 ?_
        refine kx_icmp_ne 103 111 C dX5_worst_103 (by decide) (fun c19 => ?_) (fun c19 => ?_)
        · have hf := ifn c19 hf
          refine kx_iload_n 111 C dX5_worst_111 (lv_at hl 1 rfl) ?_
          refine kx_if_ne 112 119 C dX5_worst_112 (by decide) (fun c20 => ?_) (fun c20 => ?_)
          · have hf := ifn c20 hf
            refine kx_iload 119 C dX5_worst_119 (lv_at hl 4 rfl) ?_
            exact kx_iret 121 C I hf dX5_worst_121
          · have hf := ifp c20 hf
            refine kx_iload_n 115 C dX5_worst_115 (lv_at hl 3 rfl) ?_
            refine kx_goto 116 121 C dX5_worst_116 (by decide) ?_
            exact kx_iret 121 C I hf dX5_worst_121
        · have hf := ifp c19 hf
          refine kx_aload_n 106 C dX5_worst_106 (lv_at hl 0 rfl) ?_
          obtain ⟨h24, hf⟩ := ift hf
          obtain ⟨x23, S21, h22, hf⟩ := ob2 hf
          refine kx_callVi 107 C hl I (ci := 4) (As := []) (rest := []) (c_X5_refuseNo G l fu _ _ _ _ h22) (cwV 0 C.ts gX5_worst_X5_refuseNo rfl rfl rfl nyV_X5_refuseNo ⟨Nat.le_of_ble_eq_true rfl, Nat.le_of_ble_eq_true rfl⟩) rfl h24 rfl rfl (Nat.le_of_ble_eq_true rfl) dX5_worst_107 ⟨Nat.le_of_ble_eq_true rfl, Nat.le_of_ble_eq_true rfl⟩ (fun H locs I => ?_)
          exact kx_iret 110 C I hf dX5_worst_110
      · have hf := ifn c18 hf
        refine kx_aload_n 48 C dX5_worst_48 (lv_at hl 0 rfl) ?_
        obtain ⟨h28, hf⟩ := ift hf
        obtain ⟨x27, S25, h26, hf⟩ := ob2 hf
        refine kx_callVi 49 C hl I (ci := 4) (As := []) (rest := []) (c_X5_mayTrialBe G l fu _ _ _ _ h26) (cwV 0 C.ts gX5_worst_X5_mayTrialBe rfl rfl rfl nyV_X5_mayTrialBe ⟨Nat.le_of_ble_eq_true rfl, Nat.le_of_ble_eq_true rfl⟩) rfl h28 rfl rfl (Nat.le_of_ble_eq_true rfl) dX5_worst_49 ⟨Nat.le_of_ble_eq_true rfl, Nat.le_of_ble_eq_true rfl⟩ (fun H locs I => ?_)
        refine kx_if_eq 52 87 C dX5_worst_52 (by decide) (fun c29 => ?_) (fun c29 => ?_)
        · have hf := ifp c29 hf
          exact ih4 _ _ _ _ _ _ _ _ _ _ hf I (lv_sub hl [0, 1, 2, 3, 4, 5] rfl)
        · have hf := ifn c29 hf
          refine kx_aload_n 55 C dX5_worst_55 (lv_at hl 0 rfl) ?_
          refine kx_aload_n 56 C dX5_worst_56 (lv_at hl 0 rfl) ?_
          obtain ⟨q31, h30, hf⟩ := ob hf
          refine kx_getp 57 C I fl_X5_worst_37 h30 dX5_worst_57 ?_
          obtain ⟨h35, hf⟩ := ift hf
          obtain ⟨x34, S32, h33, hf⟩ := ob2 hf
          refine kx_callVi 60 C hl I (ci := 4) (As := [.ref (xB G + q31)]) (rest := []) (c_X5_findersIn G l fu _ _ _ _ _ h33) (cwV 1 C.ts gX5_worst_X5_findersIn rfl rfl rfl nyV_X5_findersIn ⟨Nat.le_of_ble_eq_true rfl, Nat.le_of_ble_eq_true rfl⟩) rfl h35 rfl rfl (Nat.le_of_ble_eq_true rfl) dX5_worst_60 ⟨Nat.le_of_ble_eq_true rfl, Nat.le_of_ble_eq_true rfl⟩ (fun H locs I => ?_)
          obtain ⟨x38, S36, h37, hf⟩ := ob2 hf
          refine kx_callSi 63 C hl I (As := [.int (iI x34)]) (rest := []) (c_J6_bitCount_0f7a4 G l fu _ _ _ _ h37) (va_cwS 1 C.ts gX5_worst_J6_bitCount_0f7a4 rfl rfl rfl nyS_J6_bitCount_0f7a4 ⟨Nat.le_of_ble_eq_true rfl, Nat.le_of_ble_eq_true rfl⟩) rfl rfl (Nat.le_of_ble_eq_true rfl) dX5_worst_63 ⟨Nat.le_of_ble_eq_true rfl, Nat.le_of_ble_eq_true rfl⟩ (fun H locs I => ?_)
          refine kx_istore 66 C (lv' := [(6, .int (iI x38)), (0, .ref (xB G + p0)), (1, .int (iI i0)), (2, .int (iI i1)), (3, .int (iI i2)), (4, .int (iI i3)), (5, .int (iI i4))]) dX5_worst_66 hl (by decide) rfl rfl (fun ls hl => ?_)
          refine kx_iload_n 68 C dX5_worst_68 (lv_at hl 4 rfl) ?_
          refine kx_iconst 69 C dX5_worst_69 ?_
          refine kx_icmp_eq 70 80 C dX5_worst_70 (by decide) (fun c39 => ?_) (fun c39 => ?_)
          · have hf := ifp c39 hf
            exact ih3 _ _ _ _ _ _ _ _ _ _ hf I (lv_sub hl [1, 2, 3, 6, 0] rfl)
          · have hf := ifn c39 hf
            refine kx_iload 73 C dX5_worst_73 (lv_at hl 0 rfl) ?_
            refine kx_iload 75 C dX5_worst_75 (lv_at hl 5 rfl) ?_
            refine kx_icmp_ge 77 87 C dX5_worst_77 (by decide) (fun c40 => ?_) (fun c40 => ?_)
            · have hf := ifp c40 hf
              exact ih4 _ _ _ _ _ _ _ _ _ _ hf I (lv_sub hl [1, 2, 3, 4, 5, 6] rfl)
            · have hf := ifn c40 hf
              exact ih3 _ _ _ _ _ _ _ _ _ _ hf I (lv_sub hl [1, 2, 3, 6, 0] rfl)
    · intro S p0 i0 i1 i2 i3 i4 H locs ls hf I hl
      replace hf : b_X5_worst_3 (g_X5_worst fu) fu S p0 i0 i1 i2 i3 i4 = some (r, S') := hf
      unfold b_X5_worst_3 at hf
      refine kx_iload 80 C dX5_worst_80 (lv_at hl 3 rfl) ?_
      refine kx_istore_n 82 C (lv' := [(3, .int (iI i2)), (0, .ref (xB G + p0)), (1, .int (iI i0)), (2, .int (iI i1)), (5, .int (iI i2)), (6, .int (iI i3))]) dX5_worst_82 hl (by decide) rfl rfl (fun ls hl => ?_)
      refine kx_iload 83 C dX5_worst_83 (lv_at hl 5 rfl) ?_
      refine kx_istore 85 C (lv' := [(4, .int (iI i3)), (3, .int (iI i2)), (0, .ref (xB G + p0)), (1, .int (iI i0)), (2, .int (iI i1)), (5, .int (iI i2)), (6, .int (iI i3))]) dX5_worst_85 hl (by decide) rfl rfl (fun ls hl => ?_)
      exact ih4 _ _ _ _ _ _ _ _ _ _ hf I (lv_sub hl [2, 3, 4, 1, 0, 5] rfl)
    · intro S p0 i0 i1 i2 i3 i4 H locs ls hf I hl
      replace hf : b_X5_worst_4 (g_X5_worst fu) fu S p0 i0 i1 i2 i3 i4 = some (r, S') := hf
      unfold b_X5_worst_4 at hf
      refine kx_aload_n 87 C dX5_worst_87 (lv_at hl 0 rfl) ?_
      obtain ⟨q42, h41, hf⟩ := ob hf
      refine kx_getp 88 C I fl_X5_worst_37 h41 dX5_worst_88 ?_
      refine kx_iload_n 91 C dX5_worst_91 (lv_at hl 2 rfl) ?_
      obtain ⟨z45, S43, h44, hf⟩ := ob2 hf
      refine kx_callSv 92 C hl I (As := [.ref (xB G + q42), .int (iI i1)]) (rest := []) (c_X4_setToNext G l fu _ _ _ _ _ h44) (va_cwS 2 C.ts gX5_worst_X4_setToNext rfl rfl rfl nyS_X4_setToNext ⟨Nat.le_of_ble_eq_true rfl, Nat.le_of_ble_eq_true rfl⟩) rfl rfl (Nat.le_of_ble_eq_true rfl) dX5_worst_92 ⟨Nat.le_of_ble_eq_true rfl, Nat.le_of_ble_eq_true rfl⟩ (fun H locs I => ?_)
      obtain ⟨x46, e47, hf⟩ := nmx_e hf
      refine kx_iinc 95 C (lv' := [(5, .int (iI x46)), (0, .ref (xB G + p0)), (1, .int (iI i0)), (2, .int (iI i1)), (3, .int (iI i2)), (4, .int (iI i3))]) dX5_worst_95 hl 5 rfl e47 (by decide) rfl (fun ls hl => ?_)
      refine kx_goto 98 38 C dX5_worst_98 (by decide) ?_
      exact ih2 _ _ _ _ _ _ _ _ _ _ hf I (lv_sub hl [1, 2, 3, 4, 5, 0] rfl)
set_option maxHeartbeats 4000000 in
set_option maxRecDepth 100000 in
theorem c_X5_worst (G : xG) (l : Launch) (fu : Nat) (S S' : xS) (p0 : Nat) (i0 : Int) (r : Int) (hf : f_X5_worst fu S p0 i0 = some (r, S')) : Met l yX5_worst vsX5_worst rm_X5_worst (va_Pc [.ref (xB G + p0), .int (iI i0)] (xPre G S)) (xQi G r S') 0 0 (xA G) := by
  refine kx_met (ret := (some .int)) RX5 [(0, .ref (xB G + p0)), (1, .int (iI i0))] (by decide) rfl rfl (Nat.le_of_ble_eq_true rfl) rfl (fun p e s m below meth c ls C hin I hl => ?_)
  exact (w_X5_worst C r S' fu).1 S _ _ _ _ _ _ _ _ _ hf I hl
def rm_X5_mended : Room := { frames := 6, cells := 0, slots := 0, locals := 142 }
theorem hin_X5_mended_RX1 : ∀ w ∈ wsX10, w ∈ vsX5_mended := fun w h => inM (inlX1 w h)
theorem hin_X5_mended_RX5 : ∀ w ∈ wsX50, w ∈ vsX5_mended := fun w h => inM (inlX5 w h)
theorem fl_X5_mended_10 : xFl vsX5_mended RX5 10 4 0 := ⟨RX5, TX5, 13, rfl, by decide, hin_X5_mended_RX5, inM mq_1_15, rfl⟩
theorem fl_X5_mended_37 : xFl vsX5_mended RX5 37 4 5 := ⟨RX5, TX5, 13, rfl, by decide, hin_X5_mended_RX5, inM mq_2_3, rfl⟩
theorem fl_X5_mended_69 : xFl vsX5_mended RX5 69 1 0 := ⟨RX1, TX1, 14, rfl, by decide, hin_X5_mended_RX1, inM mq_5_19, rfl⟩
theorem fl_X5_mended_96 : xFl vsX5_mended RX5 96 1 3 := ⟨RX1, TX1, 14, rfl, by decide, hin_X5_mended_RX1, inM mq_8_7, rfl⟩
theorem mw_X5_mended_0 : Cond.fieldLink RX5 201 "BoxRings" "WAYS_OF" "[I" ∈ vsX5_mended := inM mq_10_21
theorem nyS_X5_mended : yX5_mended.cls ≠ "java/lang/invoke/MethodHandle" ∧ yX5_mended.cls ≠ "java/lang/invoke/VarHandle" ∧ (parseMethodDescriptor yX5_mended.desc).map (fun d => d.parameters.length) = some 0 := by decide +kernel
theorem nyV_X5_mended : yX5_mended.cls = RX5 ∧ yX5_mended.cls ≠ "java/lang/invoke/MethodHandle" ∧ yX5_mended.cls ≠ "java/lang/invoke/VarHandle" ∧ (parseMethodDescriptor yX5_mended.desc).map (fun d => d.parameters.length) = some 0 := by decide +kernel
set_option maxHeartbeats 4000000 in
set_option maxRecDepth 100000 in
theorem w_X5_mended {G : xG} {p : Program} {l : Launch} {e : Env} {s : State} {m : MethodId} {args : Array Value} {below : List Frame} {meth : Method} {c : Code} (C : xK G p s m args meth c cX5_mended 5 vsX5_mended RX5 (some .int)) (r : Int) (S' : xS) : ∀ k : Nat,
  (∀ (S : xS) (p0 : Nat) (i0 i1 i2 : Int) (H : Heap) (locs : List Loc) (ls : Array Slot), g_X5_mended k 0 S p0 i0 i1 i2 = some (r, S') → xI G S s H locs → lv_has ls 5 [(0, .ref (xB G + p0))] → W p l e rm_X5_mended s m args below meth c H locs 0 0 (MQ below (xQi G r S') args s 0 0 (xA G)) (F0 m 0 ls [])) ∧
  (∀ (S : xS) (p0 : Nat) (i0 i1 i2 : Int) (H : Heap) (locs : List Loc) (ls : Array Slot), g_X5_mended k 1 S p0 i0 i1 i2 = some (r, S') → xI G S s H locs → lv_has ls 5 [(0, .ref (xB G + p0)), (1, .int (iI i0)), (2, .int (iI i1)), (3, .int (iI i2))] → W p l e rm_X5_mended s m args below meth c H locs 0 0 (MQ below (xQi G r S') args s 0 0 (xA G)) (F0 m 20 ls [])) ∧
  (∀ (S : xS) (p0 : Nat) (i0 i1 i2 : Int) (H : Heap) (locs : List Loc) (ls : Array Slot), g_X5_mended k 2 S p0 i0 i1 i2 = some (r, S') → xI G S s H locs → lv_has ls 5 [(0, .ref (xB G + p0)), (1, .int (iI i0)), (3, .int (iI i1)), (4, .int (iI i2))] → W p l e rm_X5_mended s m args below meth c H locs 0 0 (MQ below (xQi G r S') args s 0 0 (xA G)) (F0 m 68 ls [])) ∧
  (∀ (S : xS) (p0 : Nat) (i0 i1 i2 : Int) (H : Heap) (locs : List Loc) (ls : Array Slot), g_X5_mended k 3 S p0 i0 i1 i2 = some (r, S') → xI G S s H locs → lv_has ls 5 [(0, .ref (xB G + p0)), (1, .int (iI i0)), (2, .int (iI i1)), (3, .int (iI i2))] → W p l e rm_X5_mended s m args below meth c H locs 0 0 (MQ below (xQi G r S') args s 0 0 (xA G)) (F0 m 71 ls [])) := by
  intro k
  induction k with
  | zero => exact ⟨fun _ _ _ _ _ _ _ _ hf => (by cases hf), fun _ _ _ _ _ _ _ _ hf => (by cases hf), fun _ _ _ _ _ _ _ _ hf => (by cases hf), fun _ _ _ _ _ _ _ _ hf => (by cases hf)⟩
  | succ fu ih =>
    obtain ⟨ih0, ih1, ih2, ih3⟩ := ih
    refine ⟨?_, ?_, ?_, ?_⟩
    · intro S p0 i0 i1 i2 H locs ls hf I hl
      replace hf : b_X5_mended_0 (g_X5_mended fu) fu S p0 i0 i1 i2 = some (r, S') := hf
      unfold b_X5_mended_0 at hf
      refine kx_aload_n 0 C dX5_mended_0 (lv_at hl 0 rfl) ?_
      obtain ⟨q2, h1, hf⟩ := ob hf
      refine kx_getp 1 C I fl_X5_mended_10 h1 dX5_mended_1 ?_
      obtain ⟨x4, h3, hf⟩ := ob hf
      refine kx_geti 4 C I fl_X5_mended_69 h3 dX5_mended_4 ?_
      refine kx_istore_n 7 C (lv' := [(1, .int (iI x4)), (0, .ref (xB G + p0))]) dX5_mended_7 hl (by decide) rfl rfl (fun ls hl => ?_)
      refine kx_iconst 8 C dX5_mended_8 ?_
      refine kx_istore_n 9 C (lv' := [(2, .int (iI ((-1)))), (1, .int (iI x4)), (0, .ref (xB G + p0))]) dX5_mended_9 hl (by decide) rfl rfl (fun ls hl => ?_)
      refine kx_aload_n 10 C dX5_mended_10 (lv_at hl 2 rfl) ?_
      obtain ⟨q6, h5, hf⟩ := ob hf
      refine kx_getp 11 C I fl_X5_mended_37 h5 dX5_mended_11 ?_
      refine kx_iload_n 14 C dX5_mended_14 (lv_at hl 1 rfl) ?_
      obtain ⟨z9, S7, h8, hf⟩ := ob2 hf
      refine kx_callSv 15 C hl I (As := [.ref (xB G + q6), .int (iI x4)]) (rest := []) (c_X4_setToFirst G l fu _ _ _ _ _ h8) (va_cwS 2 C.ts gX5_mended_X4_setToFirst rfl rfl rfl nyS_X4_setToFirst ⟨Nat.le_of_ble_eq_true rfl, Nat.le_of_ble_eq_true rfl⟩) rfl rfl (Nat.le_of_ble_eq_true rfl) dX5_mended_15 ⟨Nat.le_of_ble_eq_true rfl, Nat.le_of_ble_eq_true rfl⟩ (fun H locs I => ?_)
      refine kx_iconst 18 C dX5_mended_18 ?_
      refine kx_istore_n 19 C (lv' := [(3, .int (iI 0)), (2, .int (iI ((-1)))), (1, .int (iI x4)), (0, .ref (xB G + p0))]) dX5_mended_19 hl (by decide) rfl rfl (fun ls hl => ?_)
      exact ih1 _ _ _ _ _ _ _ _ hf I (lv_sub hl [3, 2, 1, 0] rfl)
    · intro S p0 i0 i1 i2 H locs ls hf I hl
      replace hf : b_X5_mended_1 (g_X5_mended fu) fu S p0 i0 i1 i2 = some (r, S') := hf
      unfold b_X5_mended_1 at hf
      refine kx_iload_n 20 C dX5_mended_20 (lv_at hl 3 rfl) ?_
      refine kx_gets 21 C I mw_X5_mended_0 dX5_mended_21 ?_
      refine kx_iload_n 24 C dX5_mended_24 (lv_at hl 1 rfl) ?_
      obtain ⟨x10, h11, hf⟩ := ob hf
      refine kx_tab 25 C I h11 dX5_mended_25 ?_
      refine kx_icmp_ge 26 85 C dX5_mended_26 (by decide) (fun c12 => ?_) (fun c12 => ?_)
      · have hf := ifp c12 hf
        refine kx_iload_n 85 C dX5_mended_85 (lv_at hl 2 rfl) ?_
        exact kx_iret 86 C I hf dX5_mended_86
      · have hf := ifn c12 hf
        refine kx_aload_n 29 C dX5_mended_29 (lv_at hl 0 rfl) ?_
        refine kx_aload_n 30 C dX5_mended_30 (lv_at hl 0 rfl) ?_
        obtain ⟨q14, h13, hf⟩ := ob hf
        refine kx_getp 31 C I fl_X5_mended_37 h13 dX5_mended_31 ?_
        obtain ⟨h18, hf⟩ := ift hf
        obtain ⟨x17, S15, h16, hf⟩ := ob2 hf
        refine kx_callVi 34 C hl I (ci := 4) (As := [.ref (xB G + q14)]) (rest := []) (c_X5_doAllFind G l fu _ _ _ _ _ h16) (cwV 1 C.ts gX5_mended_X5_doAllFind rfl rfl rfl nyV_X5_doAllFind ⟨Nat.le_of_ble_eq_true rfl, Nat.le_of_ble_eq_true rfl⟩) rfl h18 rfl rfl (Nat.le_of_ble_eq_true rfl) dX5_mended_34 ⟨Nat.le_of_ble_eq_true rfl, Nat.le_of_ble_eq_true rfl⟩ (fun H locs I => ?_)
        refine kx_if_eq 37 71 C dX5_mended_37 (by decide) (fun c19 => ?_) (fun c19 => ?_)
        · have hf := ifp c19 hf
          exact ih3 _ _ _ _ _ _ _ _ hf I (lv_sub hl [0, 1, 2, 3] rfl)
        · have hf := ifn c19 hf
          refine kx_aload_n 40 C dX5_mended_40 (lv_at hl 0 rfl) ?_
          obtain ⟨q21, h20, hf⟩ := ob hf
          refine kx_getp 41 C I fl_X5_mended_10 h20 dX5_mended_41 ?_
          obtain ⟨q23, h22, hf⟩ := ob hf
          refine kx_getp 44 C I fl_X5_mended_96 h22 dX5_mended_44 ?_
          refine kx_aload_n 47 C dX5_mended_47 (lv_at hl 0 rfl) ?_
          obtain ⟨q25, h24, hf⟩ := ob hf
          refine kx_getp 48 C I fl_X5_mended_37 h24 dX5_mended_48 ?_
          refine kx_iload_n 51 C dX5_mended_51 (lv_at hl 1 rfl) ?_
          obtain ⟨x28, S26, h27, hf⟩ := ob2 hf
          refine kx_callSi 52 C hl I (As := [.ref (xB G + q23), .ref (xB G + q25), .int (iI i0)]) (rest := []) (c_X4_swapsBetween G l fu _ _ _ _ _ _ h27) (va_cwS 3 C.ts gX5_mended_X4_swapsBetween rfl rfl rfl nyS_X4_swapsBetween ⟨Nat.le_of_ble_eq_true rfl, Nat.le_of_ble_eq_true rfl⟩) rfl rfl (Nat.le_of_ble_eq_true rfl) dX5_mended_52 ⟨Nat.le_of_ble_eq_true rfl, Nat.le_of_ble_eq_true rfl⟩ (fun H locs I => ?_)
          refine kx_istore 55 C (lv' := [(4, .int (iI x28)), (0, .ref (xB G + p0)), (1, .int (iI i0)), (2, .int (iI i1)), (3, .int (iI i2))]) dX5_mended_55 hl (by decide) rfl rfl (fun ls hl => ?_)
          refine kx_iload_n 57 C dX5_mended_57 (lv_at hl 3 rfl) ?_
          refine kx_iconst 58 C dX5_mended_58 ?_
          refine kx_icmp_eq 59 68 C dX5_mended_59 (by decide) (fun c29 => ?_) (fun c29 => ?_)
          · have hf := ifp c29 hf
            exact ih2 _ _ _ _ _ _ _ _ hf I (lv_sub hl [1, 2, 4, 0] rfl)
          · have hf := ifn c29 hf
            refine kx_iload 62 C dX5_mended_62 (lv_at hl 0 rfl) ?_
            refine kx_iload_n 64 C dX5_mended_64 (lv_at hl 3 rfl) ?_
            refine kx_icmp_ge 65 71 C dX5_mended_65 (by decide) (fun c30 => ?_) (fun c30 => ?_)
            · have hf := ifp c30 hf
              exact ih3 _ _ _ _ _ _ _ _ hf I (lv_sub hl [1, 2, 3, 4] rfl)
            · have hf := ifn c30 hf
              exact ih2 _ _ _ _ _ _ _ _ hf I (lv_sub hl [1, 2, 4, 0] rfl)
    · intro S p0 i0 i1 i2 H locs ls hf I hl
      replace hf : b_X5_mended_2 (g_X5_mended fu) fu S p0 i0 i1 i2 = some (r, S') := hf
      unfold b_X5_mended_2 at hf
      refine kx_iload 68 C dX5_mended_68 (lv_at hl 3 rfl) ?_
      refine kx_istore_n 70 C (lv' := [(2, .int (iI i2)), (0, .ref (xB G + p0)), (1, .int (iI i0)), (3, .int (iI i1)), (4, .int (iI i2))]) dX5_mended_70 hl (by decide) rfl rfl (fun ls hl => ?_)
      exact ih3 _ _ _ _ _ _ _ _ hf I (lv_sub hl [1, 2, 0, 3] rfl)
    · intro S p0 i0 i1 i2 H locs ls hf I hl
      replace hf : b_X5_mended_3 (g_X5_mended fu) fu S p0 i0 i1 i2 = some (r, S') := hf
      unfold b_X5_mended_3 at hf
      refine kx_aload_n 71 C dX5_mended_71 (lv_at hl 0 rfl) ?_
      obtain ⟨q32, h31, hf⟩ := ob hf
      refine kx_getp 72 C I fl_X5_mended_37 h31 dX5_mended_72 ?_
      refine kx_iload_n 75 C dX5_mended_75 (lv_at hl 1 rfl) ?_
      obtain ⟨z35, S33, h34, hf⟩ := ob2 hf
      refine kx_callSv 76 C hl I (As := [.ref (xB G + q32), .int (iI i0)]) (rest := []) (c_X4_setToNext G l fu _ _ _ _ _ h34) (va_cwS 2 C.ts gX5_mended_X4_setToNext rfl rfl rfl nyS_X4_setToNext ⟨Nat.le_of_ble_eq_true rfl, Nat.le_of_ble_eq_true rfl⟩) rfl rfl (Nat.le_of_ble_eq_true rfl) dX5_mended_76 ⟨Nat.le_of_ble_eq_true rfl, Nat.le_of_ble_eq_true rfl⟩ (fun H locs I => ?_)
      obtain ⟨x36, e37, hf⟩ := nmx_e hf
      refine kx_iinc 79 C (lv' := [(3, .int (iI x36)), (0, .ref (xB G + p0)), (1, .int (iI i0)), (2, .int (iI i1))]) dX5_mended_79 hl 3 rfl e37 (by decide) rfl (fun ls hl => ?_)
      refine kx_goto 82 20 C dX5_mended_82 (by decide) ?_
      exact ih1 _ _ _ _ _ _ _ _ hf I (lv_sub hl [1, 2, 3, 0] rfl)
set_option maxHeartbeats 4000000 in
set_option maxRecDepth 100000 in
theorem c_X5_mended (G : xG) (l : Launch) (fu : Nat) (S S' : xS) (p0 : Nat) (r : Int) (hf : f_X5_mended fu S p0 = some (r, S')) : Met l yX5_mended vsX5_mended rm_X5_mended (va_Pc [.ref (xB G + p0)] (xPre G S)) (xQi G r S') 0 0 (xA G) := by
  refine kx_met (ret := (some .int)) RX5 [(0, .ref (xB G + p0))] (by decide) rfl rfl (Nat.le_of_ble_eq_true rfl) rfl (fun p e s m below meth c ls C hin I hl => ?_)
  exact (w_X5_mended C r S' fu).1 S _ _ _ _ _ _ _ hf I hl
def rm_X5_third : Room := { frames := 5, cells := 0, slots := 0, locals := 121 }
theorem hin_X5_third_RX1 : ∀ w ∈ wsX10, w ∈ vsX5_third := fun w h => inM (inlX1 w h)
theorem hin_X5_third_RX5 : ∀ w ∈ wsX50, w ∈ vsX5_third := fun w h => inM (inlX5 w h)
theorem fl_X5_third_10 : xFl vsX5_third RX5 10 4 0 := ⟨RX5, TX5, 13, rfl, by decide, hin_X5_third_RX5, inM mq_1_15, rfl⟩
theorem fl_X5_third_37 : xFl vsX5_third RX5 37 4 5 := ⟨RX5, TX5, 13, rfl, by decide, hin_X5_third_RX5, inM mq_2_3, rfl⟩
theorem fl_X5_third_69 : xFl vsX5_third RX5 69 1 0 := ⟨RX1, TX1, 14, rfl, by decide, hin_X5_third_RX1, inM mq_5_19, rfl⟩
theorem fl_X5_third_96 : xFl vsX5_third RX5 96 1 3 := ⟨RX1, TX1, 14, rfl, by decide, hin_X5_third_RX1, inM mq_8_7, rfl⟩
theorem mw_X5_third_0 : Cond.methodLink RX5 284 arraycopyName ∈ vsX5_third := inM mq_43_8
theorem mw_X5_third_1 : Cond.native arraycopyName ∈ vsX5_third := inM mq_8_13
theorem mw_X5_third_2 : Cond.static arraycopyName ∈ vsX5_third := inM mq_8_14
theorem mw_X5_third_3 : Cond.initialized "java/lang/System" ∈ vsX5_third := inM mq_8_15
theorem nyS_X5_third : yX5_third.cls ≠ "java/lang/invoke/MethodHandle" ∧ yX5_third.cls ≠ "java/lang/invoke/VarHandle" ∧ (parseMethodDescriptor yX5_third.desc).map (fun d => d.parameters.length) = some 1 := by decide +kernel
theorem nyV_X5_third : yX5_third.cls = RX5 ∧ yX5_third.cls ≠ "java/lang/invoke/MethodHandle" ∧ yX5_third.cls ≠ "java/lang/invoke/VarHandle" ∧ (parseMethodDescriptor yX5_third.desc).map (fun d => d.parameters.length) = some 1 := by decide +kernel
set_option maxHeartbeats 4000000 in
set_option maxRecDepth 100000 in
theorem w_X5_third {G : xG} {p : Program} {l : Launch} {e : Env} {s : State} {m : MethodId} {args : Array Value} {below : List Frame} {meth : Method} {c : Code} (C : xK G p s m args meth c cX5_third 9 vsX5_third RX5 (some .int)) (r : Int) (S' : xS) : ∀ k : Nat,
  (∀ (S : xS) (p0 : Nat) (i0 i1 i2 i3 i4 i5 : Int) (H : Heap) (locs : List Loc) (ls : Array Slot), g_X5_third k 0 S p0 i0 i1 i2 i3 i4 i5 = some (r, S') → xI G S s H locs → lv_has ls 9 [(0, .ref (xB G + p0)), (1, .int (iI i0))] → W p l e rm_X5_third s m args below meth c H locs 0 0 (MQ below (xQi G r S') args s 0 0 (xA G)) (F0 m 0 ls [])) ∧
  (∀ (S : xS) (p0 : Nat) (i0 i1 i2 i3 i4 i5 : Int) (H : Heap) (locs : List Loc) (ls : Array Slot), g_X5_third k 1 S p0 i0 i1 i2 i3 i4 i5 = some (r, S') → xI G S s H locs → lv_has ls 9 [(0, .ref (xB G + p0)), (1, .int (iI i0))] → W p l e rm_X5_third s m args below meth c H locs 0 0 (MQ below (xQi G r S') args s 0 0 (xA G)) (F0 m 14 ls [])) ∧
  (∀ (S : xS) (p0 : Nat) (i0 i1 i2 i3 i4 i5 : Int) (H : Heap) (locs : List Loc) (ls : Array Slot), g_X5_third k 2 S p0 i0 i1 i2 i3 i4 i5 = some (r, S') → xI G S s H locs → lv_has ls 9 [(0, .ref (xB G + p0))] → W p l e rm_X5_third s m args below meth c H locs 0 0 (MQ below (xQi G r S') args s 0 0 (xA G)) (F0 m 23 ls [.int (iI i0)])) ∧
  (∀ (S : xS) (p0 : Nat) (i0 i1 i2 i3 i4 i5 : Int) (H : Heap) (locs : List Loc) (ls : Array Slot), g_X5_third k 3 S p0 i0 i1 i2 i3 i4 i5 = some (r, S') → xI G S s H locs → lv_has ls 9 [(0, .ref (xB G + p0)), (2, .int (iI i0)), (3, .int (iI i1)), (4, .int (iI i2)), (5, .int (iI i3)), (6, .int (iI i4))] → W p l e rm_X5_third s m args below meth c H locs 0 0 (MQ below (xQi G r S') args s 0 0 (xA G)) (F0 m 74 ls [])) ∧
  (∀ (S : xS) (p0 : Nat) (i0 i1 i2 i3 i4 i5 : Int) (H : Heap) (locs : List Loc) (ls : Array Slot), g_X5_third k 4 S p0 i0 i1 i2 i3 i4 i5 = some (r, S') → xI G S s H locs → lv_has ls 9 [(0, .ref (xB G + p0)), (2, .int (iI i0)), (3, .int (iI i1)), (4, .int (iI i2)), (5, .int (iI i3)), (6, .int (iI i4)), (7, .int (iI i5))] → W p l e rm_X5_third s m args below meth c H locs 0 0 (MQ below (xQi G r S') args s 0 0 (xA G)) (F0 m 86 ls [])) ∧
  (∀ (S : xS) (p0 : Nat) (i0 i1 i2 i3 i4 i5 : Int) (H : Heap) (locs : List Loc) (ls : Array Slot), g_X5_third k 5 S p0 i0 i1 i2 i3 i4 i5 = some (r, S') → xI G S s H locs → lv_has ls 9 [(0, .ref (xB G + p0)), (2, .int (iI i0)), (3, .int (iI i1)), (4, .int (iI i2)), (5, .int (iI i3)), (6, .int (iI i4)), (7, .int (iI i5))] → W p l e rm_X5_third s m args below meth c H locs 0 0 (MQ below (xQi G r S') args s 0 0 (xA G)) (F0 m 150 ls [])) := by
  intro k
  induction k with
  | zero => exact ⟨fun _ _ _ _ _ _ _ _ _ _ _ hf => (by cases hf), fun _ _ _ _ _ _ _ _ _ _ _ hf => (by cases hf), fun _ _ _ _ _ _ _ _ _ _ _ hf => (by cases hf), fun _ _ _ _ _ _ _ _ _ _ _ hf => (by cases hf), fun _ _ _ _ _ _ _ _ _ _ _ hf => (by cases hf), fun _ _ _ _ _ _ _ _ _ _ _ hf => (by cases hf)⟩
  | succ fu ih =>
    obtain ⟨ih0, ih1, ih2, ih3, ih4, ih5⟩ := ih
    refine ⟨?_, ?_, ?_, ?_, ?_, ?_⟩
    · intro S p0 i0 i1 i2 i3 i4 i5 H locs ls hf I hl
      replace hf : b_X5_third_0 (g_X5_third fu) fu S p0 i0 i1 i2 i3 i4 i5 = some (r, S') := hf
      unfold b_X5_third_0 at hf
      refine kx_iload_n 0 C dX5_third_0 (lv_at hl 1 rfl) ?_
      refine kx_if_eq 1 14 C dX5_third_1 (by decide) (fun c1 => ?_) (fun c1 => ?_)
      · have hf := ifp c1 hf
        exact ih1 _ _ _ _ _ _ _ _ _ _ _ hf I (lv_sub hl [0, 1] rfl)
      · have hf := ifn c1 hf
        refine kx_iload_n 4 C dX5_third_4 (lv_at hl 1 rfl) ?_
        refine kx_iconst 5 C dX5_third_5 ?_
        refine kx_icmp_eq 6 14 C dX5_third_6 (by decide) (fun c2 => ?_) (fun c2 => ?_)
        · have hf := ifp c2 hf
          exact ih1 _ _ _ _ _ _ _ _ _ _ _ hf I (lv_sub hl [0, 1] rfl)
        · have hf := ifn c2 hf
          refine kx_aload_n 9 C dX5_third_9 (lv_at hl 0 rfl) ?_
          obtain ⟨h6, hf⟩ := ift hf
          obtain ⟨x5, S3, h4, hf⟩ := ob2 hf
          refine kx_callVi 10 C hl I (ci := 4) (As := []) (rest := []) (c_X5_refuseBad G l fu _ _ _ _ h4) (cwV 0 C.ts gX5_third_X5_refuseBad rfl rfl rfl nyV_X5_refuseBad ⟨Nat.le_of_ble_eq_true rfl, Nat.le_of_ble_eq_true rfl⟩) rfl h6 rfl rfl (Nat.le_of_ble_eq_true rfl) dX5_third_10 ⟨Nat.le_of_ble_eq_true rfl, Nat.le_of_ble_eq_true rfl⟩ (fun H locs I => ?_)
          exact kx_iret 13 C I hf dX5_third_13
    · intro S p0 i0 i1 i2 i3 i4 i5 H locs ls hf I hl
      replace hf : b_X5_third_1 (g_X5_third fu) fu S p0 i0 i1 i2 i3 i4 i5 = some (r, S') := hf
      unfold b_X5_third_1 at hf
      refine kx_iload_n 14 C dX5_third_14 (lv_at hl 1 rfl) ?_
      refine kx_if_ne 15 22 C dX5_third_15 (by decide) (fun c7 => ?_) (fun c7 => ?_)
      · have hf := ifn c7 hf
        refine kx_iconst 22 C dX5_third_22 ?_
        exact ih2 _ _ _ _ _ _ _ _ _ _ _ hf I (lv_sub hl [0] rfl)
      · have hf := ifp c7 hf
        refine kx_iconst 18 C dX5_third_18 ?_
        refine kx_goto 19 23 C dX5_third_19 (by decide) ?_
        exact ih2 _ _ _ _ _ _ _ _ _ _ _ hf I (lv_sub hl [0] rfl)
    · intro S p0 i0 i1 i2 i3 i4 i5 H locs ls hf I hl
      replace hf : b_X5_third_2 (g_X5_third fu) fu S p0 i0 i1 i2 i3 i4 i5 = some (r, S') := hf
      unfold b_X5_third_2 at hf
      refine kx_istore_n 23 C (lv' := [(2, .int (iI i0)), (0, .ref (xB G + p0))]) dX5_third_23 hl (by decide) rfl rfl (fun ls hl => ?_)
      refine kx_aload_n 24 C dX5_third_24 (lv_at hl 1 rfl) ?_
      obtain ⟨q9, h8, hf⟩ := ob hf
      refine kx_getp 25 C I fl_X5_third_10 h8 dX5_third_25 ?_
      obtain ⟨x11, h10, hf⟩ := ob hf
      refine kx_geti 28 C I fl_X5_third_69 h10 dX5_third_28 ?_
      refine kx_istore_n 31 C (lv' := [(3, .int (iI x11)), (2, .int (iI i0)), (0, .ref (xB G + p0))]) dX5_third_31 hl (by decide) rfl rfl (fun ls hl => ?_)
      refine kx_iload_n 32 C dX5_third_32 (lv_at hl 1 rfl) ?_
      refine kx_aload_n 33 C dX5_third_33 (lv_at hl 2 rfl) ?_
      refine kx_aload_n 34 C dX5_third_34 (lv_at hl 2 rfl) ?_
      obtain ⟨q13, h12, hf⟩ := ob hf
      refine kx_getp 35 C I fl_X5_third_10 h12 dX5_third_35 ?_
      obtain ⟨q15, h14, hf⟩ := ob hf
      refine kx_getp 38 C I fl_X5_third_96 h14 dX5_third_38 ?_
      obtain ⟨h19, hf⟩ := ift hf
      obtain ⟨x18, S16, h17, hf⟩ := ob2 hf
      refine kx_callVi 41 C hl I (ci := 4) (As := [.ref (xB G + q15)]) (rest := [.int (iI i0)]) (c_X5_findersIn G l fu _ _ _ _ _ h17) (cwV 1 C.ts gX5_third_X5_findersIn rfl rfl rfl nyV_X5_findersIn ⟨Nat.le_of_ble_eq_true rfl, Nat.le_of_ble_eq_true rfl⟩) rfl h19 rfl rfl (Nat.le_of_ble_eq_true rfl) dX5_third_41 ⟨Nat.le_of_ble_eq_true rfl, Nat.le_of_ble_eq_true rfl⟩ (fun H locs I => ?_)
      obtain ⟨x22, S20, h21, hf⟩ := ob2 hf
      refine kx_callSi 44 C hl I (As := [.int (iI x18)]) (rest := [.int (iI i0)]) (c_J6_bitCount_0f7a4 G l fu _ _ _ _ h21) (va_cwS 1 C.ts gX5_third_J6_bitCount_0f7a4 rfl rfl rfl nyS_J6_bitCount_0f7a4 ⟨Nat.le_of_ble_eq_true rfl, Nat.le_of_ble_eq_true rfl⟩) rfl rfl (Nat.le_of_ble_eq_true rfl) dX5_third_44 ⟨Nat.le_of_ble_eq_true rfl, Nat.le_of_ble_eq_true rfl⟩ (fun H locs I => ?_)
      refine kx_imul 47 C dX5_third_47 ?_
      obtain ⟨x23, e24, hf⟩ := nmx_e hf
      refine kx_istore 48 C (lv' := [(4, .int (iI x23)), (3, .int (iI x11)), (2, .int (iI i0)), (0, .ref (xB G + p0))]) dX5_third_48 hl (by decide) e24 rfl (fun ls hl => ?_)
      refine kx_iconst 50 C dX5_third_50 ?_
      refine kx_istore 51 C (lv' := [(5, .int (iI ((-1)))), (4, .int (iI x23)), (3, .int (iI x11)), (2, .int (iI i0)), (0, .ref (xB G + p0))]) dX5_third_51 hl (by decide) rfl rfl (fun ls hl => ?_)
      refine kx_aload_n 53 C dX5_third_53 (lv_at hl 4 rfl) ?_
      obtain ⟨q26, h25, hf⟩ := ob hf
      refine kx_getp 54 C I fl_X5_third_10 h25 dX5_third_54 ?_
      obtain ⟨q28, h27, hf⟩ := ob hf
      refine kx_getp 57 C I fl_X5_third_96 h27 dX5_third_57 ?_
      refine kx_iconst 60 C dX5_third_60 ?_
      refine kx_aload_n 61 C dX5_third_61 (lv_at hl 4 rfl) ?_
      obtain ⟨q30, h29, hf⟩ := ob hf
      refine kx_getp 62 C I fl_X5_third_37 h29 dX5_third_62 ?_
      refine kx_iconst 65 C dX5_third_65 ?_
      refine kx_bipush 66 C dX5_third_66 (by decide) ?_
      obtain ⟨S32, h31, hf⟩ := ob hf
      refine kx_cpy 68 C hl I mw_X5_third_0 mw_X5_third_1 mw_X5_third_2 mw_X5_third_3 h31 ⟨Nat.le_of_ble_eq_true rfl, Nat.le_of_ble_eq_true rfl⟩ dX5_third_68 (fun H locs I => ?_)
      refine kx_iconst 71 C dX5_third_71 ?_
      refine kx_istore 72 C (lv' := [(6, .int (iI 0)), (5, .int (iI ((-1)))), (4, .int (iI x23)), (3, .int (iI x11)), (2, .int (iI i0)), (0, .ref (xB G + p0))]) dX5_third_72 hl (by decide) rfl rfl (fun ls hl => ?_)
      exact ih3 _ _ _ _ _ _ _ _ _ _ _ hf I (lv_sub hl [5, 4, 3, 2, 1, 0] rfl)
    · intro S p0 i0 i1 i2 i3 i4 i5 H locs ls hf I hl
      replace hf : b_X5_third_3 (g_X5_third fu) fu S p0 i0 i1 i2 i3 i4 i5 = some (r, S') := hf
      unfold b_X5_third_3 at hf
      refine kx_iload 74 C dX5_third_74 (lv_at hl 5 rfl) ?_
      refine kx_iload_n 76 C dX5_third_76 (lv_at hl 2 rfl) ?_
      refine kx_icmp_ge 77 162 C dX5_third_77 (by decide) (fun c33 => ?_) (fun c33 => ?_)
      · have hf := ifp c33 hf
        refine kx_iload 162 C dX5_third_162 (lv_at hl 4 rfl) ?_
        exact kx_iret 164 C I hf dX5_third_164
      · have hf := ifn c33 hf
        refine kx_iload 80 C dX5_third_80 (lv_at hl 5 rfl) ?_
        refine kx_iconst 82 C dX5_third_82 ?_
        refine kx_iadd 83 C dX5_third_83 ?_
        obtain ⟨x34, e35, hf⟩ := nmx_e hf
        refine kx_istore 84 C (lv' := [(7, .int (iI x34)), (0, .ref (xB G + p0)), (2, .int (iI i0)), (3, .int (iI i1)), (4, .int (iI i2)), (5, .int (iI i3)), (6, .int (iI i4))]) dX5_third_84 hl (by decide) e35 rfl (fun ls hl => ?_)
        exact ih4 _ _ _ _ _ _ _ _ _ _ _ hf I (lv_sub hl [1, 2, 3, 4, 5, 6, 0] rfl)
    · intro S p0 i0 i1 i2 i3 i4 i5 H locs ls hf I hl
      replace hf : b_X5_third_4 (g_X5_third fu) fu S p0 i0 i1 i2 i3 i4 i5 = some (r, S') := hf
      unfold b_X5_third_4 at hf
      refine kx_iload 86 C dX5_third_86 (lv_at hl 6 rfl) ?_
      refine kx_iload_n 88 C dX5_third_88 (lv_at hl 2 rfl) ?_
      refine kx_icmp_ge 89 156 C dX5_third_89 (by decide) (fun c36 => ?_) (fun c36 => ?_)
      · have hf := ifp c36 hf
        obtain ⟨x37, e38, hf⟩ := nmx_e hf
        refine kx_iinc 156 C (lv' := [(6, .int (iI x37)), (0, .ref (xB G + p0)), (2, .int (iI i0)), (3, .int (iI i1)), (4, .int (iI i2)), (5, .int (iI i3)), (7, .int (iI i5))]) dX5_third_156 hl 5 rfl e38 (by decide) rfl (fun ls hl => ?_)
        refine kx_goto 159 74 C dX5_third_159 (by decide) ?_
        exact ih3 _ _ _ _ _ _ _ _ _ _ _ hf I (lv_sub hl [1, 2, 3, 4, 5, 0] rfl)
      · have hf := ifn c36 hf
        refine kx_aload_n 92 C dX5_third_92 (lv_at hl 0 rfl) ?_
        obtain ⟨q40, h39, hf⟩ := ob hf
        refine kx_getp 93 C I fl_X5_third_37 h39 dX5_third_93 ?_
        refine kx_iload 96 C dX5_third_96 (lv_at hl 5 rfl) ?_
        refine kx_iload 98 C dX5_third_98 (lv_at hl 6 rfl) ?_
        obtain ⟨z43, S41, h42, hf⟩ := ob2 hf
        refine kx_callSv 100 C hl I (As := [.ref (xB G + q40), .int (iI i4), .int (iI i5)]) (rest := []) (c_X4_exchange G l fu _ _ _ _ _ _ h42) (va_cwS 3 C.ts gX5_third_X4_exchange rfl rfl rfl nyS_X4_exchange ⟨Nat.le_of_ble_eq_true rfl, Nat.le_of_ble_eq_true rfl⟩) rfl rfl (Nat.le_of_ble_eq_true rfl) dX5_third_100 ⟨Nat.le_of_ble_eq_true rfl, Nat.le_of_ble_eq_true rfl⟩ (fun H locs I => ?_)
        refine kx_iload_n 103 C dX5_third_103 (lv_at hl 1 rfl) ?_
        refine kx_aload_n 104 C dX5_third_104 (lv_at hl 0 rfl) ?_
        refine kx_aload_n 105 C dX5_third_105 (lv_at hl 0 rfl) ?_
        obtain ⟨q45, h44, hf⟩ := ob hf
        refine kx_getp 106 C I fl_X5_third_37 h44 dX5_third_106 ?_
        obtain ⟨h49, hf⟩ := ift hf
        obtain ⟨x48, S46, h47, hf⟩ := ob2 hf
        refine kx_callVi 109 C hl I (ci := 4) (As := [.ref (xB G + q45)]) (rest := [.int (iI i0)]) (c_X5_findersIn G l fu _ _ _ _ _ h47) (cwV 1 C.ts gX5_third_X5_findersIn rfl rfl rfl nyV_X5_findersIn ⟨Nat.le_of_ble_eq_true rfl, Nat.le_of_ble_eq_true rfl⟩) rfl h49 rfl rfl (Nat.le_of_ble_eq_true rfl) dX5_third_109 ⟨Nat.le_of_ble_eq_true rfl, Nat.le_of_ble_eq_true rfl⟩ (fun H locs I => ?_)
        obtain ⟨x52, S50, h51, hf⟩ := ob2 hf
        refine kx_callSi 112 C hl I (As := [.int (iI x48)]) (rest := [.int (iI i0)]) (c_J6_bitCount_0f7a4 G l fu _ _ _ _ h51) (va_cwS 1 C.ts gX5_third_J6_bitCount_0f7a4 rfl rfl rfl nyS_J6_bitCount_0f7a4 ⟨Nat.le_of_ble_eq_true rfl, Nat.le_of_ble_eq_true rfl⟩) rfl rfl (Nat.le_of_ble_eq_true rfl) dX5_third_112 ⟨Nat.le_of_ble_eq_true rfl, Nat.le_of_ble_eq_true rfl⟩ (fun H locs I => ?_)
        refine kx_imul 115 C dX5_third_115 ?_
        obtain ⟨x53, e54, hf⟩ := nmx_e hf
        refine kx_istore 116 C (lv' := [(8, .int (iI x53)), (0, .ref (xB G + p0)), (2, .int (iI i0)), (3, .int (iI i1)), (4, .int (iI i2)), (5, .int (iI i3)), (6, .int (iI i4)), (7, .int (iI i5))]) dX5_third_116 hl (by decide) e54 rfl (fun ls hl => ?_)
        refine kx_aload_n 118 C dX5_third_118 (lv_at hl 1 rfl) ?_
        obtain ⟨q56, h55, hf⟩ := ob hf
        refine kx_getp 119 C I fl_X5_third_37 h55 dX5_third_119 ?_
        refine kx_iload 122 C dX5_third_122 (lv_at hl 6 rfl) ?_
        refine kx_iload 124 C dX5_third_124 (lv_at hl 7 rfl) ?_
        obtain ⟨z59, S57, h58, hf⟩ := ob2 hf
        refine kx_callSv 126 C hl I (As := [.ref (xB G + q56), .int (iI i4), .int (iI i5)]) (rest := []) (c_X4_exchange G l fu _ _ _ _ _ _ h58) (va_cwS 3 C.ts gX5_third_X4_exchange rfl rfl rfl nyS_X4_exchange ⟨Nat.le_of_ble_eq_true rfl, Nat.le_of_ble_eq_true rfl⟩) rfl rfl (Nat.le_of_ble_eq_true rfl) dX5_third_126 ⟨Nat.le_of_ble_eq_true rfl, Nat.le_of_ble_eq_true rfl⟩ (fun H locs I => ?_)
        refine kx_iload 129 C dX5_third_129 (lv_at hl 0 rfl) ?_
        refine kx_iload 131 C dX5_third_131 (lv_at hl 4 rfl) ?_
        refine kx_icmp_le 133 150 C dX5_third_133 (by decide) (fun c60 => ?_) (fun c60 => ?_)
        · have hf := ifp c60 hf
          exact ih5 _ _ _ _ _ _ _ _ _ _ _ hf I (lv_sub hl [1, 2, 3, 4, 5, 6, 7] rfl)
        · have hf := ifn c60 hf
          refine kx_iload 136 C dX5_third_136 (lv_at hl 0 rfl) ?_
          refine kx_istore 138 C (lv' := [(4, .int (iI x53)), (8, .int (iI x53)), (0, .ref (xB G + p0)), (2, .int (iI i0)), (3, .int (iI i1)), (5, .int (iI i3)), (6, .int (iI i4)), (7, .int (iI i5))]) dX5_third_138 hl (by decide) rfl rfl (fun ls hl => ?_)
          refine kx_bipush 140 C dX5_third_140 (by decide) ?_
          refine kx_iload 142 C dX5_third_142 (lv_at hl 6 rfl) ?_
          refine kx_imul 144 C dX5_third_144 ?_
          refine kx_iload 145 C dX5_third_145 (lv_at hl 7 rfl) ?_
          refine kx_iadd 147 C dX5_third_147 ?_
          obtain ⟨x61, e62, hf⟩ := nmx_e hf
          refine kx_istore 148 C (lv' := [(5, .int (iI x61)), (4, .int (iI x53)), (8, .int (iI x53)), (0, .ref (xB G + p0)), (2, .int (iI i0)), (3, .int (iI i1)), (6, .int (iI i4)), (7, .int (iI i5))]) dX5_third_148 hl (by decide) e62 rfl (fun ls hl => ?_)
          exact ih5 _ _ _ _ _ _ _ _ _ _ _ hf I (lv_sub hl [3, 4, 5, 1, 0, 6, 7] rfl)
    · intro S p0 i0 i1 i2 i3 i4 i5 H locs ls hf I hl
      replace hf : b_X5_third_5 (g_X5_third fu) fu S p0 i0 i1 i2 i3 i4 i5 = some (r, S') := hf
      unfold b_X5_third_5 at hf
      obtain ⟨x63, e64, hf⟩ := nmx_e hf
      refine kx_iinc 150 C (lv' := [(7, .int (iI x63)), (0, .ref (xB G + p0)), (2, .int (iI i0)), (3, .int (iI i1)), (4, .int (iI i2)), (5, .int (iI i3)), (6, .int (iI i4))]) dX5_third_150 hl 6 rfl e64 (by decide) rfl (fun ls hl => ?_)
      refine kx_goto 153 86 C dX5_third_153 (by decide) ?_
      exact ih4 _ _ _ _ _ _ _ _ _ _ _ hf I (lv_sub hl [1, 2, 3, 4, 5, 6, 0] rfl)
set_option maxHeartbeats 4000000 in
set_option maxRecDepth 100000 in
theorem c_X5_third (G : xG) (l : Launch) (fu : Nat) (S S' : xS) (p0 : Nat) (i0 : Int) (r : Int) (hf : f_X5_third fu S p0 i0 = some (r, S')) : Met l yX5_third vsX5_third rm_X5_third (va_Pc [.ref (xB G + p0), .int (iI i0)] (xPre G S)) (xQi G r S') 0 0 (xA G) := by
  refine kx_met (ret := (some .int)) RX5 [(0, .ref (xB G + p0)), (1, .int (iI i0))] (by decide) rfl rfl (Nat.le_of_ble_eq_true rfl) rfl (fun p e s m below meth c ls C hin I hl => ?_)
  exact (w_X5_third C r S' fu).1 S _ _ _ _ _ _ _ _ _ _ hf I hl
def rm_X5_laid : Room := { frames := 2, cells := 0, slots := 0, locals := 48 }
theorem hin_X5_laid_RX1 : ∀ w ∈ wsX10, w ∈ vsX5_laid := fun w h => inM (inlX1 w h)
theorem hin_X5_laid_RX5 : ∀ w ∈ wsX50, w ∈ vsX5_laid := fun w h => inM (inlX5 w h)
theorem fl_X5_laid_10 : xFl vsX5_laid RX5 10 4 0 := ⟨RX5, TX5, 13, rfl, by decide, hin_X5_laid_RX5, inM mq_1_15, rfl⟩
theorem fl_X5_laid_37 : xFl vsX5_laid RX5 37 4 5 := ⟨RX5, TX5, 13, rfl, by decide, hin_X5_laid_RX5, inM mq_2_3, rfl⟩
theorem fl_X5_laid_69 : xFl vsX5_laid RX5 69 1 0 := ⟨RX1, TX1, 14, rfl, by decide, hin_X5_laid_RX1, inM mq_5_19, rfl⟩
theorem mw_X5_laid_0 : Cond.constant RX5 290 (999999) ∈ vsX5_laid := inM mq_43_17
theorem nyS_X5_laid : yX5_laid.cls ≠ "java/lang/invoke/MethodHandle" ∧ yX5_laid.cls ≠ "java/lang/invoke/VarHandle" ∧ (parseMethodDescriptor yX5_laid.desc).map (fun d => d.parameters.length) = some 1 := by decide +kernel
theorem nyV_X5_laid : yX5_laid.cls = RX5 ∧ yX5_laid.cls ≠ "java/lang/invoke/MethodHandle" ∧ yX5_laid.cls ≠ "java/lang/invoke/VarHandle" ∧ (parseMethodDescriptor yX5_laid.desc).map (fun d => d.parameters.length) = some 1 := by decide +kernel
set_option maxHeartbeats 4000000 in
set_option maxRecDepth 100000 in
theorem w_X5_laid {G : xG} {p : Program} {l : Launch} {e : Env} {s : State} {m : MethodId} {args : Array Value} {below : List Frame} {meth : Method} {c : Code} (C : xK G p s m args meth c cX5_laid 2 vsX5_laid RX5 (some .int)) (r : Int) (S' : xS) : ∀ k : Nat,
  (∀ (S : xS) (p0 : Nat) (i0 : Int) (H : Heap) (locs : List Loc) (ls : Array Slot), g_X5_laid k 0 S p0 i0 = some (r, S') → xI G S s H locs → lv_has ls 2 [(0, .ref (xB G + p0)), (1, .int (iI i0))] → W p l e rm_X5_laid s m args below meth c H locs 0 0 (MQ below (xQi G r S') args s 0 0 (xA G)) (F0 m 0 ls [])) ∧
  (∀ (S : xS) (p0 : Nat) (i0 : Int) (H : Heap) (locs : List Loc) (ls : Array Slot), g_X5_laid k 1 S p0 i0 = some (r, S') → xI G S s H locs → lv_has ls 2 [(0, .ref (xB G + p0))] → W p l e rm_X5_laid s m args below meth c H locs 0 0 (MQ below (xQi G r S') args s 0 0 (xA G)) (F0 m 11 ls [])) := by
  intro k
  induction k with
  | zero => exact ⟨fun _ _ _ _ _ _ hf => (by cases hf), fun _ _ _ _ _ _ hf => (by cases hf)⟩
  | succ fu ih =>
    obtain ⟨ih0, ih1⟩ := ih
    refine ⟨?_, ?_⟩
    · intro S p0 i0 H locs ls hf I hl
      replace hf : b_X5_laid_0 (g_X5_laid fu) fu S p0 i0 = some (r, S') := hf
      unfold b_X5_laid_0 at hf
      refine kx_iload_n 0 C dX5_laid_0 (lv_at hl 1 rfl) ?_
      refine kx_if_lt 1 11 C dX5_laid_1 (by decide) (fun c1 => ?_) (fun c1 => ?_)
      · have hf := ifp c1 hf
        exact ih1 _ _ _ _ _ _ hf I (lv_sub hl [0] rfl)
      · have hf := ifn c1 hf
        refine kx_iload_n 4 C dX5_laid_4 (lv_at hl 1 rfl) ?_
        refine kx_ldcw 5 C (z := 999999) mw_X5_laid_0 dX5_laid_5 (by decide) ?_
        refine kx_icmp_le 8 16 C dX5_laid_8 (by decide) (fun c2 => ?_) (fun c2 => ?_)
        · have hf := ifp c2 hf
          refine kx_aload_n 16 C dX5_laid_16 (lv_at hl 0 rfl) ?_
          obtain ⟨q4, h3, hf⟩ := ob hf
          refine kx_getp 17 C I fl_X5_laid_37 h3 dX5_laid_17 ?_
          refine kx_aload_n 20 C dX5_laid_20 (lv_at hl 0 rfl) ?_
          obtain ⟨q6, h5, hf⟩ := ob hf
          refine kx_getp 21 C I fl_X5_laid_10 h5 dX5_laid_21 ?_
          obtain ⟨x8, h7, hf⟩ := ob hf
          refine kx_geti 24 C I fl_X5_laid_69 h7 dX5_laid_24 ?_
          refine kx_iload_n 27 C dX5_laid_27 (lv_at hl 1 rfl) ?_
          obtain ⟨z11, S9, h10, hf⟩ := ob2 hf
          refine kx_callSv 28 C hl I (As := [.ref (xB G + q4), .int (iI x8), .int (iI i0)]) (rest := []) (c_X4_setBySeed G l fu _ _ _ _ _ _ h10) (va_cwS 3 C.ts gX5_laid_X4_setBySeed rfl rfl rfl nyS_X4_setBySeed ⟨Nat.le_of_ble_eq_true rfl, Nat.le_of_ble_eq_true rfl⟩) rfl rfl (Nat.le_of_ble_eq_true rfl) dX5_laid_28 ⟨Nat.le_of_ble_eq_true rfl, Nat.le_of_ble_eq_true rfl⟩ (fun H locs I => ?_)
          refine kx_aload_n 31 C dX5_laid_31 (lv_at hl 0 rfl) ?_
          obtain ⟨q13, h12, hf⟩ := ob hf
          refine kx_getp 32 C I fl_X5_laid_37 h12 dX5_laid_32 ?_
          refine kx_aload_n 35 C dX5_laid_35 (lv_at hl 0 rfl) ?_
          obtain ⟨q15, h14, hf⟩ := ob hf
          refine kx_getp 36 C I fl_X5_laid_10 h14 dX5_laid_36 ?_
          obtain ⟨x17, h16, hf⟩ := ob hf
          refine kx_geti 39 C I fl_X5_laid_69 h16 dX5_laid_39 ?_
          obtain ⟨x20, S18, h19, hf⟩ := ob2 hf
          refine kx_callSi 42 C hl I (As := [.ref (xB G + q13), .int (iI x17)]) (rest := []) (c_X4_rankOf G l fu _ _ _ _ _ h19) (va_cwS 2 C.ts gX5_laid_X4_rankOf rfl rfl rfl nyS_X4_rankOf ⟨Nat.le_of_ble_eq_true rfl, Nat.le_of_ble_eq_true rfl⟩) rfl rfl (Nat.le_of_ble_eq_true rfl) dX5_laid_42 ⟨Nat.le_of_ble_eq_true rfl, Nat.le_of_ble_eq_true rfl⟩ (fun H locs I => ?_)
          exact kx_iret 45 C I hf dX5_laid_45
        · have hf := ifn c2 hf
          exact ih1 _ _ _ _ _ _ hf I (lv_sub hl [0] rfl)
    · intro S p0 i0 H locs ls hf I hl
      replace hf : b_X5_laid_1 (g_X5_laid fu) fu S p0 i0 = some (r, S') := hf
      unfold b_X5_laid_1 at hf
      refine kx_aload_n 11 C dX5_laid_11 (lv_at hl 0 rfl) ?_
      obtain ⟨h24, hf⟩ := ift hf
      obtain ⟨x23, S21, h22, hf⟩ := ob2 hf
      refine kx_callVi 12 C hl I (ci := 4) (As := []) (rest := []) (c_X5_refuseBad G l fu _ _ _ _ h22) (cwV 0 C.ts gX5_laid_X5_refuseBad rfl rfl rfl nyV_X5_refuseBad ⟨Nat.le_of_ble_eq_true rfl, Nat.le_of_ble_eq_true rfl⟩) rfl h24 rfl rfl (Nat.le_of_ble_eq_true rfl) dX5_laid_12 ⟨Nat.le_of_ble_eq_true rfl, Nat.le_of_ble_eq_true rfl⟩ (fun H locs I => ?_)
      exact kx_iret 15 C I hf dX5_laid_15
set_option maxHeartbeats 4000000 in
set_option maxRecDepth 100000 in
theorem c_X5_laid (G : xG) (l : Launch) (fu : Nat) (S S' : xS) (p0 : Nat) (i0 : Int) (r : Int) (hf : f_X5_laid fu S p0 i0 = some (r, S')) : Met l yX5_laid vsX5_laid rm_X5_laid (va_Pc [.ref (xB G + p0), .int (iI i0)] (xPre G S)) (xQi G r S') 0 0 (xA G) := by
  refine kx_met (ret := (some .int)) RX5 [(0, .ref (xB G + p0)), (1, .int (iI i0))] (by decide) rfl rfl (Nat.le_of_ble_eq_true rfl) rfl (fun p e s m below meth c ls C hin I hl => ?_)
  exact (w_X5_laid C r S' fu).1 S _ _ _ _ _ hf I hl
def rm_X5_lucky : Room := { frames := 6, cells := 0, slots := 0, locals := 142 }
theorem hin_X5_lucky_RX1 : ∀ w ∈ wsX10, w ∈ vsX5_lucky := fun w h => inM (inlX1 w h)
theorem hin_X5_lucky_RX5 : ∀ w ∈ wsX50, w ∈ vsX5_lucky := fun w h => inM (inlX5 w h)
theorem fl_X5_lucky_10 : xFl vsX5_lucky RX5 10 4 0 := ⟨RX5, TX5, 13, rfl, by decide, hin_X5_lucky_RX5, inM mq_1_15, rfl⟩
theorem fl_X5_lucky_37 : xFl vsX5_lucky RX5 37 4 5 := ⟨RX5, TX5, 13, rfl, by decide, hin_X5_lucky_RX5, inM mq_2_3, rfl⟩
theorem fl_X5_lucky_69 : xFl vsX5_lucky RX5 69 1 0 := ⟨RX1, TX1, 14, rfl, by decide, hin_X5_lucky_RX1, inM mq_5_19, rfl⟩
theorem mw_X5_lucky_0 : Cond.constant RX5 290 (999999) ∈ vsX5_lucky := inM mq_43_17
theorem nyS_X5_lucky : yX5_lucky.cls ≠ "java/lang/invoke/MethodHandle" ∧ yX5_lucky.cls ≠ "java/lang/invoke/VarHandle" ∧ (parseMethodDescriptor yX5_lucky.desc).map (fun d => d.parameters.length) = some 2 := by decide +kernel
theorem nyV_X5_lucky : yX5_lucky.cls = RX5 ∧ yX5_lucky.cls ≠ "java/lang/invoke/MethodHandle" ∧ yX5_lucky.cls ≠ "java/lang/invoke/VarHandle" ∧ (parseMethodDescriptor yX5_lucky.desc).map (fun d => d.parameters.length) = some 2 := by decide +kernel
set_option maxHeartbeats 4000000 in
set_option maxRecDepth 100000 in
theorem w_X5_lucky {G : xG} {p : Program} {l : Launch} {e : Env} {s : State} {m : MethodId} {args : Array Value} {below : List Frame} {meth : Method} {c : Code} (C : xK G p s m args meth c cX5_lucky 5 vsX5_lucky RX5 (some .int)) (r : Int) (S' : xS) : ∀ k : Nat,
  (∀ (S : xS) (p0 : Nat) (i0 i1 i2 i3 i4 : Int) (H : Heap) (locs : List Loc) (ls : Array Slot), g_X5_lucky k 0 S p0 i0 i1 i2 i3 i4 = some (r, S') → xI G S s H locs → lv_has ls 5 [(0, .ref (xB G + p0)), (1, .int (iI i0)), (2, .int (iI i1))] → W p l e rm_X5_lucky s m args below meth c H locs 0 0 (MQ below (xQi G r S') args s 0 0 (xA G)) (F0 m 0 ls [])) ∧
  (∀ (S : xS) (p0 : Nat) (i0 i1 i2 i3 i4 : Int) (H : Heap) (locs : List Loc) (ls : Array Slot), g_X5_lucky k 1 S p0 i0 i1 i2 i3 i4 = some (r, S') → xI G S s H locs → lv_has ls 5 [(0, .ref (xB G + p0))] → W p l e rm_X5_lucky s m args below meth c H locs 0 0 (MQ below (xQi G r S') args s 0 0 (xA G)) (F0 m 21 ls [])) ∧
  (∀ (S : xS) (p0 : Nat) (i0 i1 i2 i3 i4 : Int) (H : Heap) (locs : List Loc) (ls : Array Slot), g_X5_lucky k 2 S p0 i0 i1 i2 i3 i4 = some (r, S') → xI G S s H locs → lv_has ls 5 [(0, .ref (xB G + p0)), (1, .int (iI i0)), (2, .int (iI i1)), (3, .int (iI i2)), (4, .int (iI i3))] → W p l e rm_X5_lucky s m args below meth c H locs 0 0 (MQ below (xQi G r S') args s 0 0 (xA G)) (F0 m 31 ls [])) ∧
  (∀ (S : xS) (p0 : Nat) (i0 i1 i2 i3 i4 : Int) (H : Heap) (locs : List Loc) (ls : Array Slot), g_X5_lucky k 3 S p0 i0 i1 i2 i3 i4 = some (r, S') → xI G S s H locs → lv_has ls 5 [(0, .ref (xB G + p0)), (1, .int (iI i0)), (2, .int (iI i1)), (4, .int (iI i2))] → W p l e rm_X5_lucky s m args below meth c H locs 0 0 (MQ below (xQi G r S') args s 0 0 (xA G)) (F0 m 72 ls [.int (iI i4), .int (iI i3)])) := by
  intro k
  induction k with
  | zero => exact ⟨fun _ _ _ _ _ _ _ _ _ _ hf => (by cases hf), fun _ _ _ _ _ _ _ _ _ _ hf => (by cases hf), fun _ _ _ _ _ _ _ _ _ _ hf => (by cases hf), fun _ _ _ _ _ _ _ _ _ _ hf => (by cases hf)⟩
  | succ fu ih =>
    obtain ⟨ih0, ih1, ih2, ih3⟩ := ih
    refine ⟨?_, ?_, ?_, ?_⟩
    · intro S p0 i0 i1 i2 i3 i4 H locs ls hf I hl
      replace hf : b_X5_lucky_0 (g_X5_lucky fu) fu S p0 i0 i1 i2 i3 i4 = some (r, S') := hf
      unfold b_X5_lucky_0 at hf
      refine kx_iload_n 0 C dX5_lucky_0 (lv_at hl 1 rfl) ?_
      refine kx_if_lt 1 21 C dX5_lucky_1 (by decide) (fun c1 => ?_) (fun c1 => ?_)
      · have hf := ifp c1 hf
        exact ih1 _ _ _ _ _ _ _ _ _ _ hf I (lv_sub hl [0] rfl)
      · have hf := ifn c1 hf
        refine kx_iload_n 4 C dX5_lucky_4 (lv_at hl 1 rfl) ?_
        refine kx_ldcw 5 C (z := 999999) mw_X5_lucky_0 dX5_lucky_5 (by decide) ?_
        refine kx_icmp_gt 8 21 C dX5_lucky_8 (by decide) (fun c2 => ?_) (fun c2 => ?_)
        · have hf := ifp c2 hf
          exact ih1 _ _ _ _ _ _ _ _ _ _ hf I (lv_sub hl [0] rfl)
        · have hf := ifn c2 hf
          refine kx_iload_n 11 C dX5_lucky_11 (lv_at hl 2 rfl) ?_
          refine kx_if_lt 12 21 C dX5_lucky_12 (by decide) (fun c3 => ?_) (fun c3 => ?_)
          · have hf := ifp c3 hf
            exact ih1 _ _ _ _ _ _ _ _ _ _ hf I (lv_sub hl [0] rfl)
          · have hf := ifn c3 hf
            refine kx_iload_n 15 C dX5_lucky_15 (lv_at hl 2 rfl) ?_
            refine kx_bipush 16 C dX5_lucky_16 (by decide) ?_
            refine kx_icmp_le 18 26 C dX5_lucky_18 (by decide) (fun c4 => ?_) (fun c4 => ?_)
            · have hf := ifp c4 hf
              refine kx_iconst 26 C dX5_lucky_26 ?_
              refine kx_istore_n 27 C (lv' := [(3, .int (iI 0)), (0, .ref (xB G + p0)), (1, .int (iI i0)), (2, .int (iI i1))]) dX5_lucky_27 hl (by decide) rfl rfl (fun ls hl => ?_)
              refine kx_iconst 28 C dX5_lucky_28 ?_
              refine kx_istore 29 C (lv' := [(4, .int (iI 0)), (3, .int (iI 0)), (0, .ref (xB G + p0)), (1, .int (iI i0)), (2, .int (iI i1))]) dX5_lucky_29 hl (by decide) rfl rfl (fun ls hl => ?_)
              exact ih2 _ _ _ _ _ _ _ _ _ _ hf I (lv_sub hl [2, 3, 4, 1, 0] rfl)
            · have hf := ifn c4 hf
              exact ih1 _ _ _ _ _ _ _ _ _ _ hf I (lv_sub hl [0] rfl)
    · intro S p0 i0 i1 i2 i3 i4 H locs ls hf I hl
      replace hf : b_X5_lucky_1 (g_X5_lucky fu) fu S p0 i0 i1 i2 i3 i4 = some (r, S') := hf
      unfold b_X5_lucky_1 at hf
      refine kx_aload_n 21 C dX5_lucky_21 (lv_at hl 0 rfl) ?_
      obtain ⟨h8, hf⟩ := ift hf
      obtain ⟨x7, S5, h6, hf⟩ := ob2 hf
      refine kx_callVi 22 C hl I (ci := 4) (As := []) (rest := []) (c_X5_refuseBad G l fu _ _ _ _ h6) (cwV 0 C.ts gX5_lucky_X5_refuseBad rfl rfl rfl nyV_X5_refuseBad ⟨Nat.le_of_ble_eq_true rfl, Nat.le_of_ble_eq_true rfl⟩) rfl h8 rfl rfl (Nat.le_of_ble_eq_true rfl) dX5_lucky_22 ⟨Nat.le_of_ble_eq_true rfl, Nat.le_of_ble_eq_true rfl⟩ (fun H locs I => ?_)
      exact kx_iret 25 C I hf dX5_lucky_25
    · intro S p0 i0 i1 i2 i3 i4 H locs ls hf I hl
      replace hf : b_X5_lucky_2 (g_X5_lucky fu) fu S p0 i0 i1 i2 i3 i4 = some (r, S') := hf
      unfold b_X5_lucky_2 at hf
      refine kx_iload 31 C dX5_lucky_31 (lv_at hl 4 rfl) ?_
      refine kx_iload_n 33 C dX5_lucky_33 (lv_at hl 2 rfl) ?_
      refine kx_icmp_ge 34 80 C dX5_lucky_34 (by decide) (fun c9 => ?_) (fun c9 => ?_)
      · have hf := ifp c9 hf
        refine kx_iload_n 80 C dX5_lucky_80 (lv_at hl 3 rfl) ?_
        exact kx_iret 81 C I hf dX5_lucky_81
      · have hf := ifn c9 hf
        refine kx_aload_n 37 C dX5_lucky_37 (lv_at hl 0 rfl) ?_
        obtain ⟨q11, h10, hf⟩ := ob hf
        refine kx_getp 38 C I fl_X5_lucky_37 h10 dX5_lucky_38 ?_
        refine kx_aload_n 41 C dX5_lucky_41 (lv_at hl 0 rfl) ?_
        obtain ⟨q13, h12, hf⟩ := ob hf
        refine kx_getp 42 C I fl_X5_lucky_10 h12 dX5_lucky_42 ?_
        obtain ⟨x15, h14, hf⟩ := ob hf
        refine kx_geti 45 C I fl_X5_lucky_69 h14 dX5_lucky_45 ?_
        refine kx_iload_n 48 C dX5_lucky_48 (lv_at hl 1 rfl) ?_
        refine kx_iload 49 C dX5_lucky_49 (lv_at hl 4 rfl) ?_
        refine kx_iadd 51 C dX5_lucky_51 ?_
        obtain ⟨z18, S16, h17, hf⟩ := ob2 hf
        refine kx_callSv 52 C hl I (As := [.ref (xB G + q11), .int (iI x15), .int (iI (i0 + i3))]) (rest := []) (c_X4_setBySeed G l fu _ _ _ _ _ _ h17) (va_cwS 3 C.ts gX5_lucky_X4_setBySeed rfl rfl rfl nyS_X4_setBySeed ⟨Nat.le_of_ble_eq_true rfl, Nat.le_of_ble_eq_true rfl⟩) rfl rfl (Nat.le_of_ble_eq_true rfl) dX5_lucky_52 ⟨Nat.le_of_ble_eq_true rfl, Nat.le_of_ble_eq_true rfl⟩ (fun H locs I => ?_)
        refine kx_iload_n 55 C dX5_lucky_55 (lv_at hl 3 rfl) ?_
        refine kx_aload_n 56 C dX5_lucky_56 (lv_at hl 0 rfl) ?_
        refine kx_aload_n 57 C dX5_lucky_57 (lv_at hl 0 rfl) ?_
        obtain ⟨q20, h19, hf⟩ := ob hf
        refine kx_getp 58 C I fl_X5_lucky_37 h19 dX5_lucky_58 ?_
        obtain ⟨h24, hf⟩ := ift hf
        obtain ⟨x23, S21, h22, hf⟩ := ob2 hf
        refine kx_callVi 61 C hl I (ci := 4) (As := [.ref (xB G + q20)]) (rest := [.int (iI i2)]) (c_X5_doAllFind G l fu _ _ _ _ _ h22) (cwV 1 C.ts gX5_lucky_X5_doAllFind rfl rfl rfl nyV_X5_doAllFind ⟨Nat.le_of_ble_eq_true rfl, Nat.le_of_ble_eq_true rfl⟩) rfl h24 rfl rfl (Nat.le_of_ble_eq_true rfl) dX5_lucky_61 ⟨Nat.le_of_ble_eq_true rfl, Nat.le_of_ble_eq_true rfl⟩ (fun H locs I => ?_)
        refine kx_if_eq 64 71 C dX5_lucky_64 (by decide) (fun c25 => ?_) (fun c25 => ?_)
        · have hf := ifp c25 hf
          refine kx_iconst 71 C dX5_lucky_71 ?_
          exact ih3 _ _ _ _ _ _ _ _ _ _ hf I (lv_sub hl [0, 1, 2, 4] rfl)
        · have hf := ifn c25 hf
          refine kx_iconst 67 C dX5_lucky_67 ?_
          refine kx_goto 68 72 C dX5_lucky_68 (by decide) ?_
          exact ih3 _ _ _ _ _ _ _ _ _ _ hf I (lv_sub hl [0, 1, 2, 4] rfl)
    · intro S p0 i0 i1 i2 i3 i4 H locs ls hf I hl
      replace hf : b_X5_lucky_3 (g_X5_lucky fu) fu S p0 i0 i1 i2 i3 i4 = some (r, S') := hf
      unfold b_X5_lucky_3 at hf
      refine kx_iadd 72 C dX5_lucky_72 ?_
      obtain ⟨x26, e27, hf⟩ := nmx_e hf
      refine kx_istore_n 73 C (lv' := [(3, .int (iI x26)), (0, .ref (xB G + p0)), (1, .int (iI i0)), (2, .int (iI i1)), (4, .int (iI i2))]) dX5_lucky_73 hl (by decide) e27 rfl (fun ls hl => ?_)
      obtain ⟨x28, e29, hf⟩ := nmx_e hf
      refine kx_iinc 74 C (lv' := [(4, .int (iI x28)), (3, .int (iI x26)), (0, .ref (xB G + p0)), (1, .int (iI i0)), (2, .int (iI i1))]) dX5_lucky_74 hl 4 rfl e29 (by decide) rfl (fun ls hl => ?_)
      refine kx_goto 77 31 C dX5_lucky_77 (by decide) ?_
      exact ih2 _ _ _ _ _ _ _ _ _ _ hf I (lv_sub hl [2, 3, 4, 1, 0] rfl)
set_option maxHeartbeats 4000000 in
set_option maxRecDepth 100000 in
theorem c_X5_lucky (G : xG) (l : Launch) (fu : Nat) (S S' : xS) (p0 : Nat) (i0 : Int) (i1 : Int) (r : Int) (hf : f_X5_lucky fu S p0 i0 i1 = some (r, S')) : Met l yX5_lucky vsX5_lucky rm_X5_lucky (va_Pc [.ref (xB G + p0), .int (iI i0), .int (iI i1)] (xPre G S)) (xQi G r S') 0 0 (xA G) := by
  refine kx_met (ret := (some .int)) RX5 [(0, .ref (xB G + p0)), (1, .int (iI i0)), (2, .int (iI i1))] (by decide) rfl rfl (Nat.le_of_ble_eq_true rfl) rfl (fun p e s m below meth c ls C hin I hl => ?_)
  exact (w_X5_lucky C r S' fu).1 S _ _ _ _ _ _ _ _ _ hf I hl
def rm_X5_part : Room := { frames := 1, cells := 0, slots := 0, locals := 20 }
theorem hin_X5_part_RX5 : ∀ w ∈ wsX50, w ∈ vsX5_part := fun w h => inM (inlX5 w h)
theorem fl_X5_part_48 : xFl vsX5_part RX5 48 4 8 := ⟨RX5, TX5, 13, rfl, by decide, hin_X5_part_RX5, inM mq_2_6, rfl⟩
theorem fl_X5_part_52 : xFl vsX5_part RX5 52 4 9 := ⟨RX5, TX5, 13, rfl, by decide, hin_X5_part_RX5, inM mq_2_7, rfl⟩
theorem nyS_X5_part : yX5_part.cls ≠ "java/lang/invoke/MethodHandle" ∧ yX5_part.cls ≠ "java/lang/invoke/VarHandle" ∧ (parseMethodDescriptor yX5_part.desc).map (fun d => d.parameters.length) = some 1 := by decide +kernel
theorem nyV_X5_part : yX5_part.cls = RX5 ∧ yX5_part.cls ≠ "java/lang/invoke/MethodHandle" ∧ yX5_part.cls ≠ "java/lang/invoke/VarHandle" ∧ (parseMethodDescriptor yX5_part.desc).map (fun d => d.parameters.length) = some 1 := by decide +kernel
set_option maxHeartbeats 4000000 in
set_option maxRecDepth 100000 in
theorem c_X5_part (G : xG) (l : Launch) (fu : Nat) (S S' : xS) (p0 : Nat) (i0 : Int) (r : Int) (hf : f_X5_part fu S p0 i0 = some (r, S')) : Met l yX5_part vsX5_part rm_X5_part (va_Pc [.ref (xB G + p0), .int (iI i0)] (xPre G S)) (xQl G r S') 0 0 (xA G) := by
  refine kx_met (ret := (some .long)) RX5 [(0, .ref (xB G + p0)), (1, .int (iI i0))] (by decide) rfl rfl (Nat.le_of_ble_eq_true rfl) rfl (fun p e s m below meth c ls C hin I hl => ?_)
  unfold f_X5_part at hf
  refine kx_iload_n 0 C dX5_part_0 (lv_at hl 1 rfl) ?_
  refine kx_if_ne 1 9 C dX5_part_1 (by decide) (fun c1 => ?_) (fun c1 => ?_)
  · have hf := ifn c1 hf
    refine kx_iload_n 9 C dX5_part_9 (lv_at hl 1 rfl) ?_
    refine kx_iconst 10 C dX5_part_10 ?_
    refine kx_icmp_ne 11 19 C dX5_part_11 (by decide) (fun c2 => ?_) (fun c2 => ?_)
    · have hf := ifn c2 hf
      refine kx_aload_n 19 C dX5_part_19 (lv_at hl 0 rfl) ?_
      obtain ⟨h6, hf⟩ := ift hf
      obtain ⟨x5, S3, h4, hf⟩ := ob2 hf
      refine kx_callVi 20 C hl I (ci := 4) (As := []) (rest := []) (c_X5_refuseBad G l fu _ _ _ _ h4) (cwV 0 C.ts gX5_part_X5_refuseBad rfl rfl rfl nyV_X5_refuseBad ⟨Nat.le_of_ble_eq_true rfl, Nat.le_of_ble_eq_true rfl⟩) rfl h6 rfl rfl (Nat.le_of_ble_eq_true rfl) dX5_part_20 ⟨Nat.le_of_ble_eq_true rfl, Nat.le_of_ble_eq_true rfl⟩ (fun H locs I => ?_)
      refine kx_i2l 23 C dX5_part_23 ?_
      exact kx_lret 24 C I hf dX5_part_24
    · have hf := ifp c2 hf
      refine kx_aload_n 14 C dX5_part_14 (lv_at hl 0 rfl) ?_
      obtain ⟨x8, h7, hf⟩ := ob hf
      refine kx_getl 15 C I fl_X5_part_52 h7 dX5_part_15 ?_
      exact kx_lret 18 C I hf dX5_part_18
  · have hf := ifp c1 hf
    refine kx_aload_n 4 C dX5_part_4 (lv_at hl 0 rfl) ?_
    obtain ⟨x10, h9, hf⟩ := ob hf
    refine kx_getl 5 C I fl_X5_part_48 h9 dX5_part_5 ?_
    exact kx_lret 8 C I hf dX5_part_8
def rm_X5_image : Room := { frames := 3, cells := 9, slots := 72, locals := 64 }
theorem hin_X5_image_RX1 : ∀ w ∈ wsX10, w ∈ vsX5_image := fun w h => inM (inlX1 w h)
theorem hin_X5_image_RX5 : ∀ w ∈ wsX50, w ∈ vsX5_image := fun w h => inM (inlX5 w h)
theorem fl_X5_image_10 : xFl vsX5_image RX5 10 4 0 := ⟨RX5, TX5, 13, rfl, by decide, hin_X5_image_RX5, inM mq_1_15, rfl⟩
theorem fl_X5_image_19 : xFl vsX5_image RX5 19 4 2 := ⟨RX5, TX5, 13, rfl, by decide, hin_X5_image_RX5, inM mq_1_17, rfl⟩
theorem mw_X5_image_0 : Cond.classLink RX5 7 RX1 ∈ vsX5_image := inM mq_1_12
theorem mw_X5_image_1 : Cond.instantiable RX1 14 ∈ vsX5_image := inM mq_1_13
theorem mw_X5_image_2 : Cond.initialized RX1 ∈ vsX5_image := inM mq_1_14
theorem mw_X5_image_3 : Cond.methodLink RX5 9 yX1_init ∈ vsX5_image := inM mq_2_11
theorem mw_X5_image_4 : Cond.instanceMethod yX1_init ∈ vsX5_image := inM mq_2_12
theorem nyS_X5_image : yX5_image.cls ≠ "java/lang/invoke/MethodHandle" ∧ yX5_image.cls ≠ "java/lang/invoke/VarHandle" ∧ (parseMethodDescriptor yX5_image.desc).map (fun d => d.parameters.length) = some 1 := by decide +kernel
theorem nyV_X5_image : yX5_image.cls = RX5 ∧ yX5_image.cls ≠ "java/lang/invoke/MethodHandle" ∧ yX5_image.cls ≠ "java/lang/invoke/VarHandle" ∧ (parseMethodDescriptor yX5_image.desc).map (fun d => d.parameters.length) = some 1 := by decide +kernel
set_option maxHeartbeats 4000000 in
set_option maxRecDepth 100000 in
theorem w_X5_image {G : xG} {p : Program} {l : Launch} {e : Env} {s : State} {m : MethodId} {args : Array Value} {below : List Frame} {meth : Method} {c : Code} (C : xK G p s m args meth c cX5_image 3 vsX5_image RX5 (some .int)) (r : Int) (S' : xS) : ∀ k : Nat,
  (∀ (S : xS) (p0 p1 : Nat) (i0 : Int) (H : Heap) (locs : List Loc) (ls : Array Slot), g_X5_image k 0 S p0 p1 i0 = some (r, S') → xI G S s H locs → lv_has ls 3 [(0, .ref (xB G + p0)), (1, .int (iI i0))] → W p l e rm_X5_image s m args below meth c H locs 0 0 (MQ below (xQi G r S') args s 9 72 (xA G)) (F0 m 0 ls [])) ∧
  (∀ (S : xS) (p0 p1 : Nat) (i0 : Int) (H : Heap) (locs : List Loc) (ls : Array Slot), g_X5_image k 1 S p0 p1 i0 = some (r, S') → xI G S s H locs → lv_has ls 3 [(0, .ref (xB G + p0))] → W p l e rm_X5_image s m args below meth c H locs 0 0 (MQ below (xQi G r S') args s 9 72 (xA G)) (F0 m 9 ls [])) ∧
  (∀ (S : xS) (p0 p1 : Nat) (i0 : Int) (H : Heap) (locs : List Loc) (ls : Array Slot), g_X5_image k 2 S p0 p1 i0 = some (r, S') → xI G S s H locs → lv_has ls 3 [(0, .ref (xB G + p0)), (2, .ref (xB G + p1))] → W p l e rm_X5_image s m args below meth c H locs 9 72 (MQ below (xQi G r S') args s 9 72 (xA G)) (F0 m 40 ls [])) := by
  intro k
  induction k with
  | zero => exact ⟨fun _ _ _ _ _ _ _ hf => (by cases hf), fun _ _ _ _ _ _ _ hf => (by cases hf), fun _ _ _ _ _ _ _ hf => (by cases hf)⟩
  | succ fu ih =>
    obtain ⟨ih0, ih1, ih2⟩ := ih
    refine ⟨?_, ?_, ?_⟩
    · intro S p0 p1 i0 H locs ls hf I hl
      replace hf : b_X5_image_0 (g_X5_image fu) fu S p0 p1 i0 = some (r, S') := hf
      unfold b_X5_image_0 at hf
      refine kx_iload_n 0 C dX5_image_0 (lv_at hl 1 rfl) ?_
      refine kx_if_lt 1 9 C dX5_image_1 (by decide) (fun c1 => ?_) (fun c1 => ?_)
      · have hf := ifp c1 hf
        exact ih1 _ _ _ _ _ _ _ hf I (lv_sub hl [0] rfl)
      · have hf := ifn c1 hf
        refine kx_iload_n 4 C dX5_image_4 (lv_at hl 1 rfl) ?_
        refine kx_iconst 5 C dX5_image_5 ?_
        refine kx_icmp_lt 6 14 C dX5_image_6 (by decide) (fun c2 => ?_) (fun c2 => ?_)
        · have hf := ifp c2 hf
          refine kx_aload_n 14 C dX5_image_14 (lv_at hl 0 rfl) ?_
          obtain ⟨q4, h3, hf⟩ := ob hf
          refine kx_getp 15 C I fl_X5_image_19 h3 dX5_image_15 ?_
          refine kx_iload_n 18 C dX5_image_18 (lv_at hl 1 rfl) ?_
          rcases onP_s hf with ⟨h6, hf⟩ | ⟨q5, h6, hf⟩
          · refine kx_aald 19 C I (k := 3) rfl rfl h6 dX5_image_19 ?_
            refine W.eq (g2 := F0 m 20 ls [.null]) rfl ?_
            refine kx_astore_nN 20 C (lv' := [(2, .null), (0, .ref (xB G + p0)), (1, .int (iI i0))]) dX5_image_20 hl (by decide) rfl (fun ls hl => ?_)
            refine kx_aload_nN 21 C dX5_image_21 (lv_at hl 0 rfl) ?_
            refine kx_ifnonnullN 22 C dX5_image_22 ?_
            obtain ⟨S7, eS7, hf⟩ := nmx_e hf
            refine kx_new 25 C I (ci := 1) (N := 14) xNew_X1 tyX1 rfl hin_X5_image_RX1 mw_X5_image_0 mw_X5_image_1 mw_X5_image_2 tyX1_ok xNew_X1_ok ⟨Nat.le_of_ble_eq_true rfl, Nat.le_of_ble_eq_true rfl⟩ dX5_image_25 (fun H I => ?_)
            rw [← eS7] at I
            refine kx_dup 28 C dX5_image_28 rfl ?_
            obtain ⟨z10, S8, h9, hf⟩ := ob2 hf
            refine kx_callI 29 C hl I (As := []) (rest := [.ref (xB G + S.length)]) (c_X1_init G l fu _ _ _ _ h9) (cwI 0 C.ts gX5_image_X1_init rfl rfl rfl (C.ts _ mw_X5_image_2) (C.ts _ mw_X5_image_3) (C.ts _ mw_X5_image_4) rfl nyS_X1_init ⟨Nat.le_of_ble_eq_true rfl, Nat.le_of_ble_eq_true rfl⟩) rfl rfl (Nat.le_of_ble_eq_true rfl) dX5_image_29 ⟨Nat.le_of_ble_eq_true rfl, Nat.le_of_ble_eq_true rfl⟩ (fun H locs I => ?_)
            refine kx_astore_n 32 C (lv' := [(2, .ref (xB G + S.length)), (0, .ref (xB G + p0)), (1, .int (iI i0))]) dX5_image_32 hl (by decide) rfl (fun ls hl => ?_)
            refine kx_aload_n 33 C dX5_image_33 (lv_at hl 1 rfl) ?_
            obtain ⟨q12, h11, hf⟩ := ob hf
            refine kx_getp 34 C I fl_X5_image_19 h11 dX5_image_34 ?_
            refine kx_iload_n 37 C dX5_image_37 (lv_at hl 2 rfl) ?_
            refine kx_aload_n 38 C dX5_image_38 (lv_at hl 0 rfl) ?_
            obtain ⟨S14, h13, hf⟩ := ob hf
            refine kx_aastR 39 C I h13 dX5_image_39 (fun H locs I => ?_)
            exact ih2 _ _ _ _ _ _ _ hf I (lv_sub hl [1, 0] rfl)
          · refine kx_aald 19 C I (k := 3) rfl rfl h6 dX5_image_19 ?_
            refine W.eq (g2 := F0 m 20 ls [.ref (xB G + q5)]) rfl ?_
            refine kx_astore_n 20 C (lv' := [(2, .ref (xB G + q5)), (0, .ref (xB G + p0)), (1, .int (iI i0))]) dX5_image_20 hl (by decide) rfl (fun ls hl => ?_)
            refine kx_aload_n 21 C dX5_image_21 (lv_at hl 0 rfl) ?_
            refine kx_ifnonnull 22 40 C dX5_image_22 (by decide) ?_
            refine W.widen (k := 9) (n := 72) (Nat.le_of_ble_eq_true rfl) (Nat.le_of_ble_eq_true rfl) ?_
            exact ih2 _ _ _ _ _ _ _ hf I (lv_sub hl [1, 0] rfl)
        · have hf := ifn c2 hf
          exact ih1 _ _ _ _ _ _ _ hf I (lv_sub hl [0] rfl)
    · intro S p0 p1 i0 H locs ls hf I hl
      replace hf : b_X5_image_1 (g_X5_image fu) fu S p0 p1 i0 = some (r, S') := hf
      unfold b_X5_image_1 at hf
      refine kx_aload_n 9 C dX5_image_9 (lv_at hl 0 rfl) ?_
      obtain ⟨h18, hf⟩ := ift hf
      obtain ⟨x17, S15, h16, hf⟩ := ob2 hf
      refine kx_callVi 10 C hl I (ci := 4) (As := []) (rest := []) (c_X5_refuseBad G l fu _ _ _ _ h16) (cwV 0 C.ts gX5_image_X5_refuseBad rfl rfl rfl nyV_X5_refuseBad ⟨Nat.le_of_ble_eq_true rfl, Nat.le_of_ble_eq_true rfl⟩) rfl h18 rfl rfl (Nat.le_of_ble_eq_true rfl) dX5_image_10 ⟨Nat.le_of_ble_eq_true rfl, Nat.le_of_ble_eq_true rfl⟩ (fun H locs I => ?_)
      refine W.widen (k := 9) (n := 72) (Nat.le_of_ble_eq_true rfl) (Nat.le_of_ble_eq_true rfl) ?_
      exact kx_iret 13 C I hf dX5_image_13
    · intro S p0 p1 i0 H locs ls hf I hl
      replace hf : b_X5_image_2 (g_X5_image fu) fu S p0 p1 i0 = some (r, S') := hf
      unfold b_X5_image_2 at hf
      refine kx_aload_n 40 C dX5_image_40 (lv_at hl 1 rfl) ?_
      refine kx_aload_n 41 C dX5_image_41 (lv_at hl 0 rfl) ?_
      obtain ⟨q20, h19, hf⟩ := ob hf
      refine kx_getp 42 C I fl_X5_image_10 h19 dX5_image_42 ?_
      obtain ⟨h24, hf⟩ := ift hf
      obtain ⟨z23, S21, h22, hf⟩ := ob2 hf
      refine kx_callVv 45 C hl I (ci := 1) (As := [.ref (xB G + q20)]) (rest := []) (c_X1_copyOf G l fu _ _ _ _ _ h22) (cwV 1 C.ts gX5_image_X1_copyOf rfl rfl rfl nyV_X1_copyOf ⟨Nat.le_of_ble_eq_true rfl, Nat.le_of_ble_eq_true rfl⟩) rfl h24 rfl rfl (Nat.le_of_ble_eq_true rfl) dX5_image_45 ⟨Nat.le_of_ble_eq_true rfl, Nat.le_of_ble_eq_true rfl⟩ (fun H locs I => ?_)
      refine kx_iconst 48 C dX5_image_48 ?_
      exact kx_iret 49 C I hf dX5_image_49
set_option maxHeartbeats 4000000 in
set_option maxRecDepth 100000 in
theorem c_X5_image (G : xG) (l : Launch) (fu : Nat) (S S' : xS) (p0 : Nat) (i0 : Int) (r : Int) (hf : f_X5_image fu S p0 i0 = some (r, S')) : Met l yX5_image vsX5_image rm_X5_image (va_Pc [.ref (xB G + p0), .int (iI i0)] (xPre G S)) (xQi G r S') 9 72 (xA G) := by
  refine kx_met (ret := (some .int)) RX5 [(0, .ref (xB G + p0)), (1, .int (iI i0))] (by decide) rfl rfl (Nat.le_of_ble_eq_true rfl) rfl (fun p e s m below meth c ls C hin I hl => ?_)
  exact (w_X5_image C r S' fu).1 S _ _ _ _ _ _ hf I hl
def rm_X5_from : Room := { frames := 2, cells := 0, slots := 0, locals := 47 }
theorem hin_X5_from_RX5 : ∀ w ∈ wsX50, w ∈ vsX5_from := fun w h => inM (inlX5 w h)
theorem fl_X5_from_10 : xFl vsX5_from RX5 10 4 0 := ⟨RX5, TX5, 13, rfl, by decide, hin_X5_from_RX5, inM mq_1_15, rfl⟩
theorem fl_X5_from_19 : xFl vsX5_from RX5 19 4 2 := ⟨RX5, TX5, 13, rfl, by decide, hin_X5_from_RX5, inM mq_1_17, rfl⟩
theorem nyS_X5_from : yX5_from.cls ≠ "java/lang/invoke/MethodHandle" ∧ yX5_from.cls ≠ "java/lang/invoke/VarHandle" ∧ (parseMethodDescriptor yX5_from.desc).map (fun d => d.parameters.length) = some 1 := by decide +kernel
theorem nyV_X5_from : yX5_from.cls = RX5 ∧ yX5_from.cls ≠ "java/lang/invoke/MethodHandle" ∧ yX5_from.cls ≠ "java/lang/invoke/VarHandle" ∧ (parseMethodDescriptor yX5_from.desc).map (fun d => d.parameters.length) = some 1 := by decide +kernel
set_option maxHeartbeats 4000000 in
set_option maxRecDepth 100000 in
theorem w_X5_from {G : xG} {p : Program} {l : Launch} {e : Env} {s : State} {m : MethodId} {args : Array Value} {below : List Frame} {meth : Method} {c : Code} (C : xK G p s m args meth c cX5_from 3 vsX5_from RX5 (some .int)) (r : Int) (S' : xS) : ∀ k : Nat,
  (∀ (S : xS) (p0 : Nat) (i0 : Int) (H : Heap) (locs : List Loc) (ls : Array Slot), g_X5_from k 0 S p0 i0 = some (r, S') → xI G S s H locs → lv_has ls 3 [(0, .ref (xB G + p0)), (1, .int (iI i0))] → W p l e rm_X5_from s m args below meth c H locs 0 0 (MQ below (xQi G r S') args s 0 0 (xA G)) (F0 m 0 ls [])) ∧
  (∀ (S : xS) (p0 : Nat) (i0 : Int) (H : Heap) (locs : List Loc) (ls : Array Slot), g_X5_from k 1 S p0 i0 = some (r, S') → xI G S s H locs → lv_has ls 3 [(0, .ref (xB G + p0))] → W p l e rm_X5_from s m args below meth c H locs 0 0 (MQ below (xQi G r S') args s 0 0 (xA G)) (F0 m 9 ls [])) := by
  intro k
  induction k with
  | zero => exact ⟨fun _ _ _ _ _ _ hf => (by cases hf), fun _ _ _ _ _ _ hf => (by cases hf)⟩
  | succ fu ih =>
    obtain ⟨ih0, ih1⟩ := ih
    refine ⟨?_, ?_⟩
    · intro S p0 i0 H locs ls hf I hl
      replace hf : b_X5_from_0 (g_X5_from fu) fu S p0 i0 = some (r, S') := hf
      unfold b_X5_from_0 at hf
      refine kx_iload_n 0 C dX5_from_0 (lv_at hl 1 rfl) ?_
      refine kx_if_lt 1 9 C dX5_from_1 (by decide) (fun c1 => ?_) (fun c1 => ?_)
      · have hf := ifp c1 hf
        exact ih1 _ _ _ _ _ _ hf I (lv_sub hl [0] rfl)
      · have hf := ifn c1 hf
        refine kx_iload_n 4 C dX5_from_4 (lv_at hl 1 rfl) ?_
        refine kx_iconst 5 C dX5_from_5 ?_
        refine kx_icmp_lt 6 14 C dX5_from_6 (by decide) (fun c2 => ?_) (fun c2 => ?_)
        · have hf := ifp c2 hf
          refine kx_aload_n 14 C dX5_from_14 (lv_at hl 0 rfl) ?_
          obtain ⟨q4, h3, hf⟩ := ob hf
          refine kx_getp 15 C I fl_X5_from_19 h3 dX5_from_15 ?_
          refine kx_iload_n 18 C dX5_from_18 (lv_at hl 1 rfl) ?_
          rcases onP_s hf with ⟨h6, hf⟩ | ⟨q5, h6, hf⟩
          · refine kx_aald 19 C I (k := 3) rfl rfl h6 dX5_from_19 ?_
            refine W.eq (g2 := F0 m 20 ls [.null]) rfl ?_
            refine kx_astore_nN 20 C (lv' := [(2, .null), (0, .ref (xB G + p0)), (1, .int (iI i0))]) dX5_from_20 hl (by decide) rfl (fun ls hl => ?_)
            refine kx_aload_nN 21 C dX5_from_21 (lv_at hl 0 rfl) ?_
            refine kx_ifnonnullN 22 C dX5_from_22 ?_
            refine kx_aload_n 25 C dX5_from_25 (lv_at hl 1 rfl) ?_
            obtain ⟨h10, hf⟩ := ift hf
            obtain ⟨x9, S7, h8, hf⟩ := ob2 hf
            refine kx_callVi 26 C hl I (ci := 4) (As := []) (rest := []) (c_X5_refuseNo G l fu _ _ _ _ h8) (cwV 0 C.ts gX5_from_X5_refuseNo rfl rfl rfl nyV_X5_refuseNo ⟨Nat.le_of_ble_eq_true rfl, Nat.le_of_ble_eq_true rfl⟩) rfl h10 rfl rfl (Nat.le_of_ble_eq_true rfl) dX5_from_26 ⟨Nat.le_of_ble_eq_true rfl, Nat.le_of_ble_eq_true rfl⟩ (fun H locs I => ?_)
            exact kx_iret 29 C I hf dX5_from_29
          · refine kx_aald 19 C I (k := 3) rfl rfl h6 dX5_from_19 ?_
            refine W.eq (g2 := F0 m 20 ls [.ref (xB G + q5)]) rfl ?_
            refine kx_astore_n 20 C (lv' := [(2, .ref (xB G + q5)), (0, .ref (xB G + p0)), (1, .int (iI i0))]) dX5_from_20 hl (by decide) rfl (fun ls hl => ?_)
            refine kx_aload_n 21 C dX5_from_21 (lv_at hl 0 rfl) ?_
            refine kx_ifnonnull 22 30 C dX5_from_22 (by decide) ?_
            refine kx_aload_n 30 C dX5_from_30 (lv_at hl 1 rfl) ?_
            obtain ⟨q12, h11, hf⟩ := ob hf
            refine kx_getp 31 C I fl_X5_from_10 h11 dX5_from_31 ?_
            refine kx_aload_n 34 C dX5_from_34 (lv_at hl 0 rfl) ?_
            obtain ⟨h16, hf⟩ := ift hf
            obtain ⟨z15, S13, h14, hf⟩ := ob2 hf
            refine kx_callVv 35 C hl I (ci := 1) (As := [.ref (xB G + q5)]) (rest := []) (c_X1_copyOf G l fu _ _ _ _ _ h14) (cwV 1 C.ts gX5_from_X1_copyOf rfl rfl rfl nyV_X1_copyOf ⟨Nat.le_of_ble_eq_true rfl, Nat.le_of_ble_eq_true rfl⟩) rfl h16 rfl rfl (Nat.le_of_ble_eq_true rfl) dX5_from_35 ⟨Nat.le_of_ble_eq_true rfl, Nat.le_of_ble_eq_true rfl⟩ (fun H locs I => ?_)
            refine kx_iconst 38 C dX5_from_38 ?_
            exact kx_iret 39 C I hf dX5_from_39
        · have hf := ifn c2 hf
          exact ih1 _ _ _ _ _ _ hf I (lv_sub hl [0] rfl)
    · intro S p0 i0 H locs ls hf I hl
      replace hf : b_X5_from_1 (g_X5_from fu) fu S p0 i0 = some (r, S') := hf
      unfold b_X5_from_1 at hf
      refine kx_aload_n 9 C dX5_from_9 (lv_at hl 0 rfl) ?_
      obtain ⟨h20, hf⟩ := ift hf
      obtain ⟨x19, S17, h18, hf⟩ := ob2 hf
      refine kx_callVi 10 C hl I (ci := 4) (As := []) (rest := []) (c_X5_refuseBad G l fu _ _ _ _ h18) (cwV 0 C.ts gX5_from_X5_refuseBad rfl rfl rfl nyV_X5_refuseBad ⟨Nat.le_of_ble_eq_true rfl, Nat.le_of_ble_eq_true rfl⟩) rfl h20 rfl rfl (Nat.le_of_ble_eq_true rfl) dX5_from_10 ⟨Nat.le_of_ble_eq_true rfl, Nat.le_of_ble_eq_true rfl⟩ (fun H locs I => ?_)
      exact kx_iret 13 C I hf dX5_from_13
set_option maxHeartbeats 4000000 in
set_option maxRecDepth 100000 in
theorem c_X5_from (G : xG) (l : Launch) (fu : Nat) (S S' : xS) (p0 : Nat) (i0 : Int) (r : Int) (hf : f_X5_from fu S p0 i0 = some (r, S')) : Met l yX5_from vsX5_from rm_X5_from (va_Pc [.ref (xB G + p0), .int (iI i0)] (xPre G S)) (xQi G r S') 0 0 (xA G) := by
  refine kx_met (ret := (some .int)) RX5 [(0, .ref (xB G + p0)), (1, .int (iI i0))] (by decide) rfl rfl (Nat.le_of_ble_eq_true rfl) rfl (fun p e s m below meth c ls C hin I hl => ?_)
  exact (w_X5_from C r S' fu).1 S _ _ _ _ _ hf I hl
def rm_X5_status : Room := { frames := 1, cells := 0, slots := 0, locals := 20 }
theorem hin_X5_status_RX5 : ∀ w ∈ wsX50, w ∈ vsX5_status := fun w h => inM (inlX5 w h)
theorem fl_X5_status_55 : xFl vsX5_status RX5 55 4 10 := ⟨RX5, TX5, 13, rfl, by decide, hin_X5_status_RX5, inM mq_2_8, rfl⟩
theorem fl_X5_status_59 : xFl vsX5_status RX5 59 4 11 := ⟨RX5, TX5, 13, rfl, by decide, hin_X5_status_RX5, inM mq_2_9, rfl⟩
theorem fl_X5_status_62 : xFl vsX5_status RX5 62 4 12 := ⟨RX5, TX5, 13, rfl, by decide, hin_X5_status_RX5, inM mq_2_10, rfl⟩
theorem nyS_X5_status : yX5_status.cls ≠ "java/lang/invoke/MethodHandle" ∧ yX5_status.cls ≠ "java/lang/invoke/VarHandle" ∧ (parseMethodDescriptor yX5_status.desc).map (fun d => d.parameters.length) = some 1 := by decide +kernel
theorem nyV_X5_status : yX5_status.cls = RX5 ∧ yX5_status.cls ≠ "java/lang/invoke/MethodHandle" ∧ yX5_status.cls ≠ "java/lang/invoke/VarHandle" ∧ (parseMethodDescriptor yX5_status.desc).map (fun d => d.parameters.length) = some 1 := by decide +kernel
set_option maxHeartbeats 4000000 in
set_option maxRecDepth 100000 in
theorem c_X5_status (G : xG) (l : Launch) (fu : Nat) (S S' : xS) (p0 : Nat) (i0 : Int) (r : Int) (hf : f_X5_status fu S p0 i0 = some (r, S')) : Met l yX5_status vsX5_status rm_X5_status (va_Pc [.ref (xB G + p0), .int (iI i0)] (xPre G S)) (xQi G r S') 0 0 (xA G) := by
  refine kx_met (ret := (some .int)) RX5 [(0, .ref (xB G + p0)), (1, .int (iI i0))] (by decide) rfl rfl (Nat.le_of_ble_eq_true rfl) rfl (fun p e s m below meth c ls C hin I hl => ?_)
  unfold f_X5_status at hf
  refine kx_iload_n 0 C dX5_status_0 (lv_at hl 1 rfl) ?_
  by_cases c1 : wI i0 = 0
  · have hf := ifp c1 hf
    refine kx_tabIn 1 28 C 0 dX5_status_1 c1 (by decide) rfl (by decide) ?_
    refine kx_aload_n 28 C dX5_status_28 (lv_at hl 0 rfl) ?_
    obtain ⟨x3, h2, hf⟩ := ob hf
    refine kx_geti 29 C I fl_X5_status_55 h2 dX5_status_29 ?_
    exact kx_iret 32 C I hf dX5_status_32
  have hf := ifn c1 hf
  by_cases c4 : wI i0 = 1
  · have hf := ifp c4 hf
    refine kx_tabIn 1 33 C 1 dX5_status_1 c4 (by decide) rfl (by decide) ?_
    refine kx_aload_n 33 C dX5_status_33 (lv_at hl 0 rfl) ?_
    obtain ⟨x6, h5, hf⟩ := ob hf
    refine kx_geti 34 C I fl_X5_status_59 h5 dX5_status_34 ?_
    exact kx_iret 37 C I hf dX5_status_37
  have hf := ifn c4 hf
  by_cases c7 : wI i0 = 2
  · have hf := ifp c7 hf
    refine kx_tabIn 1 38 C 2 dX5_status_1 c7 (by decide) rfl (by decide) ?_
    refine kx_aload_n 38 C dX5_status_38 (lv_at hl 0 rfl) ?_
    obtain ⟨x9, h8, hf⟩ := ob hf
    refine kx_geti 39 C I fl_X5_status_62 h8 dX5_status_39 ?_
    exact kx_iret 42 C I hf dX5_status_42
  have hf := ifn c7 hf
  refine kx_tabOut 1 43 C dX5_status_1 (by omega) (by decide) ?_
  refine kx_aload_n 43 C dX5_status_43 (lv_at hl 0 rfl) ?_
  obtain ⟨h13, hf⟩ := ift hf
  obtain ⟨x12, S10, h11, hf⟩ := ob2 hf
  refine kx_callVi 44 C hl I (ci := 4) (As := []) (rest := []) (c_X5_refuseBad G l fu _ _ _ _ h11) (cwV 0 C.ts gX5_status_X5_refuseBad rfl rfl rfl nyV_X5_refuseBad ⟨Nat.le_of_ble_eq_true rfl, Nat.le_of_ble_eq_true rfl⟩) rfl h13 rfl rfl (Nat.le_of_ble_eq_true rfl) dX5_status_44 ⟨Nat.le_of_ble_eq_true rfl, Nat.le_of_ble_eq_true rfl⟩ (fun H locs I => ?_)
  refine kx_pop 47 C dX5_status_47 rfl ?_
  refine kx_iconst 48 C dX5_status_48 ?_
  exact kx_iret 49 C I hf dX5_status_49
def rm_X5_howMany : Room := { frames := 1, cells := 0, slots := 0, locals := 22 }
theorem hin_X5_howMany_RX1 : ∀ w ∈ wsX10, w ∈ vsX5_howMany := fun w h => inM (inlX1 w h)
theorem hin_X5_howMany_RX3 : ∀ w ∈ wsX30, w ∈ vsX5_howMany := fun w h => inM (inlX3 w h)
theorem hin_X5_howMany_RX5 : ∀ w ∈ wsX50, w ∈ vsX5_howMany := fun w h => inM (inlX5 w h)
theorem fl_X5_howMany_10 : xFl vsX5_howMany RX5 10 4 0 := ⟨RX5, TX5, 13, rfl, by decide, hin_X5_howMany_RX5, inM mq_1_15, rfl⟩
theorem fl_X5_howMany_26 : xFl vsX5_howMany RX5 26 4 3 := ⟨RX5, TX5, 13, rfl, by decide, hin_X5_howMany_RX5, inM mq_1_21, rfl⟩
theorem fl_X5_howMany_69 : xFl vsX5_howMany RX5 69 1 0 := ⟨RX1, TX1, 14, rfl, by decide, hin_X5_howMany_RX1, inM mq_5_19, rfl⟩
theorem fl_X5_howMany_80 : xFl vsX5_howMany RX5 80 1 2 := ⟨RX1, TX1, 14, rfl, by decide, hin_X5_howMany_RX1, inM mq_6_22, rfl⟩
theorem fl_X5_howMany_83 : xFl vsX5_howMany RX5 83 1 1 := ⟨RX1, TX1, 14, rfl, by decide, hin_X5_howMany_RX1, inM mq_7_3, rfl⟩
theorem fl_X5_howMany_114 : xFl vsX5_howMany RX5 114 1 11 := ⟨RX1, TX1, 14, rfl, by decide, hin_X5_howMany_RX1, inM mq_11_21, rfl⟩
theorem fl_X5_howMany_129 : xFl vsX5_howMany RX5 129 1 6 := ⟨RX1, TX1, 14, rfl, by decide, hin_X5_howMany_RX1, inM mq_13_11, rfl⟩
theorem fl_X5_howMany_148 : xFl vsX5_howMany RX5 148 3 1 := ⟨RX3, TX3, 6, rfl, by decide, hin_X5_howMany_RX3, inM mq_15_4, rfl⟩
theorem fl_X5_howMany_219 : xFl vsX5_howMany RX5 219 1 9 := ⟨RX1, TX1, 14, rfl, by decide, hin_X5_howMany_RX1, inM mq_32_17, rfl⟩
theorem nyS_X5_howMany : yX5_howMany.cls ≠ "java/lang/invoke/MethodHandle" ∧ yX5_howMany.cls ≠ "java/lang/invoke/VarHandle" ∧ (parseMethodDescriptor yX5_howMany.desc).map (fun d => d.parameters.length) = some 1 := by decide +kernel
theorem nyV_X5_howMany : yX5_howMany.cls = RX5 ∧ yX5_howMany.cls ≠ "java/lang/invoke/MethodHandle" ∧ yX5_howMany.cls ≠ "java/lang/invoke/VarHandle" ∧ (parseMethodDescriptor yX5_howMany.desc).map (fun d => d.parameters.length) = some 1 := by decide +kernel
set_option maxHeartbeats 4000000 in
set_option maxRecDepth 100000 in
theorem c_X5_howMany (G : xG) (l : Launch) (fu : Nat) (S S' : xS) (p0 : Nat) (i0 : Int) (r : Int) (hf : f_X5_howMany fu S p0 i0 = some (r, S')) : Met l yX5_howMany vsX5_howMany rm_X5_howMany (va_Pc [.ref (xB G + p0), .int (iI i0)] (xPre G S)) (xQi G r S') 0 0 (xA G) := by
  refine kx_met (ret := (some .int)) RX5 [(0, .ref (xB G + p0)), (1, .int (iI i0))] (by decide) rfl rfl (Nat.le_of_ble_eq_true rfl) rfl (fun p e s m below meth c ls C hin I hl => ?_)
  unfold f_X5_howMany at hf
  refine kx_iload_n 0 C dX5_howMany_0 (lv_at hl 1 rfl) ?_
  by_cases c1 : wI i0 = 0
  · have hf := ifp c1 hf
    refine kx_tabIn 1 44 C 0 dX5_howMany_1 c1 (by decide) rfl (by decide) ?_
    refine kx_aload_n 44 C dX5_howMany_44 (lv_at hl 0 rfl) ?_
    obtain ⟨q3, h2, hf⟩ := ob hf
    refine kx_getp 45 C I fl_X5_howMany_10 h2 dX5_howMany_45 ?_
    obtain ⟨x5, h4, hf⟩ := ob hf
    refine kx_geti 48 C I fl_X5_howMany_69 h4 dX5_howMany_48 ?_
    exact kx_iret 51 C I hf dX5_howMany_51
  have hf := ifn c1 hf
  by_cases c6 : wI i0 = 1
  · have hf := ifp c6 hf
    refine kx_tabIn 1 52 C 1 dX5_howMany_1 c6 (by decide) rfl (by decide) ?_
    refine kx_aload_n 52 C dX5_howMany_52 (lv_at hl 0 rfl) ?_
    obtain ⟨q8, h7, hf⟩ := ob hf
    refine kx_getp 53 C I fl_X5_howMany_10 h7 dX5_howMany_53 ?_
    obtain ⟨x10, h9, hf⟩ := ob hf
    refine kx_geti 56 C I fl_X5_howMany_83 h9 dX5_howMany_56 ?_
    exact kx_iret 59 C I hf dX5_howMany_59
  have hf := ifn c6 hf
  by_cases c11 : wI i0 = 2
  · have hf := ifp c11 hf
    refine kx_tabIn 1 60 C 2 dX5_howMany_1 c11 (by decide) rfl (by decide) ?_
    refine kx_aload_n 60 C dX5_howMany_60 (lv_at hl 0 rfl) ?_
    obtain ⟨q13, h12, hf⟩ := ob hf
    refine kx_getp 61 C I fl_X5_howMany_10 h12 dX5_howMany_61 ?_
    obtain ⟨x15, h14, hf⟩ := ob hf
    refine kx_geti 64 C I fl_X5_howMany_80 h14 dX5_howMany_64 ?_
    exact kx_iret 67 C I hf dX5_howMany_67
  have hf := ifn c11 hf
  by_cases c16 : wI i0 = 3
  · have hf := ifp c16 hf
    refine kx_tabIn 1 68 C 3 dX5_howMany_1 c16 (by decide) rfl (by decide) ?_
    refine kx_aload_n 68 C dX5_howMany_68 (lv_at hl 0 rfl) ?_
    obtain ⟨q18, h17, hf⟩ := ob hf
    refine kx_getp 69 C I fl_X5_howMany_10 h17 dX5_howMany_69 ?_
    obtain ⟨h22, hf⟩ := ift hf
    obtain ⟨x21, S19, h20, hf⟩ := ob2 hf
    refine kx_callVi 72 C hl I (ci := 1) (As := []) (rest := []) (c_X1_knownCount G l fu _ _ _ _ h20) (cwV 0 C.ts gX5_howMany_X1_knownCount rfl rfl rfl nyV_X1_knownCount ⟨Nat.le_of_ble_eq_true rfl, Nat.le_of_ble_eq_true rfl⟩) rfl h22 rfl rfl (Nat.le_of_ble_eq_true rfl) dX5_howMany_72 ⟨Nat.le_of_ble_eq_true rfl, Nat.le_of_ble_eq_true rfl⟩ (fun H locs I => ?_)
    exact kx_iret 75 C I hf dX5_howMany_75
  have hf := ifn c16 hf
  by_cases c23 : wI i0 = 4
  · have hf := ifp c23 hf
    refine kx_tabIn 1 76 C 4 dX5_howMany_1 c23 (by decide) rfl (by decide) ?_
    refine kx_aload_n 76 C dX5_howMany_76 (lv_at hl 0 rfl) ?_
    obtain ⟨q25, h24, hf⟩ := ob hf
    refine kx_getp 77 C I fl_X5_howMany_10 h24 dX5_howMany_77 ?_
    obtain ⟨x27, h26, hf⟩ := ob hf
    refine kx_geti 80 C I fl_X5_howMany_129 h26 dX5_howMany_80 ?_
    exact kx_iret 83 C I hf dX5_howMany_83
  have hf := ifn c23 hf
  by_cases c28 : wI i0 = 5
  · have hf := ifp c28 hf
    refine kx_tabIn 1 84 C 5 dX5_howMany_1 c28 (by decide) rfl (by decide) ?_
    refine kx_aload_n 84 C dX5_howMany_84 (lv_at hl 0 rfl) ?_
    obtain ⟨q30, h29, hf⟩ := ob hf
    refine kx_getp 85 C I fl_X5_howMany_10 h29 dX5_howMany_85 ?_
    obtain ⟨x32, h31, hf⟩ := ob hf
    refine kx_geti 88 C I fl_X5_howMany_114 h31 dX5_howMany_88 ?_
    exact kx_iret 91 C I hf dX5_howMany_91
  have hf := ifn c28 hf
  by_cases c33 : wI i0 = 6
  · have hf := ifp c33 hf
    refine kx_tabIn 1 92 C 6 dX5_howMany_1 c33 (by decide) rfl (by decide) ?_
    refine kx_aload_n 92 C dX5_howMany_92 (lv_at hl 0 rfl) ?_
    obtain ⟨q35, h34, hf⟩ := ob hf
    refine kx_getp 93 C I fl_X5_howMany_26 h34 dX5_howMany_93 ?_
    obtain ⟨x37, h36, hf⟩ := ob hf
    refine kx_geti 96 C I fl_X5_howMany_148 h36 dX5_howMany_96 ?_
    exact kx_iret 99 C I hf dX5_howMany_99
  have hf := ifn c33 hf
  refine kx_tabOut 1 100 C dX5_howMany_1 (by omega) (by decide) ?_
  refine kx_aload_n 100 C dX5_howMany_100 (lv_at hl 0 rfl) ?_
  obtain ⟨q39, h38, hf⟩ := ob hf
  refine kx_getp 101 C I fl_X5_howMany_10 h38 dX5_howMany_101 ?_
  obtain ⟨x41, h40, hf⟩ := ob hf
  refine kx_geti 104 C I fl_X5_howMany_219 h40 dX5_howMany_104 ?_
  exact kx_iret 107 C I hf dX5_howMany_107
def rm_X5_count : Room := { frames := 2, cells := 0, slots := 0, locals := 43 }
theorem nyS_X5_count : yX5_count.cls ≠ "java/lang/invoke/MethodHandle" ∧ yX5_count.cls ≠ "java/lang/invoke/VarHandle" ∧ (parseMethodDescriptor yX5_count.desc).map (fun d => d.parameters.length) = some 1 := by decide +kernel
theorem nyV_X5_count : yX5_count.cls = RX5 ∧ yX5_count.cls ≠ "java/lang/invoke/MethodHandle" ∧ yX5_count.cls ≠ "java/lang/invoke/VarHandle" ∧ (parseMethodDescriptor yX5_count.desc).map (fun d => d.parameters.length) = some 1 := by decide +kernel
set_option maxHeartbeats 4000000 in
set_option maxRecDepth 100000 in
theorem w_X5_count {G : xG} {p : Program} {l : Launch} {e : Env} {s : State} {m : MethodId} {args : Array Value} {below : List Frame} {meth : Method} {c : Code} (C : xK G p s m args meth c cX5_count 2 vsX5_count RX5 (some .int)) (r : Int) (S' : xS) : ∀ k : Nat,
  (∀ (S : xS) (p0 : Nat) (i0 : Int) (H : Heap) (locs : List Loc) (ls : Array Slot), g_X5_count k 0 S p0 i0 = some (r, S') → xI G S s H locs → lv_has ls 2 [(0, .ref (xB G + p0)), (1, .int (iI i0))] → W p l e rm_X5_count s m args below meth c H locs 0 0 (MQ below (xQi G r S') args s 0 0 (xA G)) (F0 m 0 ls [])) ∧
  (∀ (S : xS) (p0 : Nat) (i0 : Int) (H : Heap) (locs : List Loc) (ls : Array Slot), g_X5_count k 1 S p0 i0 = some (r, S') → xI G S s H locs → lv_has ls 2 [(0, .ref (xB G + p0))] → W p l e rm_X5_count s m args below meth c H locs 0 0 (MQ below (xQi G r S') args s 0 0 (xA G)) (F0 m 10 ls [])) := by
  intro k
  induction k with
  | zero => exact ⟨fun _ _ _ _ _ _ hf => (by cases hf), fun _ _ _ _ _ _ hf => (by cases hf)⟩
  | succ fu ih =>
    obtain ⟨ih0, ih1⟩ := ih
    refine ⟨?_, ?_⟩
    · intro S p0 i0 H locs ls hf I hl
      replace hf : b_X5_count_0 (g_X5_count fu) fu S p0 i0 = some (r, S') := hf
      unfold b_X5_count_0 at hf
      refine kx_iload_n 0 C dX5_count_0 (lv_at hl 1 rfl) ?_
      refine kx_if_lt 1 10 C dX5_count_1 (by decide) (fun c1 => ?_) (fun c1 => ?_)
      · have hf := ifp c1 hf
        exact ih1 _ _ _ _ _ _ hf I (lv_sub hl [0] rfl)
      · have hf := ifn c1 hf
        refine kx_iload_n 4 C dX5_count_4 (lv_at hl 1 rfl) ?_
        refine kx_bipush 5 C dX5_count_5 (by decide) ?_
        refine kx_icmp_lt 7 15 C dX5_count_7 (by decide) (fun c2 => ?_) (fun c2 => ?_)
        · have hf := ifp c2 hf
          refine kx_aload_n 15 C dX5_count_15 (lv_at hl 0 rfl) ?_
          refine kx_iload_n 16 C dX5_count_16 (lv_at hl 1 rfl) ?_
          obtain ⟨h6, hf⟩ := ift hf
          obtain ⟨x5, S3, h4, hf⟩ := ob2 hf
          refine kx_callVi 17 C hl I (ci := 4) (As := [.int (iI i0)]) (rest := []) (c_X5_howMany G l fu _ _ _ _ _ h4) (cwV 1 C.ts gX5_count_X5_howMany rfl rfl rfl nyV_X5_howMany ⟨Nat.le_of_ble_eq_true rfl, Nat.le_of_ble_eq_true rfl⟩) rfl h6 rfl rfl (Nat.le_of_ble_eq_true rfl) dX5_count_17 ⟨Nat.le_of_ble_eq_true rfl, Nat.le_of_ble_eq_true rfl⟩ (fun H locs I => ?_)
          exact kx_iret 20 C I hf dX5_count_20
        · have hf := ifn c2 hf
          exact ih1 _ _ _ _ _ _ hf I (lv_sub hl [0] rfl)
    · intro S p0 i0 H locs ls hf I hl
      replace hf : b_X5_count_1 (g_X5_count fu) fu S p0 i0 = some (r, S') := hf
      unfold b_X5_count_1 at hf
      refine kx_aload_n 10 C dX5_count_10 (lv_at hl 0 rfl) ?_
      obtain ⟨h10, hf⟩ := ift hf
      obtain ⟨x9, S7, h8, hf⟩ := ob2 hf
      refine kx_callVi 11 C hl I (ci := 4) (As := []) (rest := []) (c_X5_refuseBad G l fu _ _ _ _ h8) (cwV 0 C.ts gX5_count_X5_refuseBad rfl rfl rfl nyV_X5_refuseBad ⟨Nat.le_of_ble_eq_true rfl, Nat.le_of_ble_eq_true rfl⟩) rfl h10 rfl rfl (Nat.le_of_ble_eq_true rfl) dX5_count_11 ⟨Nat.le_of_ble_eq_true rfl, Nat.le_of_ble_eq_true rfl⟩ (fun H locs I => ?_)
      exact kx_iret 14 C I hf dX5_count_14
set_option maxHeartbeats 4000000 in
set_option maxRecDepth 100000 in
theorem c_X5_count (G : xG) (l : Launch) (fu : Nat) (S S' : xS) (p0 : Nat) (i0 : Int) (r : Int) (hf : f_X5_count fu S p0 i0 = some (r, S')) : Met l yX5_count vsX5_count rm_X5_count (va_Pc [.ref (xB G + p0), .int (iI i0)] (xPre G S)) (xQi G r S') 0 0 (xA G) := by
  refine kx_met (ret := (some .int)) RX5 [(0, .ref (xB G + p0)), (1, .int (iI i0))] (by decide) rfl rfl (Nat.le_of_ble_eq_true rfl) rfl (fun p e s m below meth c ls C hin I hl => ?_)
  exact (w_X5_count C r S' fu).1 S _ _ _ _ _ hf I hl
def rm_X5_digest : Room := { frames := 2, cells := 0, slots := 0, locals := 43 }
theorem hin_X5_digest_RX1 : ∀ w ∈ wsX10, w ∈ vsX5_digest := fun w h => inM (inlX1 w h)
theorem hin_X5_digest_RX5 : ∀ w ∈ wsX50, w ∈ vsX5_digest := fun w h => inM (inlX5 w h)
theorem fl_X5_digest_10 : xFl vsX5_digest RX5 10 4 0 := ⟨RX5, TX5, 13, rfl, by decide, hin_X5_digest_RX5, inM mq_1_15, rfl⟩
theorem fl_X5_digest_48 : xFl vsX5_digest RX5 48 4 8 := ⟨RX5, TX5, 13, rfl, by decide, hin_X5_digest_RX5, inM mq_2_6, rfl⟩
theorem fl_X5_digest_52 : xFl vsX5_digest RX5 52 4 9 := ⟨RX5, TX5, 13, rfl, by decide, hin_X5_digest_RX5, inM mq_2_7, rfl⟩
theorem fl_X5_digest_69 : xFl vsX5_digest RX5 69 1 0 := ⟨RX1, TX1, 14, rfl, by decide, hin_X5_digest_RX1, inM mq_5_19, rfl⟩
theorem fl_X5_digest_90 : xFl vsX5_digest RX5 90 1 5 := ⟨RX1, TX1, 14, rfl, by decide, hin_X5_digest_RX1, inM mq_7_13, rfl⟩
theorem fl_X5_digest_96 : xFl vsX5_digest RX5 96 1 3 := ⟨RX1, TX1, 14, rfl, by decide, hin_X5_digest_RX1, inM mq_8_7, rfl⟩
theorem fl_X5_digest_123 : xFl vsX5_digest RX5 123 1 4 := ⟨RX1, TX1, 14, rfl, by decide, hin_X5_digest_RX1, inM mq_12_19, rfl⟩
theorem fl_X5_digest_129 : xFl vsX5_digest RX5 129 1 6 := ⟨RX1, TX1, 14, rfl, by decide, hin_X5_digest_RX1, inM mq_13_11, rfl⟩
theorem fl_X5_digest_219 : xFl vsX5_digest RX5 219 1 9 := ⟨RX1, TX1, 14, rfl, by decide, hin_X5_digest_RX1, inM mq_32_17, rfl⟩
theorem fl_X5_digest_301 : xFl vsX5_digest RX5 301 1 7 := ⟨RX1, TX1, 14, rfl, by decide, hin_X5_digest_RX1, inM mq_38_22, rfl⟩
theorem fl_X5_digest_304 : xFl vsX5_digest RX5 304 1 8 := ⟨RX1, TX1, 14, rfl, by decide, hin_X5_digest_RX1, inM mq_38_23, rfl⟩
theorem fl_X5_digest_307 : xFl vsX5_digest RX5 307 1 10 := ⟨RX1, TX1, 14, rfl, by decide, hin_X5_digest_RX1, inM mq_47_9, rfl⟩
theorem mw_X5_digest_0 : Cond.constantLong RX5 297 (823) ∈ vsX5_digest := inM mq_47_7
theorem mw_X5_digest_1 : Cond.constantLong RX5 299 (31) ∈ vsX5_digest := inM mq_47_8
theorem nyS_X5_digest : yX5_digest.cls ≠ "java/lang/invoke/MethodHandle" ∧ yX5_digest.cls ≠ "java/lang/invoke/VarHandle" ∧ (parseMethodDescriptor yX5_digest.desc).map (fun d => d.parameters.length) = some 0 := by decide +kernel
theorem nyV_X5_digest : yX5_digest.cls = RX5 ∧ yX5_digest.cls ≠ "java/lang/invoke/MethodHandle" ∧ yX5_digest.cls ≠ "java/lang/invoke/VarHandle" ∧ (parseMethodDescriptor yX5_digest.desc).map (fun d => d.parameters.length) = some 0 := by decide +kernel
set_option maxHeartbeats 4000000 in
set_option maxRecDepth 100000 in
theorem w_X5_digest {G : xG} {p : Program} {l : Launch} {e : Env} {s : State} {m : MethodId} {args : Array Value} {below : List Frame} {meth : Method} {c : Code} (C : xK G p s m args meth c cX5_digest 4 vsX5_digest RX5 (some .long)) (r : Int) (S' : xS) : ∀ k : Nat,
  (∀ (S : xS) (p0 : Nat) (i0 i1 : Int) (H : Heap) (locs : List Loc) (ls : Array Slot), g_X5_digest k 0 S p0 i0 i1 = some (r, S') → xI G S s H locs → lv_has ls 4 [(0, .ref (xB G + p0))] → W p l e rm_X5_digest s m args below meth c H locs 0 0 (MQ below (xQl G r S') args s 0 0 (xA G)) (F0 m 0 ls [])) ∧
  (∀ (S : xS) (p0 : Nat) (i0 i1 : Int) (H : Heap) (locs : List Loc) (ls : Array Slot), g_X5_digest k 1 S p0 i0 i1 = some (r, S') → xI G S s H locs → lv_has ls 4 [(0, .ref (xB G + p0)), (1, .long (lI i0)), (3, .int (iI i1))] → W p l e rm_X5_digest s m args below meth c H locs 0 0 (MQ below (xQl G r S') args s 0 0 (xA G)) (F0 m 6 ls [])) ∧
  (∀ (S : xS) (p0 : Nat) (i0 i1 : Int) (H : Heap) (locs : List Loc) (ls : Array Slot), g_X5_digest k 2 S p0 i0 i1 = some (r, S') → xI G S s H locs → lv_has ls 4 [(0, .ref (xB G + p0)), (1, .long (lI i0)), (3, .int (iI i1))] → W p l e rm_X5_digest s m args below meth c H locs 0 0 (MQ below (xQl G r S') args s 0 0 (xA G)) (F0 m 33 ls [])) ∧
  (∀ (S : xS) (p0 : Nat) (i0 i1 : Int) (H : Heap) (locs : List Loc) (ls : Array Slot), g_X5_digest k 3 S p0 i0 i1 = some (r, S') → xI G S s H locs → lv_has ls 4 [(0, .ref (xB G + p0)), (1, .long (lI i0)), (3, .int (iI i1))] → W p l e rm_X5_digest s m args below meth c H locs 0 0 (MQ below (xQl G r S') args s 0 0 (xA G)) (F0 m 86 ls [])) ∧
  (∀ (S : xS) (p0 : Nat) (i0 i1 : Int) (H : Heap) (locs : List Loc) (ls : Array Slot), g_X5_digest k 4 S p0 i0 i1 = some (r, S') → xI G S s H locs → lv_has ls 4 [(0, .ref (xB G + p0)), (1, .long (lI i0)), (3, .int (iI i1))] → W p l e rm_X5_digest s m args below meth c H locs 0 0 (MQ below (xQl G r S') args s 0 0 (xA G)) (F0 m 122 ls [])) ∧
  (∀ (S : xS) (p0 : Nat) (i0 i1 : Int) (H : Heap) (locs : List Loc) (ls : Array Slot), g_X5_digest k 5 S p0 i0 i1 = some (r, S') → xI G S s H locs → lv_has ls 4 [(0, .ref (xB G + p0)), (1, .long (lI i0)), (3, .int (iI i1))] → W p l e rm_X5_digest s m args below meth c H locs 0 0 (MQ below (xQl G r S') args s 0 0 (xA G)) (F0 m 175 ls [])) := by
  intro k
  induction k with
  | zero => exact ⟨fun _ _ _ _ _ _ _ hf => (by cases hf), fun _ _ _ _ _ _ _ hf => (by cases hf), fun _ _ _ _ _ _ _ hf => (by cases hf), fun _ _ _ _ _ _ _ hf => (by cases hf), fun _ _ _ _ _ _ _ hf => (by cases hf), fun _ _ _ _ _ _ _ hf => (by cases hf)⟩
  | succ fu ih =>
    obtain ⟨ih0, ih1, ih2, ih3, ih4, ih5⟩ := ih
    refine ⟨?_, ?_, ?_, ?_, ?_, ?_⟩
    · intro S p0 i0 i1 H locs ls hf I hl
      replace hf : b_X5_digest_0 (g_X5_digest fu) fu S p0 i0 i1 = some (r, S') := hf
      unfold b_X5_digest_0 at hf
      refine kx_ldc2 0 C (z := 823) mw_X5_digest_0 dX5_digest_0 (by decide) ?_
      refine kx_lstore_n 3 C (lv' := [(1, .long (lI 823)), (0, .ref (xB G + p0))]) dX5_digest_3 hl (by decide) rfl rfl (fun ls hl => ?_)
      refine kx_iconst 4 C dX5_digest_4 ?_
      refine kx_istore_n 5 C (lv' := [(3, .int (iI 0)), (1, .long (lI 823)), (0, .ref (xB G + p0))]) dX5_digest_5 hl (by decide) rfl rfl (fun ls hl => ?_)
      exact ih1 _ _ _ _ _ _ _ hf I (lv_sub hl [2, 1, 0] rfl)
    · intro S p0 i0 i1 H locs ls hf I hl
      replace hf : b_X5_digest_1 (g_X5_digest fu) fu S p0 i0 i1 = some (r, S') := hf
      unfold b_X5_digest_1 at hf
      refine kx_iload_n 6 C dX5_digest_6 (lv_at hl 2 rfl) ?_
      refine kx_bipush 7 C dX5_digest_7 (by decide) ?_
      refine kx_icmp_ge 9 31 C dX5_digest_9 (by decide) (fun c1 => ?_) (fun c1 => ?_)
      · have hf := ifp c1 hf
        refine kx_iconst 31 C dX5_digest_31 ?_
        refine kx_istore_n 32 C (lv' := [(3, .int (iI 0)), (0, .ref (xB G + p0)), (1, .long (lI i0))]) dX5_digest_32 hl (by decide) rfl rfl (fun ls hl => ?_)
        exact ih2 _ _ _ _ _ _ _ hf I (lv_sub hl [1, 2, 0] rfl)
      · have hf := ifn c1 hf
        refine kx_ldc2 12 C (z := 31) mw_X5_digest_1 dX5_digest_12 (by decide) ?_
        refine kx_lload_n 15 C dX5_digest_15 (lv_at hl 1 rfl) ?_
        refine kx_lmul 16 C dX5_digest_16 ?_
        refine kx_aload_n 17 C dX5_digest_17 (lv_at hl 0 rfl) ?_
        refine kx_iload_n 18 C dX5_digest_18 (lv_at hl 2 rfl) ?_
        obtain ⟨h5, hf⟩ := ift hf
        obtain ⟨x4, S2, h3, hf⟩ := ob2 hf
        refine kx_callVi 19 C hl I (ci := 4) (As := [.int (iI i1)]) (rest := [.long (lI (31 * i0))]) (c_X5_howMany G l fu _ _ _ _ _ h3) (cwV 1 C.ts gX5_digest_X5_howMany rfl rfl rfl nyV_X5_howMany ⟨Nat.le_of_ble_eq_true rfl, Nat.le_of_ble_eq_true rfl⟩) rfl h5 rfl rfl (Nat.le_of_ble_eq_true rfl) dX5_digest_19 ⟨Nat.le_of_ble_eq_true rfl, Nat.le_of_ble_eq_true rfl⟩ (fun H locs I => ?_)
        refine kx_i2l 22 C dX5_digest_22 ?_
        refine kx_ladd 23 C dX5_digest_23 ?_
        obtain ⟨x6, e7, hf⟩ := nmx_e hf
        refine kx_lstore_n 24 C (lv' := [(1, .long (lI x6)), (0, .ref (xB G + p0)), (3, .int (iI i1))]) dX5_digest_24 hl (by decide) e7 rfl (fun ls hl => ?_)
        obtain ⟨x8, e9, hf⟩ := nmx_e hf
        refine kx_iinc 25 C (lv' := [(3, .int (iI x8)), (1, .long (lI x6)), (0, .ref (xB G + p0))]) dX5_digest_25 hl 2 rfl e9 (by decide) rfl (fun ls hl => ?_)
        refine kx_goto 28 6 C dX5_digest_28 (by decide) ?_
        exact ih1 _ _ _ _ _ _ _ hf I (lv_sub hl [2, 1, 0] rfl)
    · intro S p0 i0 i1 H locs ls hf I hl
      replace hf : b_X5_digest_2 (g_X5_digest fu) fu S p0 i0 i1 = some (r, S') := hf
      unfold b_X5_digest_2 at hf
      refine kx_iload_n 33 C dX5_digest_33 (lv_at hl 2 rfl) ?_
      refine kx_aload_n 34 C dX5_digest_34 (lv_at hl 0 rfl) ?_
      obtain ⟨q11, h10, hf⟩ := ob hf
      refine kx_getp 35 C I fl_X5_digest_10 h10 dX5_digest_35 ?_
      obtain ⟨x13, h12, hf⟩ := ob hf
      refine kx_geti 38 C I fl_X5_digest_69 h12 dX5_digest_38 ?_
      refine kx_icmp_ge 41 84 C dX5_digest_41 (by decide) (fun c14 => ?_) (fun c14 => ?_)
      · have hf := ifp c14 hf
        refine kx_iconst 84 C dX5_digest_84 ?_
        refine kx_istore_n 85 C (lv' := [(3, .int (iI 0)), (0, .ref (xB G + p0)), (1, .long (lI i0))]) dX5_digest_85 hl (by decide) rfl rfl (fun ls hl => ?_)
        exact ih3 _ _ _ _ _ _ _ hf I (lv_sub hl [1, 2, 0] rfl)
      · have hf := ifn c14 hf
        refine kx_ldc2 44 C (z := 31) mw_X5_digest_1 dX5_digest_44 (by decide) ?_
        refine kx_lload_n 47 C dX5_digest_47 (lv_at hl 1 rfl) ?_
        refine kx_lmul 48 C dX5_digest_48 ?_
        refine kx_aload_n 49 C dX5_digest_49 (lv_at hl 0 rfl) ?_
        obtain ⟨q16, h15, hf⟩ := ob hf
        refine kx_getp 50 C I fl_X5_digest_10 h15 dX5_digest_50 ?_
        obtain ⟨q18, h17, hf⟩ := ob hf
        refine kx_getp 53 C I fl_X5_digest_96 h17 dX5_digest_53 ?_
        refine kx_iload_n 56 C dX5_digest_56 (lv_at hl 2 rfl) ?_
        obtain ⟨x19, h20, hf⟩ := ob hf
        refine kx_iald 57 C I h20 dX5_digest_57 ?_
        refine kx_i2l 58 C dX5_digest_58 ?_
        refine kx_ladd 59 C dX5_digest_59 ?_
        obtain ⟨x21, e22, hf⟩ := nmx_e hf
        refine kx_lstore_n 60 C (lv' := [(1, .long (lI x21)), (0, .ref (xB G + p0)), (3, .int (iI i1))]) dX5_digest_60 hl (by decide) e22 rfl (fun ls hl => ?_)
        refine kx_ldc2 61 C (z := 31) mw_X5_digest_1 dX5_digest_61 (by decide) ?_
        refine kx_lload_n 64 C dX5_digest_64 (lv_at hl 0 rfl) ?_
        refine kx_lmul 65 C dX5_digest_65 ?_
        refine kx_aload_n 66 C dX5_digest_66 (lv_at hl 1 rfl) ?_
        obtain ⟨q24, h23, hf⟩ := ob hf
        refine kx_getp 67 C I fl_X5_digest_10 h23 dX5_digest_67 ?_
        obtain ⟨q26, h25, hf⟩ := ob hf
        refine kx_getp 70 C I fl_X5_digest_123 h25 dX5_digest_70 ?_
        refine kx_iload_n 73 C dX5_digest_73 (lv_at hl 2 rfl) ?_
        obtain ⟨x27, h28, hf⟩ := ob hf
        refine kx_iald 74 C I h28 dX5_digest_74 ?_
        refine kx_i2l 75 C dX5_digest_75 ?_
        refine kx_ladd 76 C dX5_digest_76 ?_
        obtain ⟨x29, e30, hf⟩ := nmx_e hf
        refine kx_lstore_n 77 C (lv' := [(1, .long (lI x29)), (0, .ref (xB G + p0)), (3, .int (iI i1))]) dX5_digest_77 hl (by decide) e30 rfl (fun ls hl => ?_)
        obtain ⟨x31, e32, hf⟩ := nmx_e hf
        refine kx_iinc 78 C (lv' := [(3, .int (iI x31)), (1, .long (lI x29)), (0, .ref (xB G + p0))]) dX5_digest_78 hl 2 rfl e32 (by decide) rfl (fun ls hl => ?_)
        refine kx_goto 81 33 C dX5_digest_81 (by decide) ?_
        exact ih2 _ _ _ _ _ _ _ hf I (lv_sub hl [2, 1, 0] rfl)
    · intro S p0 i0 i1 H locs ls hf I hl
      replace hf : b_X5_digest_3 (g_X5_digest fu) fu S p0 i0 i1 = some (r, S') := hf
      unfold b_X5_digest_3 at hf
      refine kx_iload_n 86 C dX5_digest_86 (lv_at hl 2 rfl) ?_
      refine kx_aload_n 87 C dX5_digest_87 (lv_at hl 0 rfl) ?_
      obtain ⟨q34, h33, hf⟩ := ob hf
      refine kx_getp 88 C I fl_X5_digest_10 h33 dX5_digest_88 ?_
      obtain ⟨x36, h35, hf⟩ := ob hf
      refine kx_geti 91 C I fl_X5_digest_69 h35 dX5_digest_91 ?_
      refine kx_icmp_ge 94 120 C dX5_digest_94 (by decide) (fun c37 => ?_) (fun c37 => ?_)
      · have hf := ifp c37 hf
        refine kx_iconst 120 C dX5_digest_120 ?_
        refine kx_istore_n 121 C (lv' := [(3, .int (iI 0)), (0, .ref (xB G + p0)), (1, .long (lI i0))]) dX5_digest_121 hl (by decide) rfl rfl (fun ls hl => ?_)
        exact ih4 _ _ _ _ _ _ _ hf I (lv_sub hl [1, 2, 0] rfl)
      · have hf := ifn c37 hf
        refine kx_ldc2 97 C (z := 31) mw_X5_digest_1 dX5_digest_97 (by decide) ?_
        refine kx_lload_n 100 C dX5_digest_100 (lv_at hl 1 rfl) ?_
        refine kx_lmul 101 C dX5_digest_101 ?_
        refine kx_aload_n 102 C dX5_digest_102 (lv_at hl 0 rfl) ?_
        obtain ⟨q39, h38, hf⟩ := ob hf
        refine kx_getp 103 C I fl_X5_digest_10 h38 dX5_digest_103 ?_
        obtain ⟨q41, h40, hf⟩ := ob hf
        refine kx_getp 106 C I fl_X5_digest_90 h40 dX5_digest_106 ?_
        refine kx_iload_n 109 C dX5_digest_109 (lv_at hl 2 rfl) ?_
        obtain ⟨x42, h43, hf⟩ := ob hf
        refine kx_iald 110 C I h43 dX5_digest_110 ?_
        refine kx_i2l 111 C dX5_digest_111 ?_
        refine kx_ladd 112 C dX5_digest_112 ?_
        obtain ⟨x44, e45, hf⟩ := nmx_e hf
        refine kx_lstore_n 113 C (lv' := [(1, .long (lI x44)), (0, .ref (xB G + p0)), (3, .int (iI i1))]) dX5_digest_113 hl (by decide) e45 rfl (fun ls hl => ?_)
        obtain ⟨x46, e47, hf⟩ := nmx_e hf
        refine kx_iinc 114 C (lv' := [(3, .int (iI x46)), (1, .long (lI x44)), (0, .ref (xB G + p0))]) dX5_digest_114 hl 2 rfl e47 (by decide) rfl (fun ls hl => ?_)
        refine kx_goto 117 86 C dX5_digest_117 (by decide) ?_
        exact ih3 _ _ _ _ _ _ _ hf I (lv_sub hl [2, 1, 0] rfl)
    · intro S p0 i0 i1 H locs ls hf I hl
      replace hf : b_X5_digest_4 (g_X5_digest fu) fu S p0 i0 i1 = some (r, S') := hf
      unfold b_X5_digest_4 at hf
      refine kx_iload_n 122 C dX5_digest_122 (lv_at hl 2 rfl) ?_
      refine kx_aload_n 123 C dX5_digest_123 (lv_at hl 0 rfl) ?_
      obtain ⟨q49, h48, hf⟩ := ob hf
      refine kx_getp 124 C I fl_X5_digest_10 h48 dX5_digest_124 ?_
      obtain ⟨x51, h50, hf⟩ := ob hf
      refine kx_geti 127 C I fl_X5_digest_129 h50 dX5_digest_127 ?_
      refine kx_icmp_ge 130 173 C dX5_digest_130 (by decide) (fun c52 => ?_) (fun c52 => ?_)
      · have hf := ifp c52 hf
        refine kx_iconst 173 C dX5_digest_173 ?_
        refine kx_istore_n 174 C (lv' := [(3, .int (iI 0)), (0, .ref (xB G + p0)), (1, .long (lI i0))]) dX5_digest_174 hl (by decide) rfl rfl (fun ls hl => ?_)
        exact ih5 _ _ _ _ _ _ _ hf I (lv_sub hl [1, 2, 0] rfl)
      · have hf := ifn c52 hf
        refine kx_ldc2 133 C (z := 31) mw_X5_digest_1 dX5_digest_133 (by decide) ?_
        refine kx_lload_n 136 C dX5_digest_136 (lv_at hl 1 rfl) ?_
        refine kx_lmul 137 C dX5_digest_137 ?_
        refine kx_aload_n 138 C dX5_digest_138 (lv_at hl 0 rfl) ?_
        obtain ⟨q54, h53, hf⟩ := ob hf
        refine kx_getp 139 C I fl_X5_digest_10 h53 dX5_digest_139 ?_
        obtain ⟨q56, h55, hf⟩ := ob hf
        refine kx_getp 142 C I fl_X5_digest_301 h55 dX5_digest_142 ?_
        refine kx_iload_n 145 C dX5_digest_145 (lv_at hl 2 rfl) ?_
        obtain ⟨x57, h58, hf⟩ := ob hf
        refine kx_iald 146 C I h58 dX5_digest_146 ?_
        refine kx_i2l 147 C dX5_digest_147 ?_
        refine kx_ladd 148 C dX5_digest_148 ?_
        obtain ⟨x59, e60, hf⟩ := nmx_e hf
        refine kx_lstore_n 149 C (lv' := [(1, .long (lI x59)), (0, .ref (xB G + p0)), (3, .int (iI i1))]) dX5_digest_149 hl (by decide) e60 rfl (fun ls hl => ?_)
        refine kx_ldc2 150 C (z := 31) mw_X5_digest_1 dX5_digest_150 (by decide) ?_
        refine kx_lload_n 153 C dX5_digest_153 (lv_at hl 0 rfl) ?_
        refine kx_lmul 154 C dX5_digest_154 ?_
        refine kx_aload_n 155 C dX5_digest_155 (lv_at hl 1 rfl) ?_
        obtain ⟨q62, h61, hf⟩ := ob hf
        refine kx_getp 156 C I fl_X5_digest_10 h61 dX5_digest_156 ?_
        obtain ⟨q64, h63, hf⟩ := ob hf
        refine kx_getp 159 C I fl_X5_digest_304 h63 dX5_digest_159 ?_
        refine kx_iload_n 162 C dX5_digest_162 (lv_at hl 2 rfl) ?_
        obtain ⟨x65, h66, hf⟩ := ob hf
        refine kx_iald 163 C I h66 dX5_digest_163 ?_
        refine kx_i2l 164 C dX5_digest_164 ?_
        refine kx_ladd 165 C dX5_digest_165 ?_
        obtain ⟨x67, e68, hf⟩ := nmx_e hf
        refine kx_lstore_n 166 C (lv' := [(1, .long (lI x67)), (0, .ref (xB G + p0)), (3, .int (iI i1))]) dX5_digest_166 hl (by decide) e68 rfl (fun ls hl => ?_)
        obtain ⟨x69, e70, hf⟩ := nmx_e hf
        refine kx_iinc 167 C (lv' := [(3, .int (iI x69)), (1, .long (lI x67)), (0, .ref (xB G + p0))]) dX5_digest_167 hl 2 rfl e70 (by decide) rfl (fun ls hl => ?_)
        refine kx_goto 170 122 C dX5_digest_170 (by decide) ?_
        exact ih4 _ _ _ _ _ _ _ hf I (lv_sub hl [2, 1, 0] rfl)
    · intro S p0 i0 i1 H locs ls hf I hl
      replace hf : b_X5_digest_5 (g_X5_digest fu) fu S p0 i0 i1 = some (r, S') := hf
      unfold b_X5_digest_5 at hf
      refine kx_iload_n 175 C dX5_digest_175 (lv_at hl 2 rfl) ?_
      refine kx_aload_n 176 C dX5_digest_176 (lv_at hl 0 rfl) ?_
      obtain ⟨q72, h71, hf⟩ := ob hf
      refine kx_getp 177 C I fl_X5_digest_10 h71 dX5_digest_177 ?_
      obtain ⟨x74, h73, hf⟩ := ob hf
      refine kx_geti 180 C I fl_X5_digest_219 h73 dX5_digest_180 ?_
      refine kx_icmp_ge 183 209 C dX5_digest_183 (by decide) (fun c75 => ?_) (fun c75 => ?_)
      · have hf := ifp c75 hf
        refine kx_ldc2 209 C (z := 31) mw_X5_digest_1 dX5_digest_209 (by decide) ?_
        refine kx_lload_n 212 C dX5_digest_212 (lv_at hl 1 rfl) ?_
        refine kx_lmul 213 C dX5_digest_213 ?_
        refine kx_aload_n 214 C dX5_digest_214 (lv_at hl 0 rfl) ?_
        obtain ⟨x77, h76, hf⟩ := ob hf
        refine kx_getl 215 C I fl_X5_digest_48 h76 dX5_digest_215 ?_
        refine kx_ladd 218 C dX5_digest_218 ?_
        obtain ⟨x78, e79, hf⟩ := nmx_e hf
        refine kx_lstore_n 219 C (lv' := [(1, .long (lI x78)), (0, .ref (xB G + p0)), (3, .int (iI i1))]) dX5_digest_219 hl (by decide) e79 rfl (fun ls hl => ?_)
        refine kx_ldc2 220 C (z := 31) mw_X5_digest_1 dX5_digest_220 (by decide) ?_
        refine kx_lload_n 223 C dX5_digest_223 (lv_at hl 0 rfl) ?_
        refine kx_lmul 224 C dX5_digest_224 ?_
        refine kx_aload_n 225 C dX5_digest_225 (lv_at hl 1 rfl) ?_
        obtain ⟨x81, h80, hf⟩ := ob hf
        refine kx_getl 226 C I fl_X5_digest_52 h80 dX5_digest_226 ?_
        refine kx_ladd 229 C dX5_digest_229 ?_
        exact kx_lret 230 C I hf dX5_digest_230
      · have hf := ifn c75 hf
        refine kx_ldc2 186 C (z := 31) mw_X5_digest_1 dX5_digest_186 (by decide) ?_
        refine kx_lload_n 189 C dX5_digest_189 (lv_at hl 1 rfl) ?_
        refine kx_lmul 190 C dX5_digest_190 ?_
        refine kx_aload_n 191 C dX5_digest_191 (lv_at hl 0 rfl) ?_
        obtain ⟨q83, h82, hf⟩ := ob hf
        refine kx_getp 192 C I fl_X5_digest_10 h82 dX5_digest_192 ?_
        obtain ⟨q85, h84, hf⟩ := ob hf
        refine kx_getp 195 C I fl_X5_digest_307 h84 dX5_digest_195 ?_
        refine kx_iload_n 198 C dX5_digest_198 (lv_at hl 2 rfl) ?_
        obtain ⟨x86, h87, hf⟩ := ob hf
        refine kx_iald 199 C I h87 dX5_digest_199 ?_
        refine kx_i2l 200 C dX5_digest_200 ?_
        refine kx_ladd 201 C dX5_digest_201 ?_
        obtain ⟨x88, e89, hf⟩ := nmx_e hf
        refine kx_lstore_n 202 C (lv' := [(1, .long (lI x88)), (0, .ref (xB G + p0)), (3, .int (iI i1))]) dX5_digest_202 hl (by decide) e89 rfl (fun ls hl => ?_)
        obtain ⟨x90, e91, hf⟩ := nmx_e hf
        refine kx_iinc 203 C (lv' := [(3, .int (iI x90)), (1, .long (lI x88)), (0, .ref (xB G + p0))]) dX5_digest_203 hl 2 rfl e91 (by decide) rfl (fun ls hl => ?_)
        refine kx_goto 206 175 C dX5_digest_206 (by decide) ?_
        exact ih5 _ _ _ _ _ _ _ hf I (lv_sub hl [2, 1, 0] rfl)
set_option maxHeartbeats 4000000 in
set_option maxRecDepth 100000 in
theorem c_X5_digest (G : xG) (l : Launch) (fu : Nat) (S S' : xS) (p0 : Nat) (r : Int) (hf : f_X5_digest fu S p0 = some (r, S')) : Met l yX5_digest vsX5_digest rm_X5_digest (va_Pc [.ref (xB G + p0)] (xPre G S)) (xQl G r S') 0 0 (xA G) := by
  refine kx_met (ret := (some .long)) RX5 [(0, .ref (xB G + p0))] (by decide) rfl rfl (Nat.le_of_ble_eq_true rfl) rfl (fun p e s m below meth c ls C hin I hl => ?_)
  exact (w_X5_digest C r S' fu).1 S _ _ _ _ _ _ hf I hl
def rm_X6_begin : Room := { frames := 0, cells := 0, slots := 0, locals := 0 }
theorem nyS_X6_begin : yX6_begin.cls ≠ "java/lang/invoke/MethodHandle" ∧ yX6_begin.cls ≠ "java/lang/invoke/VarHandle" ∧ (parseMethodDescriptor yX6_begin.desc).map (fun d => d.parameters.length) = some 2 := by decide +kernel
set_option maxHeartbeats 4000000 in
set_option maxRecDepth 100000 in
theorem w_X6_begin {G : xG} {p : Program} {l : Launch} {e : Env} {s : State} {m : MethodId} {args : Array Value} {below : List Frame} {meth : Method} {c : Code} (C : xK G p s m args meth c cX6_begin 3 vsX6_begin RX6 none) (r : Int) (S' : xS) : ∀ k : Nat,
  (∀ (S : xS) (p0 : Nat) (i0 : Int) (H : Heap) (locs : List Loc) (ls : Array Slot), g_X6_begin k 0 S p0 i0 = some (r, S') → xI G S s H locs → lv_has ls 3 [(0, .ref (xB G + p0)), (1, .int (iI i0))] → W p l e rm_X6_begin s m args below meth c H locs 0 0 (MQ below (xQv G S') args s 0 0 (xA G)) (F0 m 0 ls [])) ∧
  (∀ (S : xS) (p0 : Nat) (i0 : Int) (H : Heap) (locs : List Loc) (ls : Array Slot), g_X6_begin k 1 S p0 i0 = some (r, S') → xI G S s H locs → lv_has ls 3 [(0, .ref (xB G + p0)), (2, .int (iI i0))] → W p l e rm_X6_begin s m args below meth c H locs 0 0 (MQ below (xQv G S') args s 0 0 (xA G)) (F0 m 14 ls [])) := by
  intro k
  induction k with
  | zero => exact ⟨fun _ _ _ _ _ _ hf => (by cases hf), fun _ _ _ _ _ _ hf => (by cases hf)⟩
  | succ fu ih =>
    obtain ⟨ih0, ih1⟩ := ih
    refine ⟨?_, ?_⟩
    · intro S p0 i0 H locs ls hf I hl
      replace hf : b_X6_begin_0 (g_X6_begin fu) fu S p0 i0 = some (r, S') := hf
      unfold b_X6_begin_0 at hf
      refine kx_aload_n 0 C dX6_begin_0 (lv_at hl 0 rfl) ?_
      refine kx_iconst 1 C dX6_begin_1 ?_
      refine kx_iload_n 2 C dX6_begin_2 (lv_at hl 1 rfl) ?_
      obtain ⟨S2, h1, hf⟩ := ob hf
      refine kx_iast 3 C I h1 dX6_begin_3 (fun H locs I => ?_)
      refine kx_aload_n 4 C dX6_begin_4 (lv_at hl 0 rfl) ?_
      refine kx_iconst 5 C dX6_begin_5 ?_
      refine kx_iconst 6 C dX6_begin_6 ?_
      obtain ⟨S4, h3, hf⟩ := ob hf
      refine kx_iast 7 C I h3 dX6_begin_7 (fun H locs I => ?_)
      refine kx_aload_n 8 C dX6_begin_8 (lv_at hl 0 rfl) ?_
      refine kx_iconst 9 C dX6_begin_9 ?_
      refine kx_iconst 10 C dX6_begin_10 ?_
      obtain ⟨S6, h5, hf⟩ := ob hf
      refine kx_iast 11 C I h5 dX6_begin_11 (fun H locs I => ?_)
      refine kx_iconst 12 C dX6_begin_12 ?_
      refine kx_istore_n 13 C (lv' := [(2, .int (iI 0)), (0, .ref (xB G + p0)), (1, .int (iI i0))]) dX6_begin_13 hl (by decide) rfl rfl (fun ls hl => ?_)
      exact ih1 _ _ _ _ _ _ hf I (lv_sub hl [1, 0] rfl)
    · intro S p0 i0 H locs ls hf I hl
      replace hf : b_X6_begin_1 (g_X6_begin fu) fu S p0 i0 = some (r, S') := hf
      unfold b_X6_begin_1 at hf
      refine kx_iload_n 14 C dX6_begin_14 (lv_at hl 1 rfl) ?_
      refine kx_bipush 15 C dX6_begin_15 (by decide) ?_
      refine kx_icmp_ge 17 46 C dX6_begin_17 (by decide) (fun c7 => ?_) (fun c7 => ?_)
      · have hf := ifp c7 hf
        refine kx_aload_n 46 C dX6_begin_46 (lv_at hl 0 rfl) ?_
        refine kx_bipush 47 C dX6_begin_47 (by decide) ?_
        refine kx_iconst 49 C dX6_begin_49 ?_
        obtain ⟨S9, h8, hf⟩ := ob hf
        refine kx_iast 50 C I h8 dX6_begin_50 (fun H locs I => ?_)
        refine kx_aload_n 51 C dX6_begin_51 (lv_at hl 0 rfl) ?_
        refine kx_bipush 52 C dX6_begin_52 (by decide) ?_
        refine kx_iconst 54 C dX6_begin_54 ?_
        obtain ⟨S11, h10, hf⟩ := ob hf
        refine kx_iast 55 C I h10 dX6_begin_55 (fun H locs I => ?_)
        refine kx_aload_n 56 C dX6_begin_56 (lv_at hl 0 rfl) ?_
        refine kx_bipush 57 C dX6_begin_57 (by decide) ?_
        refine kx_iconst 59 C dX6_begin_59 ?_
        obtain ⟨S13, h12, hf⟩ := ob hf
        refine kx_iast 60 C I h12 dX6_begin_60 (fun H locs I => ?_)
        exact kx_vret 61 C I hf dX6_begin_61
      · have hf := ifn c7 hf
        refine kx_aload_n 20 C dX6_begin_20 (lv_at hl 0 rfl) ?_
        refine kx_iconst 21 C dX6_begin_21 ?_
        refine kx_iload_n 22 C dX6_begin_22 (lv_at hl 1 rfl) ?_
        refine kx_iadd 23 C dX6_begin_23 ?_
        refine kx_iload_n 24 C dX6_begin_24 (lv_at hl 1 rfl) ?_
        obtain ⟨S15, h14, hf⟩ := ob hf
        refine kx_iast 25 C I h14 dX6_begin_25 (fun H locs I => ?_)
        refine kx_aload_n 26 C dX6_begin_26 (lv_at hl 0 rfl) ?_
        refine kx_bipush 27 C dX6_begin_27 (by decide) ?_
        refine kx_iload_n 29 C dX6_begin_29 (lv_at hl 1 rfl) ?_
        refine kx_iadd 30 C dX6_begin_30 ?_
        refine kx_iconst 31 C dX6_begin_31 ?_
        obtain ⟨S17, h16, hf⟩ := ob hf
        refine kx_iast 32 C I h16 dX6_begin_32 (fun H locs I => ?_)
        refine kx_aload_n 33 C dX6_begin_33 (lv_at hl 0 rfl) ?_
        refine kx_bipush 34 C dX6_begin_34 (by decide) ?_
        refine kx_iload_n 36 C dX6_begin_36 (lv_at hl 1 rfl) ?_
        refine kx_iadd 37 C dX6_begin_37 ?_
        refine kx_iconst 38 C dX6_begin_38 ?_
        obtain ⟨S19, h18, hf⟩ := ob hf
        refine kx_iast 39 C I h18 dX6_begin_39 (fun H locs I => ?_)
        obtain ⟨x20, e21, hf⟩ := nmx_e hf
        refine kx_iinc 40 C (lv' := [(2, .int (iI x20)), (0, .ref (xB G + p0))]) dX6_begin_40 hl 1 rfl e21 (by decide) rfl (fun ls hl => ?_)
        refine kx_goto 43 14 C dX6_begin_43 (by decide) ?_
        exact ih1 _ _ _ _ _ _ hf I (lv_sub hl [1, 0] rfl)
set_option maxHeartbeats 4000000 in
set_option maxRecDepth 100000 in
theorem c_X6_begin (G : xG) (l : Launch) (fu : Nat) (S S' : xS) (p0 : Nat) (i0 : Int) (r : Int) (hf : f_X6_begin fu S p0 i0 = some (r, S')) : Met l yX6_begin vsX6_begin rm_X6_begin (va_Pc [.ref (xB G + p0), .int (iI i0)] (xPre G S)) (xQv G S') 0 0 (xA G) := by
  refine kx_met (ret := none) RX6 [(0, .ref (xB G + p0)), (1, .int (iI i0))] (by decide) rfl rfl (Nat.le_of_ble_eq_true rfl) rfl (fun p e s m below meth c ls C hin I hl => ?_)
  exact (w_X6_begin C r S' fu).1 S _ _ _ _ _ hf I hl
