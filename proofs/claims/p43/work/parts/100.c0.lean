def rm_X0_init : Room := { frames := 1, cells := 10, slots := 10130, locals := 20 }
theorem hin_X0_init_RX0 : ∀ w ∈ wsX00, w ∈ vsX0_init := fun w h => inM (inlX0 w h)
theorem fl_X0_init_9 : xFl vsX0_init RX0 9 0 0 := ⟨RX0, TX0, 9, rfl, by decide, hin_X0_init_RX0, inM mq_34_19, rfl⟩
theorem fl_X0_init_15 : xFl vsX0_init RX0 15 0 1 := ⟨RX0, TX0, 9, rfl, by decide, hin_X0_init_RX0, inM mq_34_20, rfl⟩
theorem fl_X0_init_19 : xFl vsX0_init RX0 19 0 2 := ⟨RX0, TX0, 9, rfl, by decide, hin_X0_init_RX0, inM mq_34_21, rfl⟩
theorem fl_X0_init_22 : xFl vsX0_init RX0 22 0 3 := ⟨RX0, TX0, 9, rfl, by decide, hin_X0_init_RX0, inM mq_34_22, rfl⟩
theorem fl_X0_init_25 : xFl vsX0_init RX0 25 0 4 := ⟨RX0, TX0, 9, rfl, by decide, hin_X0_init_RX0, inM mq_34_23, rfl⟩
theorem fl_X0_init_30 : xFl vsX0_init RX0 30 0 5 := ⟨RX0, TX0, 9, rfl, by decide, hin_X0_init_RX0, inM mq_35_1, rfl⟩
theorem fl_X0_init_33 : xFl vsX0_init RX0 33 0 6 := ⟨RX0, TX0, 9, rfl, by decide, hin_X0_init_RX0, inM mq_35_2, rfl⟩
theorem fl_X0_init_36 : xFl vsX0_init RX0 36 0 7 := ⟨RX0, TX0, 9, rfl, by decide, hin_X0_init_RX0, inM mq_35_3, rfl⟩
theorem fl_X0_init_39 : xFl vsX0_init RX0 39 0 8 := ⟨RX0, TX0, 9, rfl, by decide, hin_X0_init_RX0, inM mq_35_4, rfl⟩
theorem mw_X0_init_0 : Cond.methodLink RX0 3 objectInit ∈ vsX0_init := inM mq_34_18
theorem mw_X0_init_1 : Cond.instanceMethod objectInit ∈ vsX0_init := inM mq_1_10
theorem mw_X0_init_2 : Cond.code objectInit ⟨#[0xb1]⟩ 1 none ∈ vsX0_init := inM mq_1_11
theorem mw_X0_init_3 : Cond.arrayClass .int ∈ vsX0_init := inM mq_2_2
theorem mw_X0_init_4 : Cond.classLink RX0 28 "[[I" ∈ vsX0_init := inM mq_35_0
theorem nyS_X0_init : yX0_init.cls ≠ "java/lang/invoke/MethodHandle" ∧ yX0_init.cls ≠ "java/lang/invoke/VarHandle" ∧ (parseMethodDescriptor yX0_init.desc).map (fun d => d.parameters.length) = some 0 := by decide +kernel
set_option maxHeartbeats 4000000 in
set_option maxRecDepth 100000 in
theorem c_X0_init (G : xG) (l : Launch) (fu : Nat) (S S' : xS) (p0 : Nat) (r : Int) (hf : f_X0_init fu S p0 = some (r, S')) : Met l yX0_init vsX0_init rm_X0_init (va_Pc [.ref (xB G + p0)] (xPre G S)) (xQv G S') 10 10130 (xA G) := by
  refine kx_met (ret := none) RX0 [(0, .ref (xB G + p0))] (by decide) rfl rfl (Nat.le_of_ble_eq_true rfl) rfl (fun p e s m below meth c ls C hin I hl => ?_)
  have hin := hin rfl
  unfold f_X0_init at hf
  refine kx_aload_n 0 C dX0_init_0 (lv_at hl 0 rfl) ?_
  refine kx_objInit 1 C hl mw_X0_init_0 mw_X0_init_1 mw_X0_init_2 ⟨Nat.le_of_ble_eq_true rfl, Nat.le_of_ble_eq_true rfl⟩ dX0_init_1 ?_
  refine kx_aload_n 4 C dX0_init_4 (lv_at hl 0 rfl) ?_
  refine kx_sipush 5 C dX0_init_5 (by decide) ?_
  obtain ⟨S1, eS1, hf⟩ := nmx_e hf
  refine kx_newa 8 C I (ty := .int) 0 5040 rfl rfl rfl (fun _ _ h => h) mw_X0_init_3 rfl (Nat.le_of_ble_eq_true rfl) (by decide) ⟨Nat.le_of_ble_eq_true rfl, Nat.le_of_ble_eq_true rfl⟩ dX0_init_8 (fun H I => ?_)
  rw [← eS1] at I
  obtain ⟨S3, h2, hf⟩ := ob hf
  refine kx_putFp 10 C I fl_X0_init_9 fw_RX0_0 hin rfl (fun _ => ⟨rfl, rfl⟩) h2 dX0_init_10 (fun H locs I => ?_)
  refine kx_aload_n 13 C dX0_init_13 (lv_at hl 0 rfl) ?_
  refine kx_iconst 14 C dX0_init_14 ?_
  obtain ⟨S5, h4, hf⟩ := ob hf
  refine kx_puti 15 C I fl_X0_init_15 fw_RX0_1 h4 dX0_init_15 (fun H locs I => ?_)
  refine kx_aload_n 18 C dX0_init_18 (lv_at hl 0 rfl) ?_
  refine kx_sipush 19 C dX0_init_19 (by decide) ?_
  obtain ⟨S6, eS6, hf⟩ := nmx_e hf
  refine kx_newa 22 C I (ty := .int) 0 5040 rfl rfl rfl (fun _ _ h => h) mw_X0_init_3 rfl (Nat.le_of_ble_eq_true rfl) (by decide) ⟨Nat.le_of_ble_eq_true rfl, Nat.le_of_ble_eq_true rfl⟩ dX0_init_22 (fun H I => ?_)
  rw [← eS6] at I
  obtain ⟨S8, h7, hf⟩ := ob hf
  refine kx_putFp 24 C I fl_X0_init_19 fw_RX0_2 hin rfl (fun _ => ⟨rfl, rfl⟩) h7 dX0_init_24 (fun H locs I => ?_)
  refine kx_aload_n 27 C dX0_init_27 (lv_at hl 0 rfl) ?_
  refine kx_bipush 28 C dX0_init_28 (by decide) ?_
  obtain ⟨S9, eS9, hf⟩ := nmx_e hf
  refine kx_newa 30 C I (ty := .int) 0 7 rfl rfl rfl (fun _ _ h => h) mw_X0_init_3 rfl (Nat.le_of_ble_eq_true rfl) (by decide) ⟨Nat.le_of_ble_eq_true rfl, Nat.le_of_ble_eq_true rfl⟩ dX0_init_30 (fun H I => ?_)
  rw [← eS9] at I
  obtain ⟨S11, h10, hf⟩ := ob hf
  refine kx_putFp 32 C I fl_X0_init_22 fw_RX0_3 hin rfl (fun _ => ⟨rfl, rfl⟩) h10 dX0_init_32 (fun H locs I => ?_)
  refine kx_aload_n 35 C dX0_init_35 (lv_at hl 0 rfl) ?_
  refine kx_bipush 36 C dX0_init_36 (by decide) ?_
  obtain ⟨S12, eS12, hf⟩ := nmx_e hf
  refine kx_newa 38 C I (ty := .int) 0 7 rfl rfl rfl (fun _ _ h => h) mw_X0_init_3 rfl (Nat.le_of_ble_eq_true rfl) (by decide) ⟨Nat.le_of_ble_eq_true rfl, Nat.le_of_ble_eq_true rfl⟩ dX0_init_38 (fun H I => ?_)
  rw [← eS12] at I
  obtain ⟨S14, h13, hf⟩ := ob hf
  refine kx_putFp 40 C I fl_X0_init_25 fw_RX0_4 hin rfl (fun _ => ⟨rfl, rfl⟩) h13 dX0_init_40 (fun H locs I => ?_)
  refine kx_aload_n 43 C dX0_init_43 (lv_at hl 0 rfl) ?_
  refine kx_iconst 44 C dX0_init_44 ?_
  refine kx_bipush 45 C dX0_init_45 (by decide) ?_
  obtain ⟨S15, eS15, hf⟩ := nmx_e hf
  refine kx_multi 47 C I mw_X0_init_4 mw_X0_init_3 ⟨Nat.le_of_ble_eq_true rfl, Nat.le_of_ble_eq_true rfl⟩ dX0_init_47 (fun H I => ?_)
  rw [← eS15] at I
  obtain ⟨S17, h16, hf⟩ := ob hf
  refine kx_putFp 51 C I fl_X0_init_30 fw_RX0_5 hin rfl (fun _ => ⟨rfl, rfl⟩) h16 dX0_init_51 (fun H locs I => ?_)
  refine kx_aload_n 54 C dX0_init_54 (lv_at hl 0 rfl) ?_
  refine kx_iconst 55 C dX0_init_55 ?_
  obtain ⟨S19, h18, hf⟩ := ob hf
  refine kx_puti 56 C I fl_X0_init_33 fw_RX0_6 h18 dX0_init_56 (fun H locs I => ?_)
  refine kx_aload_n 59 C dX0_init_59 (lv_at hl 0 rfl) ?_
  refine kx_iconst 60 C dX0_init_60 ?_
  obtain ⟨S21, h20, hf⟩ := ob hf
  refine kx_puti 61 C I fl_X0_init_36 fw_RX0_7 h20 dX0_init_61 (fun H locs I => ?_)
  refine kx_aload_n 64 C dX0_init_64 (lv_at hl 0 rfl) ?_
  refine kx_iconst 65 C dX0_init_65 ?_
  obtain ⟨S22, eS22, hf⟩ := nmx_e hf
  refine kx_newa 66 C I (ty := .int) 0 4 rfl rfl rfl (fun _ _ h => h) mw_X0_init_3 rfl (Nat.le_of_ble_eq_true rfl) (by decide) ⟨Nat.le_of_ble_eq_true rfl, Nat.le_of_ble_eq_true rfl⟩ dX0_init_66 (fun H I => ?_)
  rw [← eS22] at I
  obtain ⟨S24, h23, hf⟩ := ob hf
  refine kx_putFp 68 C I fl_X0_init_39 fw_RX0_8 hin rfl (fun _ => ⟨rfl, rfl⟩) h23 dX0_init_68 (fun H locs I => ?_)
  exact kx_vret 71 C I hf dX0_init_71
def rm_J6_bitCount_0f7a4 : Room := { frames := 0, cells := 0, slots := 0, locals := 0 }
theorem mw_J6_bitCount_0f7a4_0 : Cond.constant RJ6 265 (1431655765) ∈ vsJ6_bitCount_0f7a4 := inM mq_9_3
theorem mw_J6_bitCount_0f7a4_1 : Cond.constant RJ6 266 (858993459) ∈ vsJ6_bitCount_0f7a4 := inM mq_9_4
theorem mw_J6_bitCount_0f7a4_2 : Cond.constant RJ6 267 (252645135) ∈ vsJ6_bitCount_0f7a4 := inM mq_9_5
theorem nyS_J6_bitCount_0f7a4 : yJ6_bitCount_0f7a4.cls ≠ "java/lang/invoke/MethodHandle" ∧ yJ6_bitCount_0f7a4.cls ≠ "java/lang/invoke/VarHandle" ∧ (parseMethodDescriptor yJ6_bitCount_0f7a4.desc).map (fun d => d.parameters.length) = some 1 := by decide +kernel
set_option maxHeartbeats 4000000 in
set_option maxRecDepth 100000 in
theorem c_J6_bitCount_0f7a4 (G : xG) (l : Launch) (fu : Nat) (S S' : xS) (i0 : Int) (r : Int) (hf : f_J6_bitCount_0f7a4 fu S i0 = some (r, S')) : Met l yJ6_bitCount_0f7a4 vsJ6_bitCount_0f7a4 rm_J6_bitCount_0f7a4 (va_Pc [.int (iI i0)] (xPre G S)) (xQi G r S') 0 0 (xA G) := by
  refine kx_met (ret := (some .int)) RJ6 [(0, .int (iI i0))] (by decide) rfl rfl (Nat.le_of_ble_eq_true rfl) rfl (fun p e s m below meth c ls C hin I hl => ?_)
  unfold f_J6_bitCount_0f7a4 at hf
  refine kx_iload_n 0 C dJ6_bitCount_0f7a4_0 (lv_at hl 0 rfl) ?_
  refine kx_iload_n 1 C dJ6_bitCount_0f7a4_1 (lv_at hl 0 rfl) ?_
  refine kx_iconst 2 C dJ6_bitCount_0f7a4_2 ?_
  refine kx_iushr 3 C dJ6_bitCount_0f7a4_3 ?_
  refine kx_ldcw 4 C (z := 1431655765) mw_J6_bitCount_0f7a4_0 dJ6_bitCount_0f7a4_4 (by decide) ?_
  refine kx_iand 7 C dJ6_bitCount_0f7a4_7 ?_
  refine kx_isub 8 C dJ6_bitCount_0f7a4_8 ?_
  obtain ⟨x1, e2, hf⟩ := nmx_e hf
  refine kx_istore_n 9 C (lv' := [(0, .int (iI x1))]) dJ6_bitCount_0f7a4_9 hl (by decide) e2 rfl (fun ls hl => ?_)
  refine kx_iload_n 10 C dJ6_bitCount_0f7a4_10 (lv_at hl 0 rfl) ?_
  refine kx_ldcw 11 C (z := 858993459) mw_J6_bitCount_0f7a4_1 dJ6_bitCount_0f7a4_11 (by decide) ?_
  refine kx_iand 14 C dJ6_bitCount_0f7a4_14 ?_
  refine kx_iload_n 15 C dJ6_bitCount_0f7a4_15 (lv_at hl 0 rfl) ?_
  refine kx_iconst 16 C dJ6_bitCount_0f7a4_16 ?_
  refine kx_iushr 17 C dJ6_bitCount_0f7a4_17 ?_
  refine kx_ldcw 18 C (z := 858993459) mw_J6_bitCount_0f7a4_1 dJ6_bitCount_0f7a4_18 (by decide) ?_
  refine kx_iand 21 C dJ6_bitCount_0f7a4_21 ?_
  refine kx_iadd 22 C dJ6_bitCount_0f7a4_22 ?_
  obtain ⟨x3, e4, hf⟩ := nmx_e hf
  refine kx_istore_n 23 C (lv' := [(0, .int (iI x3))]) dJ6_bitCount_0f7a4_23 hl (by decide) e4 rfl (fun ls hl => ?_)
  refine kx_iload_n 24 C dJ6_bitCount_0f7a4_24 (lv_at hl 0 rfl) ?_
  refine kx_iload_n 25 C dJ6_bitCount_0f7a4_25 (lv_at hl 0 rfl) ?_
  refine kx_iconst 26 C dJ6_bitCount_0f7a4_26 ?_
  refine kx_iushr 27 C dJ6_bitCount_0f7a4_27 ?_
  refine kx_iadd 28 C dJ6_bitCount_0f7a4_28 ?_
  refine kx_ldcw 29 C (z := 252645135) mw_J6_bitCount_0f7a4_2 dJ6_bitCount_0f7a4_29 (by decide) ?_
  refine kx_iand 32 C dJ6_bitCount_0f7a4_32 ?_
  obtain ⟨x5, e6, hf⟩ := nmx_e hf
  refine kx_istore_n 33 C (lv' := [(0, .int (iI x5))]) dJ6_bitCount_0f7a4_33 hl (by decide) e6 rfl (fun ls hl => ?_)
  refine kx_iload_n 34 C dJ6_bitCount_0f7a4_34 (lv_at hl 0 rfl) ?_
  refine kx_iload_n 35 C dJ6_bitCount_0f7a4_35 (lv_at hl 0 rfl) ?_
  refine kx_bipush 36 C dJ6_bitCount_0f7a4_36 (by decide) ?_
  refine kx_iushr 38 C dJ6_bitCount_0f7a4_38 ?_
  refine kx_iadd 39 C dJ6_bitCount_0f7a4_39 ?_
  obtain ⟨x7, e8, hf⟩ := nmx_e hf
  refine kx_istore_n 40 C (lv' := [(0, .int (iI x7))]) dJ6_bitCount_0f7a4_40 hl (by decide) e8 rfl (fun ls hl => ?_)
  refine kx_iload_n 41 C dJ6_bitCount_0f7a4_41 (lv_at hl 0 rfl) ?_
  refine kx_iload_n 42 C dJ6_bitCount_0f7a4_42 (lv_at hl 0 rfl) ?_
  refine kx_bipush 43 C dJ6_bitCount_0f7a4_43 (by decide) ?_
  refine kx_iushr 45 C dJ6_bitCount_0f7a4_45 ?_
  refine kx_iadd 46 C dJ6_bitCount_0f7a4_46 ?_
  obtain ⟨x9, e10, hf⟩ := nmx_e hf
  refine kx_istore_n 47 C (lv' := [(0, .int (iI x9))]) dJ6_bitCount_0f7a4_47 hl (by decide) e10 rfl (fun ls hl => ?_)
  refine kx_iload_n 48 C dJ6_bitCount_0f7a4_48 (lv_at hl 0 rfl) ?_
  refine kx_bipush 49 C dJ6_bitCount_0f7a4_49 (by decide) ?_
  refine kx_iand 51 C dJ6_bitCount_0f7a4_51 ?_
  exact kx_iret 52 C I hf dJ6_bitCount_0f7a4_52
def rm_X4_rankOf : Room := { frames := 1, cells := 0, slots := 0, locals := 20 }
theorem nyS_X4_rankOf : yX4_rankOf.cls ≠ "java/lang/invoke/MethodHandle" ∧ yX4_rankOf.cls ≠ "java/lang/invoke/VarHandle" ∧ (parseMethodDescriptor yX4_rankOf.desc).map (fun d => d.parameters.length) = some 2 := by decide +kernel
set_option maxHeartbeats 4000000 in
set_option maxRecDepth 100000 in
theorem w_X4_rankOf {G : xG} {p : Program} {l : Launch} {e : Env} {s : State} {m : MethodId} {args : Array Value} {below : List Frame} {meth : Method} {c : Code} (C : xK G p s m args meth c cX4_rankOf 6 vsX4_rankOf RX4 (some .int)) (r : Int) (S' : xS) : ∀ k : Nat,
  (∀ (S : xS) (p0 : Nat) (i0 i1 i2 i3 : Int) (H : Heap) (locs : List Loc) (ls : Array Slot), g_X4_rankOf k 0 S p0 i0 i1 i2 i3 = some (r, S') → xI G S s H locs → lv_has ls 6 [(0, .ref (xB G + p0)), (1, .int (iI i0))] → W p l e rm_X4_rankOf s m args below meth c H locs 0 0 (MQ below (xQi G r S') args s 0 0 (xA G)) (F0 m 0 ls [])) ∧
  (∀ (S : xS) (p0 : Nat) (i0 i1 i2 i3 : Int) (H : Heap) (locs : List Loc) (ls : Array Slot), g_X4_rankOf k 1 S p0 i0 i1 i2 i3 = some (r, S') → xI G S s H locs → lv_has ls 6 [(0, .ref (xB G + p0)), (1, .int (iI i0)), (2, .int (iI i1)), (3, .int (iI i2)), (4, .int (iI i3))] → W p l e rm_X4_rankOf s m args below meth c H locs 0 0 (MQ below (xQi G r S') args s 0 0 (xA G)) (F0 m 11 ls [])) := by
  intro k
  induction k with
  | zero => exact ⟨fun _ _ _ _ _ _ _ _ _ hf => (by cases hf), fun _ _ _ _ _ _ _ _ _ hf => (by cases hf)⟩
  | succ fu ih =>
    obtain ⟨ih0, ih1⟩ := ih
    refine ⟨?_, ?_⟩
    · intro S p0 i0 i1 i2 i3 H locs ls hf I hl
      replace hf : b_X4_rankOf_0 (g_X4_rankOf fu) fu S p0 i0 i1 i2 i3 = some (r, S') := hf
      unfold b_X4_rankOf_0 at hf
      refine kx_iconst 0 C dX4_rankOf_0 ?_
      refine kx_iload_n 1 C dX4_rankOf_1 (lv_at hl 1 rfl) ?_
      refine kx_ishl 2 C dX4_rankOf_2 ?_
      refine kx_iconst 3 C dX4_rankOf_3 ?_
      refine kx_isub 4 C dX4_rankOf_4 ?_
      obtain ⟨x1, e2, hf⟩ := nmx_e hf
      refine kx_istore_n 5 C (lv' := [(2, .int (iI x1)), (0, .ref (xB G + p0)), (1, .int (iI i0))]) dX4_rankOf_5 hl (by decide) e2 rfl (fun ls hl => ?_)
      refine kx_iconst 6 C dX4_rankOf_6 ?_
      refine kx_istore_n 7 C (lv' := [(3, .int (iI 0)), (2, .int (iI x1)), (0, .ref (xB G + p0)), (1, .int (iI i0))]) dX4_rankOf_7 hl (by decide) rfl rfl (fun ls hl => ?_)
      refine kx_iconst 8 C dX4_rankOf_8 ?_
      refine kx_istore 9 C (lv' := [(4, .int (iI 0)), (3, .int (iI 0)), (2, .int (iI x1)), (0, .ref (xB G + p0)), (1, .int (iI i0))]) dX4_rankOf_9 hl (by decide) rfl rfl (fun ls hl => ?_)
      exact ih1 _ _ _ _ _ _ _ _ _ hf I (lv_sub hl [3, 4, 2, 1, 0] rfl)
    · intro S p0 i0 i1 i2 i3 H locs ls hf I hl
      replace hf : b_X4_rankOf_1 (g_X4_rankOf fu) fu S p0 i0 i1 i2 i3 = some (r, S') := hf
      unfold b_X4_rankOf_1 at hf
      refine kx_iload 11 C dX4_rankOf_11 (lv_at hl 4 rfl) ?_
      refine kx_iload_n 13 C dX4_rankOf_13 (lv_at hl 1 rfl) ?_
      refine kx_icmp_ge 14 61 C dX4_rankOf_14 (by decide) (fun c3 => ?_) (fun c3 => ?_)
      · have hf := ifp c3 hf
        refine kx_iload_n 61 C dX4_rankOf_61 (lv_at hl 3 rfl) ?_
        exact kx_iret 62 C I hf dX4_rankOf_62
      · have hf := ifn c3 hf
        refine kx_iconst 17 C dX4_rankOf_17 ?_
        refine kx_aload_n 18 C dX4_rankOf_18 (lv_at hl 0 rfl) ?_
        refine kx_iload 19 C dX4_rankOf_19 (lv_at hl 4 rfl) ?_
        obtain ⟨x4, h5, hf⟩ := ob hf
        refine kx_iald 21 C I h5 dX4_rankOf_21 ?_
        refine kx_ishl 22 C dX4_rankOf_22 ?_
        obtain ⟨x6, e7, hf⟩ := nmx_e hf
        refine kx_istore 23 C (lv' := [(5, .int (iI x6)), (0, .ref (xB G + p0)), (1, .int (iI i0)), (2, .int (iI i1)), (3, .int (iI i2)), (4, .int (iI i3))]) dX4_rankOf_23 hl (by decide) e7 rfl (fun ls hl => ?_)
        refine kx_iload_n 25 C dX4_rankOf_25 (lv_at hl 4 rfl) ?_
        refine kx_iload_n 26 C dX4_rankOf_26 (lv_at hl 3 rfl) ?_
        refine kx_iload 27 C dX4_rankOf_27 (lv_at hl 0 rfl) ?_
        refine kx_iconst 29 C dX4_rankOf_29 ?_
        refine kx_isub 30 C dX4_rankOf_30 ?_
        refine kx_iand 31 C dX4_rankOf_31 ?_
        obtain ⟨x10, S8, h9, hf⟩ := ob2 hf
        refine kx_callSi 32 C hl I (As := [.int (iI (xAnd i1 (x6 - 1)))]) (rest := [.int (iI i2)]) (c_J6_bitCount_0f7a4 G l fu _ _ _ _ h9) (va_cwS 1 C.ts gX4_rankOf_J6_bitCount_0f7a4 rfl rfl rfl nyS_J6_bitCount_0f7a4 ⟨Nat.le_of_ble_eq_true rfl, Nat.le_of_ble_eq_true rfl⟩) rfl rfl (Nat.le_of_ble_eq_true rfl) dX4_rankOf_32 ⟨Nat.le_of_ble_eq_true rfl, Nat.le_of_ble_eq_true rfl⟩ (fun H locs I => ?_)
        refine kx_getsN 35 C I C.en.2.1.2.2.1 dX4_rankOf_35 ?_
        refine kx_iload_n 38 C dX4_rankOf_38 (lv_at hl 2 rfl) ?_
        refine kx_iconst 39 C dX4_rankOf_39 ?_
        refine kx_isub 40 C dX4_rankOf_40 ?_
        refine kx_iload 41 C dX4_rankOf_41 (lv_at hl 5 rfl) ?_
        refine kx_isub 43 C dX4_rankOf_43 ?_
        obtain ⟨x11, h12, hf⟩ := ob hf
        refine kx_tab 44 C I h12 dX4_rankOf_44 ?_
        refine kx_imul 45 C dX4_rankOf_45 ?_
        refine kx_iadd 46 C dX4_rankOf_46 ?_
        obtain ⟨x13, e14, hf⟩ := nmx_e hf
        refine kx_istore_n 47 C (lv' := [(3, .int (iI x13)), (5, .int (iI x6)), (0, .ref (xB G + p0)), (1, .int (iI i0)), (2, .int (iI i1)), (4, .int (iI i3))]) dX4_rankOf_47 hl (by decide) e14 rfl (fun ls hl => ?_)
        refine kx_iload_n 48 C dX4_rankOf_48 (lv_at hl 4 rfl) ?_
        refine kx_iload 49 C dX4_rankOf_49 (lv_at hl 1 rfl) ?_
        refine kx_iconst 51 C dX4_rankOf_51 ?_
        refine kx_ixor 52 C dX4_rankOf_52 ?_
        refine kx_iand 53 C dX4_rankOf_53 ?_
        obtain ⟨x15, e16, hf⟩ := nmx_e hf
        refine kx_istore_n 54 C (lv' := [(2, .int (iI x15)), (3, .int (iI x13)), (5, .int (iI x6)), (0, .ref (xB G + p0)), (1, .int (iI i0)), (4, .int (iI i3))]) dX4_rankOf_54 hl (by decide) e16 rfl (fun ls hl => ?_)
        obtain ⟨x17, e18, hf⟩ := nmx_e hf
        refine kx_iinc 55 C (lv' := [(4, .int (iI x17)), (2, .int (iI x15)), (3, .int (iI x13)), (5, .int (iI x6)), (0, .ref (xB G + p0)), (1, .int (iI i0))]) dX4_rankOf_55 hl 5 rfl e18 (by decide) rfl (fun ls hl => ?_)
        refine kx_goto 58 11 C dX4_rankOf_58 (by decide) ?_
        exact ih1 _ _ _ _ _ _ _ _ _ hf I (lv_sub hl [4, 5, 1, 2, 0] rfl)
set_option maxHeartbeats 4000000 in
set_option maxRecDepth 100000 in
theorem c_X4_rankOf (G : xG) (l : Launch) (fu : Nat) (S S' : xS) (p0 : Nat) (i0 : Int) (r : Int) (hf : f_X4_rankOf fu S p0 i0 = some (r, S')) : Met l yX4_rankOf vsX4_rankOf rm_X4_rankOf (va_Pc [.ref (xB G + p0), .int (iI i0)] (xPre G S)) (xQi G r S') 0 0 (xA G) := by
  refine kx_met (ret := (some .int)) RX4 [(0, .ref (xB G + p0)), (1, .int (iI i0))] (by decide) rfl rfl (Nat.le_of_ble_eq_true rfl) rfl (fun p e s m below meth c ls C hin I hl => ?_)
  exact (w_X4_rankOf C r S' fu).1 S _ _ _ _ _ _ _ _ hf I hl
def rm_X1_rankNow : Room := { frames := 2, cells := 0, slots := 0, locals := 45 }
theorem hin_X1_rankNow_RX1 : ∀ w ∈ wsX10, w ∈ vsX1_rankNow := fun w h => inM (inlX1 w h)
theorem fl_X1_rankNow_9 : xFl vsX1_rankNow RX1 9 1 3 := ⟨RX1, TX1, 14, rfl, by decide, hin_X1_rankNow_RX1, inM mq_2_15, rfl⟩
theorem fl_X1_rankNow_40 : xFl vsX1_rankNow RX1 40 1 0 := ⟨RX1, TX1, 14, rfl, by decide, hin_X1_rankNow_RX1, inM mq_3_3, rfl⟩
theorem nyS_X1_rankNow : yX1_rankNow.cls ≠ "java/lang/invoke/MethodHandle" ∧ yX1_rankNow.cls ≠ "java/lang/invoke/VarHandle" ∧ (parseMethodDescriptor yX1_rankNow.desc).map (fun d => d.parameters.length) = some 0 := by decide +kernel
theorem nyV_X1_rankNow : yX1_rankNow.cls = RX1 ∧ yX1_rankNow.cls ≠ "java/lang/invoke/MethodHandle" ∧ yX1_rankNow.cls ≠ "java/lang/invoke/VarHandle" ∧ (parseMethodDescriptor yX1_rankNow.desc).map (fun d => d.parameters.length) = some 0 := by decide +kernel
set_option maxHeartbeats 4000000 in
set_option maxRecDepth 100000 in
theorem c_X1_rankNow (G : xG) (l : Launch) (fu : Nat) (S S' : xS) (p0 : Nat) (r : Int) (hf : f_X1_rankNow fu S p0 = some (r, S')) : Met l yX1_rankNow vsX1_rankNow rm_X1_rankNow (va_Pc [.ref (xB G + p0)] (xPre G S)) (xQi G r S') 0 0 (xA G) := by
  refine kx_met (ret := (some .int)) RX1 [(0, .ref (xB G + p0))] (by decide) rfl rfl (Nat.le_of_ble_eq_true rfl) rfl (fun p e s m below meth c ls C hin I hl => ?_)
  unfold f_X1_rankNow at hf
  refine kx_aload_n 0 C dX1_rankNow_0 (lv_at hl 0 rfl) ?_
  obtain ⟨q2, h1, hf⟩ := ob hf
  refine kx_getp 1 C I fl_X1_rankNow_9 h1 dX1_rankNow_1 ?_
  refine kx_aload_n 4 C dX1_rankNow_4 (lv_at hl 0 rfl) ?_
  obtain ⟨x4, h3, hf⟩ := ob hf
  refine kx_geti 5 C I fl_X1_rankNow_40 h3 dX1_rankNow_5 ?_
  obtain ⟨x7, S5, h6, hf⟩ := ob2 hf
  refine kx_callSi 8 C hl I (As := [.ref (xB G + q2), .int (iI x4)]) (rest := []) (c_X4_rankOf G l fu _ _ _ _ _ h6) (va_cwS 2 C.ts gX1_rankNow_X4_rankOf rfl rfl rfl nyS_X4_rankOf ⟨Nat.le_of_ble_eq_true rfl, Nat.le_of_ble_eq_true rfl⟩) rfl rfl (Nat.le_of_ble_eq_true rfl) dX1_rankNow_8 ⟨Nat.le_of_ble_eq_true rfl, Nat.le_of_ble_eq_true rfl⟩ (fun H locs I => ?_)
  exact kx_iret 11 C I hf dX1_rankNow_11
def rm_X0_isMadeFor : Room := { frames := 3, cells := 0, slots := 0, locals := 65 }
theorem hin_X0_isMadeFor_RX0 : ∀ w ∈ wsX00, w ∈ vsX0_isMadeFor := fun w h => inM (inlX0 w h)
theorem hin_X0_isMadeFor_RX1 : ∀ w ∈ wsX10, w ∈ vsX0_isMadeFor := fun w h => inM (inlX1 w h)
theorem fl_X0_isMadeFor_9 : xFl vsX0_isMadeFor RX0 9 0 0 := ⟨RX0, TX0, 9, rfl, by decide, hin_X0_isMadeFor_RX0, inM mq_34_19, rfl⟩
theorem fl_X0_isMadeFor_33 : xFl vsX0_isMadeFor RX0 33 0 6 := ⟨RX0, TX0, 9, rfl, by decide, hin_X0_isMadeFor_RX0, inM mq_35_2, rfl⟩
theorem fl_X0_isMadeFor_36 : xFl vsX0_isMadeFor RX0 36 0 7 := ⟨RX0, TX0, 9, rfl, by decide, hin_X0_isMadeFor_RX0, inM mq_35_3, rfl⟩
theorem fl_X0_isMadeFor_39 : xFl vsX0_isMadeFor RX0 39 0 8 := ⟨RX0, TX0, 9, rfl, by decide, hin_X0_isMadeFor_RX0, inM mq_35_4, rfl⟩
theorem fl_X0_isMadeFor_42 : xFl vsX0_isMadeFor RX0 42 1 0 := ⟨RX1, TX1, 14, rfl, by decide, hin_X0_isMadeFor_RX1, inM mq_35_9, rfl⟩
theorem fl_X0_isMadeFor_47 : xFl vsX0_isMadeFor RX0 47 1 9 := ⟨RX1, TX1, 14, rfl, by decide, hin_X0_isMadeFor_RX1, inM mq_35_10, rfl⟩
theorem fl_X0_isMadeFor_54 : xFl vsX0_isMadeFor RX0 54 1 10 := ⟨RX1, TX1, 14, rfl, by decide, hin_X0_isMadeFor_RX1, inM mq_35_11, rfl⟩
theorem nyS_X0_isMadeFor : yX0_isMadeFor.cls ≠ "java/lang/invoke/MethodHandle" ∧ yX0_isMadeFor.cls ≠ "java/lang/invoke/VarHandle" ∧ (parseMethodDescriptor yX0_isMadeFor.desc).map (fun d => d.parameters.length) = some 1 := by decide +kernel
theorem nyV_X0_isMadeFor : yX0_isMadeFor.cls = RX0 ∧ yX0_isMadeFor.cls ≠ "java/lang/invoke/MethodHandle" ∧ yX0_isMadeFor.cls ≠ "java/lang/invoke/VarHandle" ∧ (parseMethodDescriptor yX0_isMadeFor.desc).map (fun d => d.parameters.length) = some 1 := by decide +kernel
set_option maxHeartbeats 4000000 in
set_option maxRecDepth 100000 in
theorem w_X0_isMadeFor {G : xG} {p : Program} {l : Launch} {e : Env} {s : State} {m : MethodId} {args : Array Value} {below : List Frame} {meth : Method} {c : Code} (C : xK G p s m args meth c cX0_isMadeFor 3 vsX0_isMadeFor RX0 (some .boolean)) (r : Int) (S' : xS) : ∀ k : Nat,
  (∀ (S : xS) (p0 p1 : Nat) (i0 : Int) (H : Heap) (locs : List Loc) (ls : Array Slot), g_X0_isMadeFor k 0 S p0 p1 i0 = some (r, S') → xI G S s H locs → lv_has ls 3 [(0, .ref (xB G + p0)), (1, .ref (xB G + p1))] → W p l e rm_X0_isMadeFor s m args below meth c H locs 0 0 (MQ below (xQi G r S') args s 0 0 (xA G)) (F0 m 0 ls [])) ∧
  (∀ (S : xS) (p0 p1 : Nat) (i0 : Int) (H : Heap) (locs : List Loc) (ls : Array Slot), g_X0_isMadeFor k 1 S p0 p1 i0 = some (r, S') → xI G S s H locs → lv_has ls 3 [(0, .ref (xB G + p0)), (1, .ref (xB G + p1)), (2, .int (iI i0))] → W p l e rm_X0_isMadeFor s m args below meth c H locs 0 0 (MQ below (xQi G r S') args s 0 0 (xA G)) (F0 m 39 ls [])) := by
  intro k
  induction k with
  | zero => exact ⟨fun _ _ _ _ _ _ _ hf => (by cases hf), fun _ _ _ _ _ _ _ hf => (by cases hf)⟩
  | succ fu ih =>
    obtain ⟨ih0, ih1⟩ := ih
    refine ⟨?_, ?_⟩
    · intro S p0 p1 i0 H locs ls hf I hl
      replace hf : b_X0_isMadeFor_0 (g_X0_isMadeFor fu) fu S p0 p1 i0 = some (r, S') := hf
      unfold b_X0_isMadeFor_0 at hf
      refine kx_aload_n 0 C dX0_isMadeFor_0 (lv_at hl 0 rfl) ?_
      obtain ⟨x2, h1, hf⟩ := ob hf
      refine kx_geti 1 C I fl_X0_isMadeFor_33 h1 dX0_isMadeFor_1 ?_
      refine kx_aload_n 4 C dX0_isMadeFor_4 (lv_at hl 1 rfl) ?_
      obtain ⟨x4, h3, hf⟩ := ob hf
      refine kx_geti 5 C I fl_X0_isMadeFor_42 h3 dX0_isMadeFor_5 ?_
      refine kx_icmp_ne 8 35 C dX0_isMadeFor_8 (by decide) (fun c5 => ?_) (fun c5 => ?_)
      · have hf := ifn c5 hf
        refine kx_iconst 35 C dX0_isMadeFor_35 ?_
        exact kx_zret 36 C I (by decide) hf dX0_isMadeFor_36
      · have hf := ifp c5 hf
        refine kx_aload_n 11 C dX0_isMadeFor_11 (lv_at hl 0 rfl) ?_
        obtain ⟨x7, h6, hf⟩ := ob hf
        refine kx_geti 12 C I fl_X0_isMadeFor_36 h6 dX0_isMadeFor_12 ?_
        refine kx_aload_n 15 C dX0_isMadeFor_15 (lv_at hl 1 rfl) ?_
        obtain ⟨x9, h8, hf⟩ := ob hf
        refine kx_geti 16 C I fl_X0_isMadeFor_47 h8 dX0_isMadeFor_16 ?_
        refine kx_icmp_ne 19 35 C dX0_isMadeFor_19 (by decide) (fun c10 => ?_) (fun c10 => ?_)
        · have hf := ifn c10 hf
          refine kx_iconst 35 C dX0_isMadeFor_35 ?_
          exact kx_zret 36 C I (by decide) hf dX0_isMadeFor_36
        · have hf := ifp c10 hf
          refine kx_aload_n 22 C dX0_isMadeFor_22 (lv_at hl 0 rfl) ?_
          obtain ⟨q12, h11, hf⟩ := ob hf
          refine kx_getp 23 C I fl_X0_isMadeFor_9 h11 dX0_isMadeFor_23 ?_
          refine kx_iconst 26 C dX0_isMadeFor_26 ?_
          obtain ⟨x13, h14, hf⟩ := ob hf
          refine kx_iald 27 C I h14 dX0_isMadeFor_27 ?_
          refine kx_aload_n 28 C dX0_isMadeFor_28 (lv_at hl 1 rfl) ?_
          obtain ⟨h18, hf⟩ := ift hf
          obtain ⟨x17, S15, h16, hf⟩ := ob2 hf
          refine kx_callVi 29 C hl I (ci := 1) (As := []) (rest := [.int (iI x13)]) (c_X1_rankNow G l fu _ _ _ _ h16) (cwV 0 C.ts gX0_isMadeFor_X1_rankNow rfl rfl rfl nyV_X1_rankNow ⟨Nat.le_of_ble_eq_true rfl, Nat.le_of_ble_eq_true rfl⟩) rfl h18 rfl rfl (Nat.le_of_ble_eq_true rfl) dX0_isMadeFor_29 ⟨Nat.le_of_ble_eq_true rfl, Nat.le_of_ble_eq_true rfl⟩ (fun H locs I => ?_)
          refine kx_icmp_eq 32 37 C dX0_isMadeFor_32 (by decide) (fun c19 => ?_) (fun c19 => ?_)
          · have hf := ifp c19 hf
            refine kx_iconst 37 C dX0_isMadeFor_37 ?_
            refine kx_istore_n 38 C (lv' := [(2, .int (iI 0)), (0, .ref (xB G + p0)), (1, .ref (xB G + p1))]) dX0_isMadeFor_38 hl (by decide) rfl rfl (fun ls hl => ?_)
            exact ih1 _ _ _ _ _ _ _ hf I (lv_sub hl [1, 2, 0] rfl)
          · have hf := ifn c19 hf
            refine kx_iconst 35 C dX0_isMadeFor_35 ?_
            exact kx_zret 36 C I (by decide) hf dX0_isMadeFor_36
    · intro S p0 p1 i0 H locs ls hf I hl
      replace hf : b_X0_isMadeFor_1 (g_X0_isMadeFor fu) fu S p0 p1 i0 = some (r, S') := hf
      unfold b_X0_isMadeFor_1 at hf
      refine kx_iload_n 39 C dX0_isMadeFor_39 (lv_at hl 2 rfl) ?_
      refine kx_aload_n 40 C dX0_isMadeFor_40 (lv_at hl 1 rfl) ?_
      obtain ⟨x21, h20, hf⟩ := ob hf
      refine kx_geti 41 C I fl_X0_isMadeFor_47 h20 dX0_isMadeFor_41 ?_
      refine kx_icmp_ge 44 70 C dX0_isMadeFor_44 (by decide) (fun c22 => ?_) (fun c22 => ?_)
      · have hf := ifp c22 hf
        refine kx_iconst 70 C dX0_isMadeFor_70 ?_
        exact kx_zret 71 C I (by decide) hf dX0_isMadeFor_71
      · have hf := ifn c22 hf
        refine kx_aload_n 47 C dX0_isMadeFor_47 (lv_at hl 0 rfl) ?_
        obtain ⟨q24, h23, hf⟩ := ob hf
        refine kx_getp 48 C I fl_X0_isMadeFor_39 h23 dX0_isMadeFor_48 ?_
        refine kx_iload_n 51 C dX0_isMadeFor_51 (lv_at hl 2 rfl) ?_
        obtain ⟨x25, h26, hf⟩ := ob hf
        refine kx_iald 52 C I h26 dX0_isMadeFor_52 ?_
        refine kx_aload_n 53 C dX0_isMadeFor_53 (lv_at hl 1 rfl) ?_
        obtain ⟨q28, h27, hf⟩ := ob hf
        refine kx_getp 54 C I fl_X0_isMadeFor_54 h27 dX0_isMadeFor_54 ?_
        refine kx_iload_n 57 C dX0_isMadeFor_57 (lv_at hl 2 rfl) ?_
        obtain ⟨x29, h30, hf⟩ := ob hf
        refine kx_iald 58 C I h30 dX0_isMadeFor_58 ?_
        refine kx_icmp_eq 59 64 C dX0_isMadeFor_59 (by decide) (fun c31 => ?_) (fun c31 => ?_)
        · have hf := ifp c31 hf
          obtain ⟨x32, e33, hf⟩ := nmx_e hf
          refine kx_iinc 64 C (lv' := [(2, .int (iI x32)), (0, .ref (xB G + p0)), (1, .ref (xB G + p1))]) dX0_isMadeFor_64 hl 2 rfl e33 (by decide) rfl (fun ls hl => ?_)
          refine kx_goto 67 39 C dX0_isMadeFor_67 (by decide) ?_
          exact ih1 _ _ _ _ _ _ _ hf I (lv_sub hl [1, 2, 0] rfl)
        · have hf := ifn c31 hf
          refine kx_iconst 62 C dX0_isMadeFor_62 ?_
          exact kx_zret 63 C I (by decide) hf dX0_isMadeFor_63
set_option maxHeartbeats 4000000 in
set_option maxRecDepth 100000 in
theorem c_X0_isMadeFor (G : xG) (l : Launch) (fu : Nat) (S S' : xS) (p0 : Nat) (p1 : Nat) (r : Int) (hf : f_X0_isMadeFor fu S p0 p1 = some (r, S')) : Met l yX0_isMadeFor vsX0_isMadeFor rm_X0_isMadeFor (va_Pc [.ref (xB G + p0), .ref (xB G + p1)] (xPre G S)) (xQi G r S') 0 0 (xA G) := by
  refine kx_met (ret := (some .boolean)) RX0 [(0, .ref (xB G + p0)), (1, .ref (xB G + p1))] (by decide) rfl rfl (Nat.le_of_ble_eq_true rfl) rfl (fun p e s m below meth c ls C hin I hl => ?_)
  exact (w_X0_isMadeFor C r S' fu).1 S _ _ _ _ _ _ hf I hl
def rm_X4_slipLeft : Room := { frames := 0, cells := 0, slots := 0, locals := 0 }
theorem nyS_X4_slipLeft : yX4_slipLeft.cls ≠ "java/lang/invoke/MethodHandle" ∧ yX4_slipLeft.cls ≠ "java/lang/invoke/VarHandle" ∧ (parseMethodDescriptor yX4_slipLeft.desc).map (fun d => d.parameters.length) = some 3 := by decide +kernel
set_option maxHeartbeats 4000000 in
set_option maxRecDepth 100000 in
theorem w_X4_slipLeft {G : xG} {p : Program} {l : Launch} {e : Env} {s : State} {m : MethodId} {args : Array Value} {below : List Frame} {meth : Method} {c : Code} (C : xK G p s m args meth c cX4_slipLeft 5 vsX4_slipLeft RX4 (some .int)) (r : Int) (S' : xS) : ∀ k : Nat,
  (∀ (S : xS) (i0 i1 i2 i3 i4 : Int) (H : Heap) (locs : List Loc) (ls : Array Slot), g_X4_slipLeft k 0 S i0 i1 i2 i3 i4 = some (r, S') → xI G S s H locs → lv_has ls 5 [(0, .int (iI i0)), (1, .int (iI i1)), (2, .int (iI i2))] → W p l e rm_X4_slipLeft s m args below meth c H locs 0 0 (MQ below (xQi G r S') args s 0 0 (xA G)) (F0 m 0 ls [])) ∧
  (∀ (S : xS) (i0 i1 i2 i3 i4 : Int) (H : Heap) (locs : List Loc) (ls : Array Slot), g_X4_slipLeft k 1 S i0 i1 i2 i3 i4 = some (r, S') → xI G S s H locs → lv_has ls 5 [(0, .int (iI i0)), (1, .int (iI i1)), (2, .int (iI i2)), (3, .int (iI i3)), (4, .int (iI i4))] → W p l e rm_X4_slipLeft s m args below meth c H locs 0 0 (MQ below (xQi G r S') args s 0 0 (xA G)) (F0 m 5 ls [])) ∧
  (∀ (S : xS) (i0 i1 i2 i3 i4 : Int) (H : Heap) (locs : List Loc) (ls : Array Slot), g_X4_slipLeft k 2 S i0 i1 i2 i3 i4 = some (r, S') → xI G S s H locs → lv_has ls 5 [(0, .int (iI i0)), (1, .int (iI i1)), (2, .int (iI i2)), (3, .int (iI i3)), (4, .int (iI i4))] → W p l e rm_X4_slipLeft s m args below meth c H locs 0 0 (MQ below (xQi G r S') args s 0 0 (xA G)) (F0 m 32 ls [])) := by
  intro k
  induction k with
  | zero => exact ⟨fun _ _ _ _ _ _ _ _ _ hf => (by cases hf), fun _ _ _ _ _ _ _ _ _ hf => (by cases hf), fun _ _ _ _ _ _ _ _ _ hf => (by cases hf)⟩
  | succ fu ih =>
    obtain ⟨ih0, ih1, ih2⟩ := ih
    refine ⟨?_, ?_, ?_⟩
    · intro S i0 i1 i2 i3 i4 H locs ls hf I hl
      replace hf : b_X4_slipLeft_0 (g_X4_slipLeft fu) fu S i0 i1 i2 i3 i4 = some (r, S') := hf
      unfold b_X4_slipLeft_0 at hf
      refine kx_iconst 0 C dX4_slipLeft_0 ?_
      refine kx_istore_n 1 C (lv' := [(3, .int (iI 0)), (0, .int (iI i0)), (1, .int (iI i1)), (2, .int (iI i2))]) dX4_slipLeft_1 hl (by decide) rfl rfl (fun ls hl => ?_)
      refine kx_iconst 2 C dX4_slipLeft_2 ?_
      refine kx_istore 3 C (lv' := [(4, .int (iI 0)), (3, .int (iI 0)), (0, .int (iI i0)), (1, .int (iI i1)), (2, .int (iI i2))]) dX4_slipLeft_3 hl (by decide) rfl rfl (fun ls hl => ?_)
      exact ih1 _ _ _ _ _ _ _ _ _ hf I (lv_sub hl [2, 3, 4, 1, 0] rfl)
    · intro S i0 i1 i2 i3 i4 H locs ls hf I hl
      replace hf : b_X4_slipLeft_1 (g_X4_slipLeft fu) fu S i0 i1 i2 i3 i4 = some (r, S') := hf
      unfold b_X4_slipLeft_1 at hf
      refine kx_iload 5 C dX4_slipLeft_5 (lv_at hl 4 rfl) ?_
      refine kx_iload_n 7 C dX4_slipLeft_7 (lv_at hl 1 rfl) ?_
      refine kx_icmp_ge 8 38 C dX4_slipLeft_8 (by decide) (fun c1 => ?_) (fun c1 => ?_)
      · have hf := ifp c1 hf
        refine kx_iconst 38 C dX4_slipLeft_38 ?_
        exact kx_iret 39 C I hf dX4_slipLeft_39
      · have hf := ifn c1 hf
        refine kx_iload_n 11 C dX4_slipLeft_11 (lv_at hl 0 rfl) ?_
        refine kx_iload 12 C dX4_slipLeft_12 (lv_at hl 4 rfl) ?_
        refine kx_ishr 14 C dX4_slipLeft_14 ?_
        refine kx_iconst 15 C dX4_slipLeft_15 ?_
        refine kx_iand 16 C dX4_slipLeft_16 ?_
        refine kx_iconst 17 C dX4_slipLeft_17 ?_
        refine kx_icmp_ne 18 32 C dX4_slipLeft_18 (by decide) (fun c2 => ?_) (fun c2 => ?_)
        · have hf := ifn c2 hf
          exact ih2 _ _ _ _ _ _ _ _ _ hf I (lv_sub hl [0, 1, 2, 3, 4] rfl)
        · have hf := ifp c2 hf
          refine kx_iload_n 21 C dX4_slipLeft_21 (lv_at hl 3 rfl) ?_
          refine kx_iload_n 22 C dX4_slipLeft_22 (lv_at hl 2 rfl) ?_
          refine kx_icmp_ne 23 29 C dX4_slipLeft_23 (by decide) (fun c3 => ?_) (fun c3 => ?_)
          · have hf := ifn c3 hf
            obtain ⟨x4, e5, hf⟩ := nmx_e hf
            refine kx_iinc 29 C (lv' := [(3, .int (iI x4)), (0, .int (iI i0)), (1, .int (iI i1)), (2, .int (iI i2)), (4, .int (iI i4))]) dX4_slipLeft_29 hl 3 rfl e5 (by decide) rfl (fun ls hl => ?_)
            exact ih2 _ _ _ _ _ _ _ _ _ hf I (lv_sub hl [1, 2, 3, 0, 4] rfl)
          · have hf := ifp c3 hf
            refine kx_iload 26 C dX4_slipLeft_26 (lv_at hl 4 rfl) ?_
            exact kx_iret 28 C I hf dX4_slipLeft_28
    · intro S i0 i1 i2 i3 i4 H locs ls hf I hl
      replace hf : b_X4_slipLeft_2 (g_X4_slipLeft fu) fu S i0 i1 i2 i3 i4 = some (r, S') := hf
      unfold b_X4_slipLeft_2 at hf
      obtain ⟨x6, e7, hf⟩ := nmx_e hf
      refine kx_iinc 32 C (lv' := [(4, .int (iI x6)), (0, .int (iI i0)), (1, .int (iI i1)), (2, .int (iI i2)), (3, .int (iI i3))]) dX4_slipLeft_32 hl 4 rfl e7 (by decide) rfl (fun ls hl => ?_)
      refine kx_goto 35 5 C dX4_slipLeft_35 (by decide) ?_
      exact ih1 _ _ _ _ _ _ _ _ _ hf I (lv_sub hl [1, 2, 3, 4, 0] rfl)
set_option maxHeartbeats 4000000 in
set_option maxRecDepth 100000 in
theorem c_X4_slipLeft (G : xG) (l : Launch) (fu : Nat) (S S' : xS) (i0 : Int) (i1 : Int) (i2 : Int) (r : Int) (hf : f_X4_slipLeft fu S i0 i1 i2 = some (r, S')) : Met l yX4_slipLeft vsX4_slipLeft rm_X4_slipLeft (va_Pc [.int (iI i0), .int (iI i1), .int (iI i2)] (xPre G S)) (xQi G r S') 0 0 (xA G) := by
  refine kx_met (ret := (some .int)) RX4 [(0, .int (iI i0)), (1, .int (iI i1)), (2, .int (iI i2))] (by decide) rfl rfl (Nat.le_of_ble_eq_true rfl) rfl (fun p e s m below meth c ls C hin I hl => ?_)
  exact (w_X4_slipLeft C r S' fu).1 S _ _ _ _ _ _ _ _ hf I hl
def rm_X4_setToRank : Room := { frames := 1, cells := 0, slots := 0, locals := 24 }
theorem nyS_X4_setToRank : yX4_setToRank.cls ≠ "java/lang/invoke/MethodHandle" ∧ yX4_setToRank.cls ≠ "java/lang/invoke/VarHandle" ∧ (parseMethodDescriptor yX4_setToRank.desc).map (fun d => d.parameters.length) = some 3 := by decide +kernel
set_option maxHeartbeats 4000000 in
set_option maxRecDepth 100000 in
theorem w_X4_setToRank {G : xG} {p : Program} {l : Launch} {e : Env} {s : State} {m : MethodId} {args : Array Value} {below : List Frame} {meth : Method} {c : Code} (C : xK G p s m args meth c cX4_setToRank 8 vsX4_setToRank RX4 none) (r : Int) (S' : xS) : ∀ k : Nat,
  (∀ (S : xS) (p0 : Nat) (i0 i1 i2 i3 : Int) (H : Heap) (locs : List Loc) (ls : Array Slot), g_X4_setToRank k 0 S p0 i0 i1 i2 i3 = some (r, S') → xI G S s H locs → lv_has ls 8 [(0, .ref (xB G + p0)), (1, .int (iI i0)), (2, .int (iI i1))] → W p l e rm_X4_setToRank s m args below meth c H locs 0 0 (MQ below (xQv G S') args s 0 0 (xA G)) (F0 m 0 ls [])) ∧
  (∀ (S : xS) (p0 : Nat) (i0 i1 i2 i3 : Int) (H : Heap) (locs : List Loc) (ls : Array Slot), g_X4_setToRank k 1 S p0 i0 i1 i2 i3 = some (r, S') → xI G S s H locs → lv_has ls 8 [(0, .ref (xB G + p0)), (1, .int (iI i0)), (3, .int (iI i1)), (4, .int (iI i2)), (5, .int (iI i3))] → W p l e rm_X4_setToRank s m args below meth c H locs 0 0 (MQ below (xQv G S') args s 0 0 (xA G)) (F0 m 12 ls [])) := by
  intro k
  induction k with
  | zero => exact ⟨fun _ _ _ _ _ _ _ _ _ hf => (by cases hf), fun _ _ _ _ _ _ _ _ _ hf => (by cases hf)⟩
  | succ fu ih =>
    obtain ⟨ih0, ih1⟩ := ih
    refine ⟨?_, ?_⟩
    · intro S p0 i0 i1 i2 i3 H locs ls hf I hl
      replace hf : b_X4_setToRank_0 (g_X4_setToRank fu) fu S p0 i0 i1 i2 i3 = some (r, S') := hf
      unfold b_X4_setToRank_0 at hf
      refine kx_iconst 0 C dX4_setToRank_0 ?_
      refine kx_iload_n 1 C dX4_setToRank_1 (lv_at hl 1 rfl) ?_
      refine kx_ishl 2 C dX4_setToRank_2 ?_
      refine kx_iconst 3 C dX4_setToRank_3 ?_
      refine kx_isub 4 C dX4_setToRank_4 ?_
      obtain ⟨x1, e2, hf⟩ := nmx_e hf
      refine kx_istore_n 5 C (lv' := [(3, .int (iI x1)), (0, .ref (xB G + p0)), (1, .int (iI i0)), (2, .int (iI i1))]) dX4_setToRank_5 hl (by decide) e2 rfl (fun ls hl => ?_)
      refine kx_iload_n 6 C dX4_setToRank_6 (lv_at hl 3 rfl) ?_
      refine kx_istore 7 C (lv' := [(4, .int (iI i1)), (3, .int (iI x1)), (0, .ref (xB G + p0)), (1, .int (iI i0)), (2, .int (iI i1))]) dX4_setToRank_7 hl (by decide) rfl rfl (fun ls hl => ?_)
      refine kx_iconst 9 C dX4_setToRank_9 ?_
      refine kx_istore 10 C (lv' := [(5, .int (iI 0)), (4, .int (iI i1)), (3, .int (iI x1)), (0, .ref (xB G + p0)), (1, .int (iI i0)), (2, .int (iI i1))]) dX4_setToRank_10 hl (by decide) rfl rfl (fun ls hl => ?_)
      exact ih1 _ _ _ _ _ _ _ _ _ hf I (lv_sub hl [3, 4, 2, 1, 0] rfl)
    · intro S p0 i0 i1 i2 i3 H locs ls hf I hl
      replace hf : b_X4_setToRank_1 (g_X4_setToRank fu) fu S p0 i0 i1 i2 i3 = some (r, S') := hf
      unfold b_X4_setToRank_1 at hf
      refine kx_iload 12 C dX4_setToRank_12 (lv_at hl 4 rfl) ?_
      refine kx_iload_n 14 C dX4_setToRank_14 (lv_at hl 1 rfl) ?_
      refine kx_icmp_ge 15 70 C dX4_setToRank_15 (by decide) (fun c3 => ?_) (fun c3 => ?_)
      · have hf := ifp c3 hf
        exact kx_vret 70 C I hf dX4_setToRank_70
      · have hf := ifn c3 hf
        refine kx_getsN 18 C I C.en.2.1.2.2.1 dX4_setToRank_18 ?_
        refine kx_iload_n 21 C dX4_setToRank_21 (lv_at hl 1 rfl) ?_
        refine kx_iconst 22 C dX4_setToRank_22 ?_
        refine kx_isub 23 C dX4_setToRank_23 ?_
        refine kx_iload 24 C dX4_setToRank_24 (lv_at hl 4 rfl) ?_
        refine kx_isub 26 C dX4_setToRank_26 ?_
        obtain ⟨x4, h5, hf⟩ := ob hf
        refine kx_tab 27 C I h5 dX4_setToRank_27 ?_
        refine kx_istore 28 C (lv' := [(6, .int (iI x4)), (0, .ref (xB G + p0)), (1, .int (iI i0)), (3, .int (iI i1)), (4, .int (iI i2)), (5, .int (iI i3))]) dX4_setToRank_28 hl (by decide) rfl rfl (fun ls hl => ?_)
        refine kx_iload_n 30 C dX4_setToRank_30 (lv_at hl 3 rfl) ?_
        refine kx_iload_n 31 C dX4_setToRank_31 (lv_at hl 2 rfl) ?_
        refine kx_iload 32 C dX4_setToRank_32 (lv_at hl 4 rfl) ?_
        refine kx_iload 34 C dX4_setToRank_34 (lv_at hl 0 rfl) ?_
        obtain ⟨h6, hf⟩ := ifz hf
        refine kx_idiv 36 C dX4_setToRank_36 h6 ?_
        obtain ⟨x9, S7, h8, hf⟩ := ob2 hf
        refine kx_callSi 37 C hl I (As := [.int (iI i1), .int (iI i0), .int (iI ((wI i2).tdiv (wI x4)))]) (rest := []) (c_X4_slipLeft G l fu _ _ _ _ _ _ h8) (va_cwS 3 C.ts gX4_setToRank_X4_slipLeft rfl rfl rfl nyS_X4_slipLeft ⟨Nat.le_of_ble_eq_true rfl, Nat.le_of_ble_eq_true rfl⟩) rfl rfl (Nat.le_of_ble_eq_true rfl) dX4_setToRank_37 ⟨Nat.le_of_ble_eq_true rfl, Nat.le_of_ble_eq_true rfl⟩ (fun H locs I => ?_)
        refine kx_istore 40 C (lv' := [(7, .int (iI x9)), (6, .int (iI x4)), (0, .ref (xB G + p0)), (1, .int (iI i0)), (3, .int (iI i1)), (4, .int (iI i2)), (5, .int (iI i3))]) dX4_setToRank_40 hl (by decide) rfl rfl (fun ls hl => ?_)
        refine kx_aload_n 42 C dX4_setToRank_42 (lv_at hl 2 rfl) ?_
        refine kx_iload 43 C dX4_setToRank_43 (lv_at hl 6 rfl) ?_
        refine kx_iload 45 C dX4_setToRank_45 (lv_at hl 0 rfl) ?_
        obtain ⟨S11, h10, hf⟩ := ob hf
        refine kx_iast 47 C I h10 dX4_setToRank_47 (fun H locs I => ?_)
        refine kx_iload_n 48 C dX4_setToRank_48 (lv_at hl 4 rfl) ?_
        refine kx_iconst 49 C dX4_setToRank_49 ?_
        refine kx_iload 50 C dX4_setToRank_50 (lv_at hl 0 rfl) ?_
        refine kx_ishl 52 C dX4_setToRank_52 ?_
        refine kx_iconst 53 C dX4_setToRank_53 ?_
        refine kx_ixor 54 C dX4_setToRank_54 ?_
        refine kx_iand 55 C dX4_setToRank_55 ?_
        obtain ⟨x12, e13, hf⟩ := nmx_e hf
        refine kx_istore_n 56 C (lv' := [(3, .int (iI x12)), (7, .int (iI x9)), (6, .int (iI x4)), (0, .ref (xB G + p0)), (1, .int (iI i0)), (4, .int (iI i2)), (5, .int (iI i3))]) dX4_setToRank_56 hl (by decide) e13 rfl (fun ls hl => ?_)
        refine kx_iload 57 C dX4_setToRank_57 (lv_at hl 5 rfl) ?_
        refine kx_iload 59 C dX4_setToRank_59 (lv_at hl 2 rfl) ?_
        obtain ⟨h14, hf⟩ := ifz hf
        refine kx_irem 61 C dX4_setToRank_61 h14 ?_
        obtain ⟨x15, e16, hf⟩ := nmx_e hf
        refine kx_istore 62 C (lv' := [(4, .int (iI x15)), (3, .int (iI x12)), (7, .int (iI x9)), (6, .int (iI x4)), (0, .ref (xB G + p0)), (1, .int (iI i0)), (5, .int (iI i3))]) dX4_setToRank_62 hl (by decide) e16 rfl (fun ls hl => ?_)
        obtain ⟨x17, e18, hf⟩ := nmx_e hf
        refine kx_iinc 64 C (lv' := [(5, .int (iI x17)), (4, .int (iI x15)), (3, .int (iI x12)), (7, .int (iI x9)), (6, .int (iI x4)), (0, .ref (xB G + p0)), (1, .int (iI i0))]) dX4_setToRank_64 hl 6 rfl e18 (by decide) rfl (fun ls hl => ?_)
        refine kx_goto 67 12 C dX4_setToRank_67 (by decide) ?_
        exact ih1 _ _ _ _ _ _ _ _ _ hf I (lv_sub hl [5, 6, 2, 1, 0] rfl)
set_option maxHeartbeats 4000000 in
set_option maxRecDepth 100000 in
theorem c_X4_setToRank (G : xG) (l : Launch) (fu : Nat) (S S' : xS) (p0 : Nat) (i0 : Int) (i1 : Int) (r : Int) (hf : f_X4_setToRank fu S p0 i0 i1 = some (r, S')) : Met l yX4_setToRank vsX4_setToRank rm_X4_setToRank (va_Pc [.ref (xB G + p0), .int (iI i0), .int (iI i1)] (xPre G S)) (xQv G S') 0 0 (xA G) := by
  refine kx_met (ret := none) RX4 [(0, .ref (xB G + p0)), (1, .int (iI i0)), (2, .int (iI i1))] (by decide) rfl rfl (Nat.le_of_ble_eq_true rfl) rfl (fun p e s m below meth c ls C hin I hl => ?_)
  exact (w_X4_setToRank C r S' fu).1 S _ _ _ _ _ _ _ _ hf I hl
def rm_J7_fill_53178 : Room := { frames := 0, cells := 0, slots := 0, locals := 0 }
theorem nyS_J7_fill_53178 : yJ7_fill_53178.cls ≠ "java/lang/invoke/MethodHandle" ∧ yJ7_fill_53178.cls ≠ "java/lang/invoke/VarHandle" ∧ (parseMethodDescriptor yJ7_fill_53178.desc).map (fun d => d.parameters.length) = some 2 := by decide +kernel
set_option maxHeartbeats 4000000 in
set_option maxRecDepth 100000 in
theorem w_J7_fill_53178 {G : xG} {p : Program} {l : Launch} {e : Env} {s : State} {m : MethodId} {args : Array Value} {below : List Frame} {meth : Method} {c : Code} (C : xK G p s m args meth c cJ7_fill_53178 4 vsJ7_fill_53178 RJ7 none) (r : Int) (S' : xS) : ∀ k : Nat,
  (∀ (S : xS) (p0 : Nat) (i0 i1 i2 : Int) (H : Heap) (locs : List Loc) (ls : Array Slot), g_J7_fill_53178 k 0 S p0 i0 i1 i2 = some (r, S') → xI G S s H locs → lv_has ls 4 [(0, .ref (xB G + p0)), (1, .int (iI i0))] → W p l e rm_J7_fill_53178 s m args below meth c H locs 0 0 (MQ below (xQv G S') args s 0 0 (xA G)) (F0 m 0 ls [])) ∧
  (∀ (S : xS) (p0 : Nat) (i0 i1 i2 : Int) (H : Heap) (locs : List Loc) (ls : Array Slot), g_J7_fill_53178 k 1 S p0 i0 i1 i2 = some (r, S') → xI G S s H locs → lv_has ls 4 [(0, .ref (xB G + p0)), (1, .int (iI i0)), (2, .int (iI i1)), (3, .int (iI i2))] → W p l e rm_J7_fill_53178 s m args below meth c H locs 0 0 (MQ below (xQv G S') args s 0 0 (xA G)) (F0 m 5 ls [])) := by
  intro k
  induction k with
  | zero => exact ⟨fun _ _ _ _ _ _ _ _ hf => (by cases hf), fun _ _ _ _ _ _ _ _ hf => (by cases hf)⟩
  | succ fu ih =>
    obtain ⟨ih0, ih1⟩ := ih
    refine ⟨?_, ?_⟩
    · intro S p0 i0 i1 i2 H locs ls hf I hl
      replace hf : b_J7_fill_53178_0 (g_J7_fill_53178 fu) fu S p0 i0 i1 i2 = some (r, S') := hf
      unfold b_J7_fill_53178_0 at hf
      refine kx_iconst 0 C dJ7_fill_53178_0 ?_
      refine kx_istore_n 1 C (lv' := [(2, .int (iI 0)), (0, .ref (xB G + p0)), (1, .int (iI i0))]) dJ7_fill_53178_1 hl (by decide) rfl rfl (fun ls hl => ?_)
      refine kx_aload_n 2 C dJ7_fill_53178_2 (lv_at hl 1 rfl) ?_
      obtain ⟨x1, h2, hf⟩ := ob hf
      refine kx_alen 3 C I h2 dJ7_fill_53178_3 ?_
      refine kx_istore_n 4 C (lv' := [(3, .int (iI x1)), (2, .int (iI 0)), (0, .ref (xB G + p0)), (1, .int (iI i0))]) dJ7_fill_53178_4 hl (by decide) rfl rfl (fun ls hl => ?_)
      exact ih1 _ _ _ _ _ _ _ _ hf I (lv_sub hl [2, 3, 1, 0] rfl)
    · intro S p0 i0 i1 i2 H locs ls hf I hl
      replace hf : b_J7_fill_53178_1 (g_J7_fill_53178 fu) fu S p0 i0 i1 i2 = some (r, S') := hf
      unfold b_J7_fill_53178_1 at hf
      refine kx_iload_n 5 C dJ7_fill_53178_5 (lv_at hl 2 rfl) ?_
      refine kx_iload_n 6 C dJ7_fill_53178_6 (lv_at hl 3 rfl) ?_
      refine kx_icmp_ge 7 20 C dJ7_fill_53178_7 (by decide) (fun c3 => ?_) (fun c3 => ?_)
      · have hf := ifp c3 hf
        exact kx_vret 20 C I hf dJ7_fill_53178_20
      · have hf := ifn c3 hf
        refine kx_aload_n 10 C dJ7_fill_53178_10 (lv_at hl 0 rfl) ?_
        refine kx_iload_n 11 C dJ7_fill_53178_11 (lv_at hl 2 rfl) ?_
        refine kx_iload_n 12 C dJ7_fill_53178_12 (lv_at hl 1 rfl) ?_
        obtain ⟨S5, h4, hf⟩ := ob hf
        refine kx_iast 13 C I h4 dJ7_fill_53178_13 (fun H locs I => ?_)
        obtain ⟨x6, e7, hf⟩ := nmx_e hf
        refine kx_iinc 14 C (lv' := [(2, .int (iI x6)), (0, .ref (xB G + p0)), (1, .int (iI i0)), (3, .int (iI i2))]) dJ7_fill_53178_14 hl 2 rfl e7 (by decide) rfl (fun ls hl => ?_)
        refine kx_goto 17 5 C dJ7_fill_53178_17 (by decide) ?_
        exact ih1 _ _ _ _ _ _ _ _ hf I (lv_sub hl [1, 2, 0, 3] rfl)
set_option maxHeartbeats 4000000 in
set_option maxRecDepth 100000 in
theorem c_J7_fill_53178 (G : xG) (l : Launch) (fu : Nat) (S S' : xS) (p0 : Nat) (i0 : Int) (r : Int) (hf : f_J7_fill_53178 fu S p0 i0 = some (r, S')) : Met l yJ7_fill_53178 vsJ7_fill_53178 rm_J7_fill_53178 (va_Pc [.ref (xB G + p0), .int (iI i0)] (xPre G S)) (xQv G S') 0 0 (xA G) := by
  refine kx_met (ret := none) RJ7 [(0, .ref (xB G + p0)), (1, .int (iI i0))] (by decide) rfl rfl (Nat.le_of_ble_eq_true rfl) rfl (fun p e s m below meth c ls C hin I hl => ?_)
  exact (w_J7_fill_53178 C r S' fu).1 S _ _ _ _ _ _ _ hf I hl
def rm_X0_add : Room := { frames := 0, cells := 0, slots := 0, locals := 0 }
theorem hin_X0_add_RX0 : ∀ w ∈ wsX00, w ∈ vsX0_add := fun w h => inM (inlX0 w h)
theorem fl_X0_add_9 : xFl vsX0_add RX0 9 0 0 := ⟨RX0, TX0, 9, rfl, by decide, hin_X0_add_RX0, inM mq_34_19, rfl⟩
theorem fl_X0_add_15 : xFl vsX0_add RX0 15 0 1 := ⟨RX0, TX0, 9, rfl, by decide, hin_X0_add_RX0, inM mq_34_20, rfl⟩
theorem fl_X0_add_19 : xFl vsX0_add RX0 19 0 2 := ⟨RX0, TX0, 9, rfl, by decide, hin_X0_add_RX0, inM mq_34_21, rfl⟩
theorem nyS_X0_add : yX0_add.cls ≠ "java/lang/invoke/MethodHandle" ∧ yX0_add.cls ≠ "java/lang/invoke/VarHandle" ∧ (parseMethodDescriptor yX0_add.desc).map (fun d => d.parameters.length) = some 2 := by decide +kernel
theorem nyV_X0_add : yX0_add.cls = RX0 ∧ yX0_add.cls ≠ "java/lang/invoke/MethodHandle" ∧ yX0_add.cls ≠ "java/lang/invoke/VarHandle" ∧ (parseMethodDescriptor yX0_add.desc).map (fun d => d.parameters.length) = some 2 := by decide +kernel
set_option maxHeartbeats 4000000 in
set_option maxRecDepth 100000 in
theorem c_X0_add (G : xG) (l : Launch) (fu : Nat) (S S' : xS) (p0 : Nat) (i0 : Int) (i1 : Int) (r : Int) (hf : f_X0_add fu S p0 i0 i1 = some (r, S')) : Met l yX0_add vsX0_add rm_X0_add (va_Pc [.ref (xB G + p0), .int (iI i0), .int (iI i1)] (xPre G S)) (xQv G S') 0 0 (xA G) := by
  refine kx_met (ret := none) RX0 [(0, .ref (xB G + p0)), (1, .int (iI i0)), (2, .int (iI i1))] (by decide) rfl rfl (Nat.le_of_ble_eq_true rfl) rfl (fun p e s m below meth c ls C hin I hl => ?_)
  unfold f_X0_add at hf
  refine kx_aload_n 0 C dX0_add_0 (lv_at hl 0 rfl) ?_
  obtain ⟨q2, h1, hf⟩ := ob hf
  refine kx_getp 1 C I fl_X0_add_19 h1 dX0_add_1 ?_
  refine kx_iload_n 4 C dX0_add_4 (lv_at hl 1 rfl) ?_
  obtain ⟨x3, h4, hf⟩ := ob hf
  refine kx_iald 5 C I h4 dX0_add_5 ?_
  refine kx_iconst 6 C dX0_add_6 ?_
  refine kx_icmp_ne 7 47 C dX0_add_7 (by decide) (fun c5 => ?_) (fun c5 => ?_)
  · have hf := ifn c5 hf
    exact kx_vret 47 C I hf dX0_add_47
  · have hf := ifp c5 hf
    refine kx_aload_n 10 C dX0_add_10 (lv_at hl 0 rfl) ?_
    obtain ⟨x7, h6, hf⟩ := ob hf
    refine kx_geti 11 C I fl_X0_add_15 h6 dX0_add_11 ?_
    refine kx_sipush 14 C dX0_add_14 (by decide) ?_
    refine kx_icmp_ge 17 47 C dX0_add_17 (by decide) (fun c8 => ?_) (fun c8 => ?_)
    · have hf := ifp c8 hf
      exact kx_vret 47 C I hf dX0_add_47
    · have hf := ifn c8 hf
      refine kx_aload_n 20 C dX0_add_20 (lv_at hl 0 rfl) ?_
      obtain ⟨q10, h9, hf⟩ := ob hf
      refine kx_getp 21 C I fl_X0_add_19 h9 dX0_add_21 ?_
      refine kx_iload_n 24 C dX0_add_24 (lv_at hl 1 rfl) ?_
      refine kx_iload_n 25 C dX0_add_25 (lv_at hl 2 rfl) ?_
      obtain ⟨S12, h11, hf⟩ := ob hf
      refine kx_iast 26 C I h11 dX0_add_26 (fun H locs I => ?_)
      refine kx_aload_n 27 C dX0_add_27 (lv_at hl 0 rfl) ?_
      obtain ⟨q14, h13, hf⟩ := ob hf
      refine kx_getp 28 C I fl_X0_add_9 h13 dX0_add_28 ?_
      refine kx_aload_n 31 C dX0_add_31 (lv_at hl 0 rfl) ?_
      obtain ⟨x16, h15, hf⟩ := ob hf
      refine kx_geti 32 C I fl_X0_add_15 h15 dX0_add_32 ?_
      refine kx_iload_n 35 C dX0_add_35 (lv_at hl 1 rfl) ?_
      obtain ⟨S18, h17, hf⟩ := ob hf
      refine kx_iast 36 C I h17 dX0_add_36 (fun H locs I => ?_)
      refine kx_aload_n 37 C dX0_add_37 (lv_at hl 0 rfl) ?_
      refine kx_dup 38 C dX0_add_38 rfl ?_
      obtain ⟨x20, h19, hf⟩ := ob hf
      refine kx_geti 39 C I fl_X0_add_15 h19 dX0_add_39 ?_
      refine kx_iconst 42 C dX0_add_42 ?_
      refine kx_iadd 43 C dX0_add_43 ?_
      obtain ⟨S22, h21, hf⟩ := ob hf
      refine kx_puti 44 C I fl_X0_add_15 fw_RX0_1 h21 dX0_add_44 (fun H locs I => ?_)
      exact kx_vret 47 C I hf dX0_add_47
def rm_X4_setMoved : Room := { frames := 0, cells := 0, slots := 0, locals := 0 }
theorem nyS_X4_setMoved : yX4_setMoved.cls ≠ "java/lang/invoke/MethodHandle" ∧ yX4_setMoved.cls ≠ "java/lang/invoke/VarHandle" ∧ (parseMethodDescriptor yX4_setMoved.desc).map (fun d => d.parameters.length) = some 4 := by decide +kernel
set_option maxHeartbeats 4000000 in
set_option maxRecDepth 100000 in
theorem w_X4_setMoved {G : xG} {p : Program} {l : Launch} {e : Env} {s : State} {m : MethodId} {args : Array Value} {below : List Frame} {meth : Method} {c : Code} (C : xK G p s m args meth c cX4_setMoved 5 vsX4_setMoved RX4 none) (r : Int) (S' : xS) : ∀ k : Nat,
  (∀ (S : xS) (p0 p1 p2 : Nat) (i0 i1 : Int) (H : Heap) (locs : List Loc) (ls : Array Slot), g_X4_setMoved k 0 S p0 p1 p2 i0 i1 = some (r, S') → xI G S s H locs → lv_has ls 5 [(0, .ref (xB G + p0)), (1, .ref (xB G + p1)), (2, .ref (xB G + p2)), (3, .int (iI i0))] → W p l e rm_X4_setMoved s m args below meth c H locs 0 0 (MQ below (xQv G S') args s 0 0 (xA G)) (F0 m 0 ls [])) ∧
  (∀ (S : xS) (p0 p1 p2 : Nat) (i0 i1 : Int) (H : Heap) (locs : List Loc) (ls : Array Slot), g_X4_setMoved k 1 S p0 p1 p2 i0 i1 = some (r, S') → xI G S s H locs → lv_has ls 5 [(0, .ref (xB G + p0)), (1, .ref (xB G + p1)), (2, .ref (xB G + p2)), (3, .int (iI i0)), (4, .int (iI i1))] → W p l e rm_X4_setMoved s m args below meth c H locs 0 0 (MQ below (xQv G S') args s 0 0 (xA G)) (F0 m 3 ls [])) := by
  intro k
  induction k with
  | zero => exact ⟨fun _ _ _ _ _ _ _ _ _ hf => (by cases hf), fun _ _ _ _ _ _ _ _ _ hf => (by cases hf)⟩
  | succ fu ih =>
    obtain ⟨ih0, ih1⟩ := ih
    refine ⟨?_, ?_⟩
    · intro S p0 p1 p2 i0 i1 H locs ls hf I hl
      replace hf : b_X4_setMoved_0 (g_X4_setMoved fu) fu S p0 p1 p2 i0 i1 = some (r, S') := hf
      unfold b_X4_setMoved_0 at hf
      refine kx_iconst 0 C dX4_setMoved_0 ?_
      refine kx_istore 1 C (lv' := [(4, .int (iI 0)), (0, .ref (xB G + p0)), (1, .ref (xB G + p1)), (2, .ref (xB G + p2)), (3, .int (iI i0))]) dX4_setMoved_1 hl (by decide) rfl rfl (fun ls hl => ?_)
      exact ih1 _ _ _ _ _ _ _ _ _ hf I (lv_sub hl [1, 2, 3, 4, 0] rfl)
    · intro S p0 p1 p2 i0 i1 H locs ls hf I hl
      replace hf : b_X4_setMoved_1 (g_X4_setMoved fu) fu S p0 p1 p2 i0 i1 = some (r, S') := hf
      unfold b_X4_setMoved_1 at hf
      refine kx_iload 3 C dX4_setMoved_3 (lv_at hl 4 rfl) ?_
      refine kx_iload_n 5 C dX4_setMoved_5 (lv_at hl 3 rfl) ?_
      refine kx_icmp_ge 6 25 C dX4_setMoved_6 (by decide) (fun c1 => ?_) (fun c1 => ?_)
      · have hf := ifp c1 hf
        exact kx_vret 25 C I hf dX4_setMoved_25
      · have hf := ifn c1 hf
        refine kx_aload_n 9 C dX4_setMoved_9 (lv_at hl 0 rfl) ?_
        refine kx_aload_n 10 C dX4_setMoved_10 (lv_at hl 2 rfl) ?_
        refine kx_iload 11 C dX4_setMoved_11 (lv_at hl 4 rfl) ?_
        obtain ⟨x2, h3, hf⟩ := ob hf
        refine kx_iald 13 C I h3 dX4_setMoved_13 ?_
        refine kx_aload_n 14 C dX4_setMoved_14 (lv_at hl 1 rfl) ?_
        refine kx_iload 15 C dX4_setMoved_15 (lv_at hl 4 rfl) ?_
        obtain ⟨x4, h5, hf⟩ := ob hf
        refine kx_iald 17 C I h5 dX4_setMoved_17 ?_
        obtain ⟨S7, h6, hf⟩ := ob hf
        refine kx_iast 18 C I h6 dX4_setMoved_18 (fun H locs I => ?_)
        obtain ⟨x8, e9, hf⟩ := nmx_e hf
        refine kx_iinc 19 C (lv' := [(4, .int (iI x8)), (0, .ref (xB G + p0)), (1, .ref (xB G + p1)), (2, .ref (xB G + p2)), (3, .int (iI i0))]) dX4_setMoved_19 hl 4 rfl e9 (by decide) rfl (fun ls hl => ?_)
        refine kx_goto 22 3 C dX4_setMoved_22 (by decide) ?_
        exact ih1 _ _ _ _ _ _ _ _ _ hf I (lv_sub hl [1, 2, 3, 4, 0] rfl)
set_option maxHeartbeats 4000000 in
set_option maxRecDepth 100000 in
theorem c_X4_setMoved (G : xG) (l : Launch) (fu : Nat) (S S' : xS) (p0 : Nat) (p1 : Nat) (p2 : Nat) (i0 : Int) (r : Int) (hf : f_X4_setMoved fu S p0 p1 p2 i0 = some (r, S')) : Met l yX4_setMoved vsX4_setMoved rm_X4_setMoved (va_Pc [.ref (xB G + p0), .ref (xB G + p1), .ref (xB G + p2), .int (iI i0)] (xPre G S)) (xQv G S') 0 0 (xA G) := by
  refine kx_met (ret := none) RX4 [(0, .ref (xB G + p0)), (1, .ref (xB G + p1)), (2, .ref (xB G + p2)), (3, .int (iI i0))] (by decide) rfl rfl (Nat.le_of_ble_eq_true rfl) rfl (fun p e s m below meth c ls C hin I hl => ?_)
  exact (w_X4_setMoved C r S' fu).1 S _ _ _ _ _ _ _ _ hf I hl
def rm_X0_spreadFrom : Room := { frames := 4, cells := 0, slots := 0, locals := 87 }
theorem hin_X0_spreadFrom_RX0 : ∀ w ∈ wsX00, w ∈ vsX0_spreadFrom := fun w h => inM (inlX0 w h)
theorem hin_X0_spreadFrom_RX1 : ∀ w ∈ wsX10, w ∈ vsX0_spreadFrom := fun w h => inM (inlX1 w h)
theorem fl_X0_spreadFrom_9 : xFl vsX0_spreadFrom RX0 9 0 0 := ⟨RX0, TX0, 9, rfl, by decide, hin_X0_spreadFrom_RX0, inM mq_34_19, rfl⟩
theorem fl_X0_spreadFrom_15 : xFl vsX0_spreadFrom RX0 15 0 1 := ⟨RX0, TX0, 9, rfl, by decide, hin_X0_spreadFrom_RX0, inM mq_34_20, rfl⟩
theorem fl_X0_spreadFrom_19 : xFl vsX0_spreadFrom RX0 19 0 2 := ⟨RX0, TX0, 9, rfl, by decide, hin_X0_spreadFrom_RX0, inM mq_34_21, rfl⟩
theorem fl_X0_spreadFrom_22 : xFl vsX0_spreadFrom RX0 22 0 3 := ⟨RX0, TX0, 9, rfl, by decide, hin_X0_spreadFrom_RX0, inM mq_34_22, rfl⟩
theorem fl_X0_spreadFrom_25 : xFl vsX0_spreadFrom RX0 25 0 4 := ⟨RX0, TX0, 9, rfl, by decide, hin_X0_spreadFrom_RX0, inM mq_34_23, rfl⟩
theorem fl_X0_spreadFrom_30 : xFl vsX0_spreadFrom RX0 30 0 5 := ⟨RX0, TX0, 9, rfl, by decide, hin_X0_spreadFrom_RX0, inM mq_35_1, rfl⟩
theorem fl_X0_spreadFrom_33 : xFl vsX0_spreadFrom RX0 33 0 6 := ⟨RX0, TX0, 9, rfl, by decide, hin_X0_spreadFrom_RX0, inM mq_35_2, rfl⟩
theorem fl_X0_spreadFrom_36 : xFl vsX0_spreadFrom RX0 36 0 7 := ⟨RX0, TX0, 9, rfl, by decide, hin_X0_spreadFrom_RX0, inM mq_35_3, rfl⟩
theorem fl_X0_spreadFrom_39 : xFl vsX0_spreadFrom RX0 39 0 8 := ⟨RX0, TX0, 9, rfl, by decide, hin_X0_spreadFrom_RX0, inM mq_35_4, rfl⟩
theorem fl_X0_spreadFrom_42 : xFl vsX0_spreadFrom RX0 42 1 0 := ⟨RX1, TX1, 14, rfl, by decide, hin_X0_spreadFrom_RX1, inM mq_35_9, rfl⟩
theorem fl_X0_spreadFrom_47 : xFl vsX0_spreadFrom RX0 47 1 9 := ⟨RX1, TX1, 14, rfl, by decide, hin_X0_spreadFrom_RX1, inM mq_35_10, rfl⟩
theorem fl_X0_spreadFrom_54 : xFl vsX0_spreadFrom RX0 54 1 10 := ⟨RX1, TX1, 14, rfl, by decide, hin_X0_spreadFrom_RX1, inM mq_35_11, rfl⟩
theorem mw_X0_spreadFrom_0 : Cond.methodLink RX0 61 arraycopyName ∈ vsX0_spreadFrom := inM mq_35_12
theorem mw_X0_spreadFrom_1 : Cond.native arraycopyName ∈ vsX0_spreadFrom := inM mq_8_13
theorem mw_X0_spreadFrom_2 : Cond.static arraycopyName ∈ vsX0_spreadFrom := inM mq_8_14
theorem mw_X0_spreadFrom_3 : Cond.initialized "java/lang/System" ∈ vsX0_spreadFrom := inM mq_8_15
theorem nyS_X0_spreadFrom : yX0_spreadFrom.cls ≠ "java/lang/invoke/MethodHandle" ∧ yX0_spreadFrom.cls ≠ "java/lang/invoke/VarHandle" ∧ (parseMethodDescriptor yX0_spreadFrom.desc).map (fun d => d.parameters.length) = some 1 := by decide +kernel
theorem nyV_X0_spreadFrom : yX0_spreadFrom.cls = RX0 ∧ yX0_spreadFrom.cls ≠ "java/lang/invoke/MethodHandle" ∧ yX0_spreadFrom.cls ≠ "java/lang/invoke/VarHandle" ∧ (parseMethodDescriptor yX0_spreadFrom.desc).map (fun d => d.parameters.length) = some 1 := by decide +kernel
set_option maxHeartbeats 4000000 in
set_option maxRecDepth 100000 in
theorem w_X0_spreadFrom {G : xG} {p : Program} {l : Launch} {e : Env} {s : State} {m : MethodId} {args : Array Value} {below : List Frame} {meth : Method} {c : Code} (C : xK G p s m args meth c cX0_spreadFrom 6 vsX0_spreadFrom RX0 none) (r : Int) (S' : xS) : ∀ k : Nat,
  (∀ (S : xS) (p0 p1 : Nat) (i0 i1 i2 i3 : Int) (H : Heap) (locs : List Loc) (ls : Array Slot), g_X0_spreadFrom k 0 S p0 p1 i0 i1 i2 i3 = some (r, S') → xI G S s H locs → lv_has ls 6 [(0, .ref (xB G + p0)), (1, .ref (xB G + p1))] → W p l e rm_X0_spreadFrom s m args below meth c H locs 0 0 (MQ below (xQv G S') args s 0 0 (xA G)) (F0 m 0 ls [])) ∧
  (∀ (S : xS) (p0 p1 : Nat) (i0 i1 i2 i3 : Int) (H : Heap) (locs : List Loc) (ls : Array Slot), g_X0_spreadFrom k 1 S p0 p1 i0 i1 i2 i3 = some (r, S') → xI G S s H locs → lv_has ls 6 [(0, .ref (xB G + p0)), (1, .ref (xB G + p1)), (2, .int (iI i0)), (3, .int (iI i1))] → W p l e rm_X0_spreadFrom s m args below meth c H locs 0 0 (MQ below (xQv G S') args s 0 0 (xA G)) (F0 m 43 ls [])) ∧
  (∀ (S : xS) (p0 p1 : Nat) (i0 i1 i2 i3 : Int) (H : Heap) (locs : List Loc) (ls : Array Slot), g_X0_spreadFrom k 2 S p0 p1 i0 i1 i2 i3 = some (r, S') → xI G S s H locs → lv_has ls 6 [(0, .ref (xB G + p0)), (1, .ref (xB G + p1)), (2, .int (iI i0)), (3, .int (iI i1))] → W p l e rm_X0_spreadFrom s m args below meth c H locs 0 0 (MQ below (xQv G S') args s 0 0 (xA G)) (F0 m 98 ls [])) ∧
  (∀ (S : xS) (p0 p1 : Nat) (i0 i1 i2 i3 : Int) (H : Heap) (locs : List Loc) (ls : Array Slot), g_X0_spreadFrom k 3 S p0 p1 i0 i1 i2 i3 = some (r, S') → xI G S s H locs → lv_has ls 6 [(0, .ref (xB G + p0)), (1, .ref (xB G + p1)), (2, .int (iI i0)), (3, .int (iI i1)), (4, .int (iI i2)), (5, .int (iI i3))] → W p l e rm_X0_spreadFrom s m args below meth c H locs 0 0 (MQ below (xQv G S') args s 0 0 (xA G)) (F0 m 134 ls [])) := by
  intro k
  induction k with
  | zero => exact ⟨fun _ _ _ _ _ _ _ _ _ _ hf => (by cases hf), fun _ _ _ _ _ _ _ _ _ _ hf => (by cases hf), fun _ _ _ _ _ _ _ _ _ _ hf => (by cases hf), fun _ _ _ _ _ _ _ _ _ _ hf => (by cases hf)⟩
  | succ fu ih =>
    obtain ⟨ih0, ih1, ih2, ih3⟩ := ih
    refine ⟨?_, ?_, ?_, ?_⟩
    · intro S p0 p1 i0 i1 i2 i3 H locs ls hf I hl
      replace hf : b_X0_spreadFrom_0 (g_X0_spreadFrom fu) fu S p0 p1 i0 i1 i2 i3 = some (r, S') := hf
      unfold b_X0_spreadFrom_0 at hf
      refine kx_aload_n 0 C dX0_spreadFrom_0 (lv_at hl 0 rfl) ?_
      refine kx_aload_n 1 C dX0_spreadFrom_1 (lv_at hl 1 rfl) ?_
      obtain ⟨h4, hf⟩ := ift hf
      obtain ⟨x3, S1, h2, hf⟩ := ob2 hf
      refine kx_callVi 2 C hl I (ci := 0) (As := [.ref (xB G + p1)]) (rest := []) (c_X0_isMadeFor G l fu _ _ _ _ _ h2) (cwV 1 C.ts gX0_spreadFrom_X0_isMadeFor rfl rfl rfl nyV_X0_isMadeFor ⟨Nat.le_of_ble_eq_true rfl, Nat.le_of_ble_eq_true rfl⟩) rfl h4 rfl rfl (Nat.le_of_ble_eq_true rfl) dX0_spreadFrom_2 ⟨Nat.le_of_ble_eq_true rfl, Nat.le_of_ble_eq_true rfl⟩ (fun H locs I => ?_)
      refine kx_if_eq 5 9 C dX0_spreadFrom_5 (by decide) (fun c5 => ?_) (fun c5 => ?_)
      · have hf := ifp c5 hf
        refine kx_aload_n 9 C dX0_spreadFrom_9 (lv_at hl 1 rfl) ?_
        obtain ⟨x7, h6, hf⟩ := ob hf
        refine kx_geti 10 C I fl_X0_spreadFrom_42 h6 dX0_spreadFrom_10 ?_
        refine kx_istore_n 13 C (lv' := [(2, .int (iI x7)), (0, .ref (xB G + p0)), (1, .ref (xB G + p1))]) dX0_spreadFrom_13 hl (by decide) rfl rfl (fun ls hl => ?_)
        refine kx_aload_n 14 C dX0_spreadFrom_14 (lv_at hl 1 rfl) ?_
        refine kx_iload_n 15 C dX0_spreadFrom_15 (lv_at hl 0 rfl) ?_
        obtain ⟨S9, h8, hf⟩ := ob hf
        refine kx_puti 16 C I fl_X0_spreadFrom_33 fw_RX0_6 h8 dX0_spreadFrom_16 (fun H locs I => ?_)
        refine kx_aload_n 19 C dX0_spreadFrom_19 (lv_at hl 1 rfl) ?_
        refine kx_aload_n 20 C dX0_spreadFrom_20 (lv_at hl 2 rfl) ?_
        obtain ⟨x11, h10, hf⟩ := ob hf
        refine kx_geti 21 C I fl_X0_spreadFrom_47 h10 dX0_spreadFrom_21 ?_
        obtain ⟨S13, h12, hf⟩ := ob hf
        refine kx_puti 24 C I fl_X0_spreadFrom_36 fw_RX0_7 h12 dX0_spreadFrom_24 (fun H locs I => ?_)
        refine kx_aload_n 27 C dX0_spreadFrom_27 (lv_at hl 2 rfl) ?_
        obtain ⟨q15, h14, hf⟩ := ob hf
        refine kx_getp 28 C I fl_X0_spreadFrom_54 h14 dX0_spreadFrom_28 ?_
        refine kx_iconst 31 C dX0_spreadFrom_31 ?_
        refine kx_aload_n 32 C dX0_spreadFrom_32 (lv_at hl 1 rfl) ?_
        obtain ⟨q17, h16, hf⟩ := ob hf
        refine kx_getp 33 C I fl_X0_spreadFrom_39 h16 dX0_spreadFrom_33 ?_
        refine kx_iconst 36 C dX0_spreadFrom_36 ?_
        refine kx_iconst 37 C dX0_spreadFrom_37 ?_
        obtain ⟨S19, h18, hf⟩ := ob hf
        refine kx_cpy 38 C hl I mw_X0_spreadFrom_0 mw_X0_spreadFrom_1 mw_X0_spreadFrom_2 mw_X0_spreadFrom_3 h18 ⟨Nat.le_of_ble_eq_true rfl, Nat.le_of_ble_eq_true rfl⟩ dX0_spreadFrom_38 (fun H locs I => ?_)
        refine kx_iconst 41 C dX0_spreadFrom_41 ?_
        refine kx_istore_n 42 C (lv' := [(3, .int (iI 0)), (2, .int (iI x7)), (0, .ref (xB G + p0)), (1, .ref (xB G + p1))]) dX0_spreadFrom_42 hl (by decide) rfl rfl (fun ls hl => ?_)
        exact ih1 _ _ _ _ _ _ _ _ _ _ hf I (lv_sub hl [2, 3, 1, 0] rfl)
      · have hf := ifn c5 hf
        exact kx_vret 8 C I hf dX0_spreadFrom_8
    · intro S p0 p1 i0 i1 i2 i3 H locs ls hf I hl
      replace hf : b_X0_spreadFrom_1 (g_X0_spreadFrom fu) fu S p0 p1 i0 i1 i2 i3 = some (r, S') := hf
      unfold b_X0_spreadFrom_1 at hf
      refine kx_iload_n 43 C dX0_spreadFrom_43 (lv_at hl 3 rfl) ?_
      refine kx_aload_n 44 C dX0_spreadFrom_44 (lv_at hl 1 rfl) ?_
      obtain ⟨x21, h20, hf⟩ := ob hf
      refine kx_geti 45 C I fl_X0_spreadFrom_47 h20 dX0_spreadFrom_45 ?_
      refine kx_icmp_ge 48 73 C dX0_spreadFrom_48 (by decide) (fun c22 => ?_) (fun c22 => ?_)
      · have hf := ifp c22 hf
        refine kx_aload_n 73 C dX0_spreadFrom_73 (lv_at hl 0 rfl) ?_
        obtain ⟨q24, h23, hf⟩ := ob hf
        refine kx_getp 74 C I fl_X0_spreadFrom_19 h23 dX0_spreadFrom_74 ?_
        refine kx_iconst 77 C dX0_spreadFrom_77 ?_
        obtain ⟨z27, S25, h26, hf⟩ := ob2 hf
        refine kx_callSv 78 C hl I (As := [.ref (xB G + q24), .int (iI ((-1)))]) (rest := []) (c_J7_fill_53178 G l fu _ _ _ _ _ h26) (va_cwS 2 C.ts gX0_spreadFrom_J7_fill_53178 rfl rfl rfl nyS_J7_fill_53178 ⟨Nat.le_of_ble_eq_true rfl, Nat.le_of_ble_eq_true rfl⟩) rfl rfl (Nat.le_of_ble_eq_true rfl) dX0_spreadFrom_78 ⟨Nat.le_of_ble_eq_true rfl, Nat.le_of_ble_eq_true rfl⟩ (fun H locs I => ?_)
        refine kx_aload_n 81 C dX0_spreadFrom_81 (lv_at hl 0 rfl) ?_
        refine kx_iconst 82 C dX0_spreadFrom_82 ?_
        obtain ⟨S29, h28, hf⟩ := ob hf
        refine kx_puti 83 C I fl_X0_spreadFrom_15 fw_RX0_1 h28 dX0_spreadFrom_83 (fun H locs I => ?_)
        refine kx_aload_n 86 C dX0_spreadFrom_86 (lv_at hl 0 rfl) ?_
        refine kx_aload_n 87 C dX0_spreadFrom_87 (lv_at hl 1 rfl) ?_
        obtain ⟨h33, hf⟩ := ift hf
        obtain ⟨x32, S30, h31, hf⟩ := ob2 hf
        refine kx_callVi 88 C hl I (ci := 1) (As := []) (rest := [.ref (xB G + p0)]) (c_X1_rankNow G l fu _ _ _ _ h31) (cwV 0 C.ts gX0_spreadFrom_X1_rankNow rfl rfl rfl nyV_X1_rankNow ⟨Nat.le_of_ble_eq_true rfl, Nat.le_of_ble_eq_true rfl⟩) rfl h33 rfl rfl (Nat.le_of_ble_eq_true rfl) dX0_spreadFrom_88 ⟨Nat.le_of_ble_eq_true rfl, Nat.le_of_ble_eq_true rfl⟩ (fun H locs I => ?_)
        refine kx_bipush 91 C dX0_spreadFrom_91 (by decide) ?_
        obtain ⟨h37, hf⟩ := ift hf
        obtain ⟨z36, S34, h35, hf⟩ := ob2 hf
        refine kx_callVv 93 C hl I (ci := 0) (As := [.int (iI x32), .int (iI ((-2)))]) (rest := []) (c_X0_add G l fu _ _ _ _ _ _ h35) (cwV 2 C.ts gX0_spreadFrom_X0_add rfl rfl rfl nyV_X0_add ⟨Nat.le_of_ble_eq_true rfl, Nat.le_of_ble_eq_true rfl⟩) rfl h37 rfl rfl (Nat.le_of_ble_eq_true rfl) dX0_spreadFrom_93 ⟨Nat.le_of_ble_eq_true rfl, Nat.le_of_ble_eq_true rfl⟩ (fun H locs I => ?_)
        refine kx_iconst 96 C dX0_spreadFrom_96 ?_
        refine kx_istore_n 97 C (lv' := [(3, .int (iI 0)), (0, .ref (xB G + p0)), (1, .ref (xB G + p1)), (2, .int (iI i0))]) dX0_spreadFrom_97 hl (by decide) rfl rfl (fun ls hl => ?_)
        exact ih2 _ _ _ _ _ _ _ _ _ _ hf I (lv_sub hl [1, 2, 3, 0] rfl)
      · have hf := ifn c22 hf
        refine kx_aload_n 51 C dX0_spreadFrom_51 (lv_at hl 0 rfl) ?_
        obtain ⟨q39, h38, hf⟩ := ob hf
        refine kx_getp 52 C I fl_X0_spreadFrom_30 h38 dX0_spreadFrom_52 ?_
        refine kx_iload_n 55 C dX0_spreadFrom_55 (lv_at hl 3 rfl) ?_
        obtain ⟨q40, h41, hf⟩ := onP_n hf
        refine kx_aald 56 C I (k := 4) rfl rfl h41 dX0_spreadFrom_56 ?_
        refine W.eq (g2 := F0 m 57 ls [.ref (xB G + q40)]) rfl ?_
        refine kx_iload_n 57 C dX0_spreadFrom_57 (lv_at hl 2 rfl) ?_
        refine kx_aload_n 58 C dX0_spreadFrom_58 (lv_at hl 1 rfl) ?_
        obtain ⟨q43, h42, hf⟩ := ob hf
        refine kx_getp 59 C I fl_X0_spreadFrom_54 h42 dX0_spreadFrom_59 ?_
        refine kx_iload_n 62 C dX0_spreadFrom_62 (lv_at hl 3 rfl) ?_
        obtain ⟨x44, h45, hf⟩ := ob hf
        refine kx_iald 63 C I h45 dX0_spreadFrom_63 ?_
        obtain ⟨z48, S46, h47, hf⟩ := ob2 hf
        refine kx_callSv 64 C hl I (As := [.ref (xB G + q40), .int (iI i0), .int (iI x44)]) (rest := []) (c_X4_setToRank G l fu _ _ _ _ _ _ h47) (va_cwS 3 C.ts gX0_spreadFrom_X4_setToRank rfl rfl rfl nyS_X4_setToRank ⟨Nat.le_of_ble_eq_true rfl, Nat.le_of_ble_eq_true rfl⟩) rfl rfl (Nat.le_of_ble_eq_true rfl) dX0_spreadFrom_64 ⟨Nat.le_of_ble_eq_true rfl, Nat.le_of_ble_eq_true rfl⟩ (fun H locs I => ?_)
        obtain ⟨x49, e50, hf⟩ := nmx_e hf
        refine kx_iinc 67 C (lv' := [(3, .int (iI x49)), (0, .ref (xB G + p0)), (1, .ref (xB G + p1)), (2, .int (iI i0))]) dX0_spreadFrom_67 hl 3 rfl e50 (by decide) rfl (fun ls hl => ?_)
        refine kx_goto 70 43 C dX0_spreadFrom_70 (by decide) ?_
        exact ih1 _ _ _ _ _ _ _ _ _ _ hf I (lv_sub hl [1, 2, 3, 0] rfl)
    · intro S p0 p1 i0 i1 i2 i3 H locs ls hf I hl
      replace hf : b_X0_spreadFrom_2 (g_X0_spreadFrom fu) fu S p0 p1 i0 i1 i2 i3 = some (r, S') := hf
      unfold b_X0_spreadFrom_2 at hf
      refine kx_iload_n 98 C dX0_spreadFrom_98 (lv_at hl 3 rfl) ?_
      refine kx_aload_n 99 C dX0_spreadFrom_99 (lv_at hl 0 rfl) ?_
      obtain ⟨x52, h51, hf⟩ := ob hf
      refine kx_geti 100 C I fl_X0_spreadFrom_15 h51 dX0_spreadFrom_100 ?_
      refine kx_icmp_ge 103 193 C dX0_spreadFrom_103 (by decide) (fun c53 => ?_) (fun c53 => ?_)
      · have hf := ifp c53 hf
        exact kx_vret 193 C I hf dX0_spreadFrom_193
      · have hf := ifn c53 hf
        refine kx_iload_n 106 C dX0_spreadFrom_106 (lv_at hl 3 rfl) ?_
        refine kx_sipush 107 C dX0_spreadFrom_107 (by decide) ?_
        refine kx_icmp_ge 110 193 C dX0_spreadFrom_110 (by decide) (fun c54 => ?_) (fun c54 => ?_)
        · have hf := ifp c54 hf
          exact kx_vret 193 C I hf dX0_spreadFrom_193
        · have hf := ifn c54 hf
          refine kx_aload_n 113 C dX0_spreadFrom_113 (lv_at hl 0 rfl) ?_
          obtain ⟨q56, h55, hf⟩ := ob hf
          refine kx_getp 114 C I fl_X0_spreadFrom_9 h55 dX0_spreadFrom_114 ?_
          refine kx_iload_n 117 C dX0_spreadFrom_117 (lv_at hl 3 rfl) ?_
          obtain ⟨x57, h58, hf⟩ := ob hf
          refine kx_iald 118 C I h58 dX0_spreadFrom_118 ?_
          refine kx_istore 119 C (lv' := [(4, .int (iI x57)), (0, .ref (xB G + p0)), (1, .ref (xB G + p1)), (2, .int (iI i0)), (3, .int (iI i1))]) dX0_spreadFrom_119 hl (by decide) rfl rfl (fun ls hl => ?_)
          refine kx_aload_n 121 C dX0_spreadFrom_121 (lv_at hl 1 rfl) ?_
          obtain ⟨q60, h59, hf⟩ := ob hf
          refine kx_getp 122 C I fl_X0_spreadFrom_22 h59 dX0_spreadFrom_122 ?_
          refine kx_iload_n 125 C dX0_spreadFrom_125 (lv_at hl 3 rfl) ?_
          refine kx_iload 126 C dX0_spreadFrom_126 (lv_at hl 0 rfl) ?_
          obtain ⟨z63, S61, h62, hf⟩ := ob2 hf
          refine kx_callSv 128 C hl I (As := [.ref (xB G + q60), .int (iI i0), .int (iI x57)]) (rest := []) (c_X4_setToRank G l fu _ _ _ _ _ _ h62) (va_cwS 3 C.ts gX0_spreadFrom_X4_setToRank rfl rfl rfl nyS_X4_setToRank ⟨Nat.le_of_ble_eq_true rfl, Nat.le_of_ble_eq_true rfl⟩) rfl rfl (Nat.le_of_ble_eq_true rfl) dX0_spreadFrom_128 ⟨Nat.le_of_ble_eq_true rfl, Nat.le_of_ble_eq_true rfl⟩ (fun H locs I => ?_)
          refine kx_iconst 131 C dX0_spreadFrom_131 ?_
          refine kx_istore 132 C (lv' := [(5, .int (iI 0)), (4, .int (iI x57)), (0, .ref (xB G + p0)), (1, .ref (xB G + p1)), (2, .int (iI i0)), (3, .int (iI i1))]) dX0_spreadFrom_132 hl (by decide) rfl rfl (fun ls hl => ?_)
          exact ih3 _ _ _ _ _ _ _ _ _ _ hf I (lv_sub hl [2, 3, 4, 5, 1, 0] rfl)
    · intro S p0 p1 i0 i1 i2 i3 H locs ls hf I hl
      replace hf : b_X0_spreadFrom_3 (g_X0_spreadFrom fu) fu S p0 p1 i0 i1 i2 i3 = some (r, S') := hf
      unfold b_X0_spreadFrom_3 at hf
      refine kx_iload 134 C dX0_spreadFrom_134 (lv_at hl 5 rfl) ?_
      refine kx_aload_n 136 C dX0_spreadFrom_136 (lv_at hl 1 rfl) ?_
      obtain ⟨x65, h64, hf⟩ := ob hf
      refine kx_geti 137 C I fl_X0_spreadFrom_47 h64 dX0_spreadFrom_137 ?_
      refine kx_icmp_ge 140 187 C dX0_spreadFrom_140 (by decide) (fun c66 => ?_) (fun c66 => ?_)
      · have hf := ifp c66 hf
        obtain ⟨x67, e68, hf⟩ := nmx_e hf
        refine kx_iinc 187 C (lv' := [(3, .int (iI x67)), (0, .ref (xB G + p0)), (1, .ref (xB G + p1)), (2, .int (iI i0)), (4, .int (iI i2)), (5, .int (iI i3))]) dX0_spreadFrom_187 hl 3 rfl e68 (by decide) rfl (fun ls hl => ?_)
        refine kx_goto 190 98 C dX0_spreadFrom_190 (by decide) ?_
        exact ih2 _ _ _ _ _ _ _ _ _ _ hf I (lv_sub hl [1, 2, 3, 0] rfl)
      · have hf := ifn c66 hf
        refine kx_aload_n 143 C dX0_spreadFrom_143 (lv_at hl 0 rfl) ?_
        obtain ⟨q70, h69, hf⟩ := ob hf
        refine kx_getp 144 C I fl_X0_spreadFrom_25 h69 dX0_spreadFrom_144 ?_
        refine kx_aload_n 147 C dX0_spreadFrom_147 (lv_at hl 0 rfl) ?_
        obtain ⟨q72, h71, hf⟩ := ob hf
        refine kx_getp 148 C I fl_X0_spreadFrom_22 h71 dX0_spreadFrom_148 ?_
        refine kx_aload_n 151 C dX0_spreadFrom_151 (lv_at hl 0 rfl) ?_
        obtain ⟨q74, h73, hf⟩ := ob hf
        refine kx_getp 152 C I fl_X0_spreadFrom_30 h73 dX0_spreadFrom_152 ?_
        refine kx_iload 155 C dX0_spreadFrom_155 (lv_at hl 5 rfl) ?_
        obtain ⟨q75, h76, hf⟩ := onP_n hf
        refine kx_aald 157 C I (k := 4) rfl rfl h76 dX0_spreadFrom_157 ?_
        refine W.eq (g2 := F0 m 158 ls [.ref (xB G + q75), .ref (xB G + q72), .ref (xB G + q70)]) rfl ?_
        refine kx_iload_n 158 C dX0_spreadFrom_158 (lv_at hl 2 rfl) ?_
        obtain ⟨z79, S77, h78, hf⟩ := ob2 hf
        refine kx_callSv 159 C hl I (As := [.ref (xB G + q70), .ref (xB G + q72), .ref (xB G + q75), .int (iI i0)]) (rest := []) (c_X4_setMoved G l fu _ _ _ _ _ _ _ h78) (va_cwS 4 C.ts gX0_spreadFrom_X4_setMoved rfl rfl rfl nyS_X4_setMoved ⟨Nat.le_of_ble_eq_true rfl, Nat.le_of_ble_eq_true rfl⟩) rfl rfl (Nat.le_of_ble_eq_true rfl) dX0_spreadFrom_159 ⟨Nat.le_of_ble_eq_true rfl, Nat.le_of_ble_eq_true rfl⟩ (fun H locs I => ?_)
        refine kx_aload_n 162 C dX0_spreadFrom_162 (lv_at hl 0 rfl) ?_
        refine kx_aload_n 163 C dX0_spreadFrom_163 (lv_at hl 0 rfl) ?_
        obtain ⟨q81, h80, hf⟩ := ob hf
        refine kx_getp 164 C I fl_X0_spreadFrom_25 h80 dX0_spreadFrom_164 ?_
        refine kx_iload_n 167 C dX0_spreadFrom_167 (lv_at hl 2 rfl) ?_
        obtain ⟨x84, S82, h83, hf⟩ := ob2 hf
        refine kx_callSi 168 C hl I (As := [.ref (xB G + q81), .int (iI i0)]) (rest := [.ref (xB G + p0)]) (c_X4_rankOf G l fu _ _ _ _ _ h83) (va_cwS 2 C.ts gX0_spreadFrom_X4_rankOf rfl rfl rfl nyS_X4_rankOf ⟨Nat.le_of_ble_eq_true rfl, Nat.le_of_ble_eq_true rfl⟩) rfl rfl (Nat.le_of_ble_eq_true rfl) dX0_spreadFrom_168 ⟨Nat.le_of_ble_eq_true rfl, Nat.le_of_ble_eq_true rfl⟩ (fun H locs I => ?_)
        refine kx_iconst 171 C dX0_spreadFrom_171 ?_
        refine kx_iload 172 C dX0_spreadFrom_172 (lv_at hl 4 rfl) ?_
        refine kx_imul 174 C dX0_spreadFrom_174 ?_
        refine kx_iload 175 C dX0_spreadFrom_175 (lv_at hl 5 rfl) ?_
        refine kx_iadd 177 C dX0_spreadFrom_177 ?_
        obtain ⟨h88, hf⟩ := ift hf
        obtain ⟨z87, S85, h86, hf⟩ := ob2 hf
        refine kx_callVv 178 C hl I (ci := 0) (As := [.int (iI x84), .int (iI ((4 * i2) + i3))]) (rest := []) (c_X0_add G l fu _ _ _ _ _ _ h86) (cwV 2 C.ts gX0_spreadFrom_X0_add rfl rfl rfl nyV_X0_add ⟨Nat.le_of_ble_eq_true rfl, Nat.le_of_ble_eq_true rfl⟩) rfl h88 rfl rfl (Nat.le_of_ble_eq_true rfl) dX0_spreadFrom_178 ⟨Nat.le_of_ble_eq_true rfl, Nat.le_of_ble_eq_true rfl⟩ (fun H locs I => ?_)
        obtain ⟨x89, e90, hf⟩ := nmx_e hf
        refine kx_iinc 181 C (lv' := [(5, .int (iI x89)), (0, .ref (xB G + p0)), (1, .ref (xB G + p1)), (2, .int (iI i0)), (3, .int (iI i1)), (4, .int (iI i2))]) dX0_spreadFrom_181 hl 5 rfl e90 (by decide) rfl (fun ls hl => ?_)
        refine kx_goto 184 134 C dX0_spreadFrom_184 (by decide) ?_
        exact ih3 _ _ _ _ _ _ _ _ _ _ hf I (lv_sub hl [1, 2, 3, 4, 5, 0] rfl)
set_option maxHeartbeats 4000000 in
set_option maxRecDepth 100000 in
theorem c_X0_spreadFrom (G : xG) (l : Launch) (fu : Nat) (S S' : xS) (p0 : Nat) (p1 : Nat) (r : Int) (hf : f_X0_spreadFrom fu S p0 p1 = some (r, S')) : Met l yX0_spreadFrom vsX0_spreadFrom rm_X0_spreadFrom (va_Pc [.ref (xB G + p0), .ref (xB G + p1)] (xPre G S)) (xQv G S') 0 0 (xA G) := by
  refine kx_met (ret := none) RX0 [(0, .ref (xB G + p0)), (1, .ref (xB G + p1))] (by decide) rfl rfl (Nat.le_of_ble_eq_true rfl) rfl (fun p e s m below meth c ls C hin I hl => ?_)
  exact (w_X0_spreadFrom C r S' fu).1 S _ _ _ _ _ _ _ _ _ hf I hl
def rm_X0_moveTo : Room := { frames := 0, cells := 0, slots := 0, locals := 0 }
theorem hin_X0_moveTo_RX0 : ∀ w ∈ wsX00, w ∈ vsX0_moveTo := fun w h => inM (inlX0 w h)
theorem fl_X0_moveTo_19 : xFl vsX0_moveTo RX0 19 0 2 := ⟨RX0, TX0, 9, rfl, by decide, hin_X0_moveTo_RX0, inM mq_34_21, rfl⟩
theorem nyS_X0_moveTo : yX0_moveTo.cls ≠ "java/lang/invoke/MethodHandle" ∧ yX0_moveTo.cls ≠ "java/lang/invoke/VarHandle" ∧ (parseMethodDescriptor yX0_moveTo.desc).map (fun d => d.parameters.length) = some 2 := by decide +kernel
theorem nyV_X0_moveTo : yX0_moveTo.cls = RX0 ∧ yX0_moveTo.cls ≠ "java/lang/invoke/MethodHandle" ∧ yX0_moveTo.cls ≠ "java/lang/invoke/VarHandle" ∧ (parseMethodDescriptor yX0_moveTo.desc).map (fun d => d.parameters.length) = some 2 := by decide +kernel
set_option maxHeartbeats 4000000 in
set_option maxRecDepth 100000 in
theorem w_X0_moveTo {G : xG} {p : Program} {l : Launch} {e : Env} {s : State} {m : MethodId} {args : Array Value} {below : List Frame} {meth : Method} {c : Code} (C : xK G p s m args meth c cX0_moveTo 6 vsX0_moveTo RX0 (some .int)) (r : Int) (S' : xS) : ∀ k : Nat,
  (∀ (S : xS) (p0 : Nat) (i0 i1 i2 i3 : Int) (H : Heap) (locs : List Loc) (ls : Array Slot), g_X0_moveTo k 0 S p0 i0 i1 i2 i3 = some (r, S') → xI G S s H locs → lv_has ls 6 [(0, .ref (xB G + p0)), (1, .int (iI i0)), (2, .int (iI i1))] → W p l e rm_X0_moveTo s m args below meth c H locs 0 0 (MQ below (xQi G r S') args s 0 0 (xA G)) (F0 m 0 ls [])) ∧
  (∀ (S : xS) (p0 : Nat) (i0 i1 i2 i3 : Int) (H : Heap) (locs : List Loc) (ls : Array Slot), g_X0_moveTo k 1 S p0 i0 i1 i2 i3 = some (r, S') → xI G S s H locs → lv_has ls 6 [(0, .ref (xB G + p0)), (1, .int (iI i0)), (2, .int (iI i1)), (3, .int (iI i2)), (4, .int (iI i3))] → W p l e rm_X0_moveTo s m args below meth c H locs 0 0 (MQ below (xQi G r S') args s 0 0 (xA G)) (F0 m 17 ls [])) ∧
  (∀ (S : xS) (p0 : Nat) (i0 i1 i2 i3 : Int) (H : Heap) (locs : List Loc) (ls : Array Slot), g_X0_moveTo k 2 S p0 i0 i1 i2 i3 = some (r, S') → xI G S s H locs → lv_has ls 6 [(0, .ref (xB G + p0)), (1, .int (iI i0)), (2, .int (iI i1)), (3, .int (iI i2))] → W p l e rm_X0_moveTo s m args below meth c H locs 0 0 (MQ below (xQi G r S') args s 0 0 (xA G)) (F0 m 51 ls [])) ∧
  (∀ (S : xS) (p0 : Nat) (i0 i1 i2 i3 : Int) (H : Heap) (locs : List Loc) (ls : Array Slot), g_X0_moveTo k 3 S p0 i0 i1 i2 i3 = some (r, S') → xI G S s H locs → lv_has ls 6 [(0, .ref (xB G + p0)), (2, .int (iI i0)), (4, .int (iI i1)), (5, .int (iI i2))] → W p l e rm_X0_moveTo s m args below meth c H locs 0 0 (MQ below (xQi G r S') args s 0 0 (xA G)) (F0 m 74 ls [])) := by
  intro k
  induction k with
  | zero => exact ⟨fun _ _ _ _ _ _ _ _ _ hf => (by cases hf), fun _ _ _ _ _ _ _ _ _ hf => (by cases hf), fun _ _ _ _ _ _ _ _ _ hf => (by cases hf), fun _ _ _ _ _ _ _ _ _ hf => (by cases hf)⟩
  | succ fu ih =>
    obtain ⟨ih0, ih1, ih2, ih3⟩ := ih
    refine ⟨?_, ?_, ?_, ?_⟩
    · intro S p0 i0 i1 i2 i3 H locs ls hf I hl
      replace hf : b_X0_moveTo_0 (g_X0_moveTo fu) fu S p0 i0 i1 i2 i3 = some (r, S') := hf
      unfold b_X0_moveTo_0 at hf
      refine kx_aload_n 0 C dX0_moveTo_0 (lv_at hl 0 rfl) ?_
      obtain ⟨q2, h1, hf⟩ := ob hf
      refine kx_getp 1 C I fl_X0_moveTo_19 h1 dX0_moveTo_1 ?_
      refine kx_iload_n 4 C dX0_moveTo_4 (lv_at hl 1 rfl) ?_
      obtain ⟨x3, h4, hf⟩ := ob hf
      refine kx_iald 5 C I h4 dX0_moveTo_5 ?_
      refine kx_iconst 6 C dX0_moveTo_6 ?_
      refine kx_icmp_ne 7 12 C dX0_moveTo_7 (by decide) (fun c5 => ?_) (fun c5 => ?_)
      · have hf := ifn c5 hf
        refine kx_iconst 12 C dX0_moveTo_12 ?_
        refine kx_istore_n 13 C (lv' := [(3, .int (iI 0)), (0, .ref (xB G + p0)), (1, .int (iI i0)), (2, .int (iI i1))]) dX0_moveTo_13 hl (by decide) rfl rfl (fun ls hl => ?_)
        refine kx_iload_n 14 C dX0_moveTo_14 (lv_at hl 2 rfl) ?_
        refine kx_istore 15 C (lv' := [(4, .int (iI i0)), (3, .int (iI 0)), (0, .ref (xB G + p0)), (1, .int (iI i0)), (2, .int (iI i1))]) dX0_moveTo_15 hl (by decide) rfl rfl (fun ls hl => ?_)
        exact ih1 _ _ _ _ _ _ _ _ _ hf I (lv_sub hl [2, 3, 4, 1, 0] rfl)
      · have hf := ifp c5 hf
        refine kx_iconst 10 C dX0_moveTo_10 ?_
        exact kx_iret 11 C I hf dX0_moveTo_11
    · intro S p0 i0 i1 i2 i3 H locs ls hf I hl
      replace hf : b_X0_moveTo_1 (g_X0_moveTo fu) fu S p0 i0 i1 i2 i3 = some (r, S') := hf
      unfold b_X0_moveTo_1 at hf
      refine kx_aload_n 17 C dX0_moveTo_17 (lv_at hl 0 rfl) ?_
      obtain ⟨q7, h6, hf⟩ := ob hf
      refine kx_getp 18 C I fl_X0_moveTo_19 h6 dX0_moveTo_18 ?_
      refine kx_iload 21 C dX0_moveTo_21 (lv_at hl 4 rfl) ?_
      obtain ⟨x8, h9, hf⟩ := ob hf
      refine kx_iald 23 C I h9 dX0_moveTo_23 ?_
      refine kx_if_lt 24 51 C dX0_moveTo_24 (by decide) (fun c10 => ?_) (fun c10 => ?_)
      · have hf := ifp c10 hf
        exact ih2 _ _ _ _ _ _ _ _ _ hf I (lv_sub hl [0, 1, 2, 3] rfl)
      · have hf := ifn c10 hf
        refine kx_iload_n 27 C dX0_moveTo_27 (lv_at hl 3 rfl) ?_
        refine kx_sipush 28 C dX0_moveTo_28 (by decide) ?_
        refine kx_icmp_ge 31 51 C dX0_moveTo_31 (by decide) (fun c11 => ?_) (fun c11 => ?_)
        · have hf := ifp c11 hf
          exact ih2 _ _ _ _ _ _ _ _ _ hf I (lv_sub hl [0, 1, 2, 3] rfl)
        · have hf := ifn c11 hf
          obtain ⟨x12, e13, hf⟩ := nmx_e hf
          refine kx_iinc 34 C (lv' := [(3, .int (iI x12)), (0, .ref (xB G + p0)), (1, .int (iI i0)), (2, .int (iI i1)), (4, .int (iI i3))]) dX0_moveTo_34 hl 3 rfl e13 (by decide) rfl (fun ls hl => ?_)
          refine kx_aload_n 37 C dX0_moveTo_37 (lv_at hl 1 rfl) ?_
          obtain ⟨q15, h14, hf⟩ := ob hf
          refine kx_getp 38 C I fl_X0_moveTo_19 h14 dX0_moveTo_38 ?_
          refine kx_iload 41 C dX0_moveTo_41 (lv_at hl 4 rfl) ?_
          obtain ⟨x16, h17, hf⟩ := ob hf
          refine kx_iald 43 C I h17 dX0_moveTo_43 ?_
          refine kx_iconst 44 C dX0_moveTo_44 ?_
          obtain ⟨h18, hf⟩ := ifz hf
          refine kx_idiv 45 C dX0_moveTo_45 h18 ?_
          obtain ⟨x19, e20, hf⟩ := nmx_e hf
          refine kx_istore 46 C (lv' := [(4, .int (iI x19)), (3, .int (iI x12)), (0, .ref (xB G + p0)), (1, .int (iI i0)), (2, .int (iI i1))]) dX0_moveTo_46 hl (by decide) e20 rfl (fun ls hl => ?_)
          refine kx_goto 48 17 C dX0_moveTo_48 (by decide) ?_
          exact ih1 _ _ _ _ _ _ _ _ _ hf I (lv_sub hl [2, 3, 4, 1, 0] rfl)
    · intro S p0 i0 i1 i2 i3 H locs ls hf I hl
      replace hf : b_X0_moveTo_2 (g_X0_moveTo fu) fu S p0 i0 i1 i2 i3 = some (r, S') := hf
      unfold b_X0_moveTo_2 at hf
      refine kx_iload_n 51 C dX0_moveTo_51 (lv_at hl 2 rfl) ?_
      refine kx_iconst 52 C dX0_moveTo_52 ?_
      refine kx_icmp_ne 53 58 C dX0_moveTo_53 (by decide) (fun c21 => ?_) (fun c21 => ?_)
      · have hf := ifn c21 hf
        refine kx_iload_n 58 C dX0_moveTo_58 (lv_at hl 2 rfl) ?_
        refine kx_iload_n 59 C dX0_moveTo_59 (lv_at hl 3 rfl) ?_
        refine kx_icmp_lt 60 66 C dX0_moveTo_60 (by decide) (fun c22 => ?_) (fun c22 => ?_)
        · have hf := ifp c22 hf
          refine kx_iload_n 66 C dX0_moveTo_66 (lv_at hl 1 rfl) ?_
          refine kx_istore 67 C (lv' := [(4, .int (iI i0)), (0, .ref (xB G + p0)), (1, .int (iI i0)), (2, .int (iI i1)), (3, .int (iI i2))]) dX0_moveTo_67 hl (by decide) rfl rfl (fun ls hl => ?_)
          refine kx_iload_n 69 C dX0_moveTo_69 (lv_at hl 4 rfl) ?_
          refine kx_iconst 70 C dX0_moveTo_70 ?_
          refine kx_isub 71 C dX0_moveTo_71 ?_
          obtain ⟨x23, e24, hf⟩ := nmx_e hf
          refine kx_istore 72 C (lv' := [(5, .int (iI x23)), (4, .int (iI i0)), (0, .ref (xB G + p0)), (1, .int (iI i0)), (2, .int (iI i1)), (3, .int (iI i2))]) dX0_moveTo_72 hl (by decide) e24 rfl (fun ls hl => ?_)
          exact ih3 _ _ _ _ _ _ _ _ _ hf I (lv_sub hl [2, 4, 1, 0] rfl)
        · have hf := ifn c22 hf
          refine kx_bipush 63 C dX0_moveTo_63 (by decide) ?_
          exact kx_iret 65 C I hf dX0_moveTo_65
      · have hf := ifp c21 hf
        refine kx_iload_n 56 C dX0_moveTo_56 (lv_at hl 3 rfl) ?_
        exact kx_iret 57 C I hf dX0_moveTo_57
    · intro S p0 i0 i1 i2 i3 H locs ls hf I hl
      replace hf : b_X0_moveTo_3 (g_X0_moveTo fu) fu S p0 i0 i1 i2 i3 = some (r, S') := hf
      unfold b_X0_moveTo_3 at hf
      refine kx_iload 74 C dX0_moveTo_74 (lv_at hl 3 rfl) ?_
      refine kx_iload_n 76 C dX0_moveTo_76 (lv_at hl 1 rfl) ?_
      refine kx_icmp_le 77 97 C dX0_moveTo_77 (by decide) (fun c25 => ?_) (fun c25 => ?_)
      · have hf := ifp c25 hf
        refine kx_aload_n 97 C dX0_moveTo_97 (lv_at hl 0 rfl) ?_
        obtain ⟨q27, h26, hf⟩ := ob hf
        refine kx_getp 98 C I fl_X0_moveTo_19 h26 dX0_moveTo_98 ?_
        refine kx_iload 101 C dX0_moveTo_101 (lv_at hl 2 rfl) ?_
        obtain ⟨x28, h29, hf⟩ := ob hf
        refine kx_iald 103 C I h29 dX0_moveTo_103 ?_
        refine kx_iconst 104 C dX0_moveTo_104 ?_
        obtain ⟨h30, hf⟩ := ifz hf
        refine kx_irem 105 C dX0_moveTo_105 h30 ?_
        exact kx_iret 106 C I hf dX0_moveTo_106
      · have hf := ifn c25 hf
        refine kx_aload_n 80 C dX0_moveTo_80 (lv_at hl 0 rfl) ?_
        obtain ⟨q32, h31, hf⟩ := ob hf
        refine kx_getp 81 C I fl_X0_moveTo_19 h31 dX0_moveTo_81 ?_
        refine kx_iload 84 C dX0_moveTo_84 (lv_at hl 2 rfl) ?_
        obtain ⟨x33, h34, hf⟩ := ob hf
        refine kx_iald 86 C I h34 dX0_moveTo_86 ?_
        refine kx_iconst 87 C dX0_moveTo_87 ?_
        obtain ⟨h35, hf⟩ := ifz hf
        refine kx_idiv 88 C dX0_moveTo_88 h35 ?_
        obtain ⟨x36, e37, hf⟩ := nmx_e hf
        refine kx_istore 89 C (lv' := [(4, .int (iI x36)), (0, .ref (xB G + p0)), (2, .int (iI i0)), (5, .int (iI i2))]) dX0_moveTo_89 hl (by decide) e37 rfl (fun ls hl => ?_)
        obtain ⟨x38, e39, hf⟩ := nmx_e hf
        refine kx_iinc 91 C (lv' := [(5, .int (iI x38)), (4, .int (iI x36)), (0, .ref (xB G + p0)), (2, .int (iI i0))]) dX0_moveTo_91 hl 3 rfl e39 (by decide) rfl (fun ls hl => ?_)
        refine kx_goto 94 74 C dX0_moveTo_94 (by decide) ?_
        exact ih3 _ _ _ _ _ _ _ _ _ hf I (lv_sub hl [2, 3, 1, 0] rfl)
set_option maxHeartbeats 4000000 in
set_option maxRecDepth 100000 in
theorem c_X0_moveTo (G : xG) (l : Launch) (fu : Nat) (S S' : xS) (p0 : Nat) (i0 : Int) (i1 : Int) (r : Int) (hf : f_X0_moveTo fu S p0 i0 i1 = some (r, S')) : Met l yX0_moveTo vsX0_moveTo rm_X0_moveTo (va_Pc [.ref (xB G + p0), .int (iI i0), .int (iI i1)] (xPre G S)) (xQi G r S') 0 0 (xA G) := by
  refine kx_met (ret := (some .int)) RX0 [(0, .ref (xB G + p0)), (1, .int (iI i0)), (2, .int (iI i1))] (by decide) rfl rfl (Nat.le_of_ble_eq_true rfl) rfl (fun p e s m below meth c ls C hin I hl => ?_)
  exact (w_X0_moveTo C r S' fu).1 S _ _ _ _ _ _ _ _ hf I hl
def rm_X4_setToFirst : Room := { frames := 0, cells := 0, slots := 0, locals := 0 }
theorem nyS_X4_setToFirst : yX4_setToFirst.cls ≠ "java/lang/invoke/MethodHandle" ∧ yX4_setToFirst.cls ≠ "java/lang/invoke/VarHandle" ∧ (parseMethodDescriptor yX4_setToFirst.desc).map (fun d => d.parameters.length) = some 2 := by decide +kernel
set_option maxHeartbeats 4000000 in
set_option maxRecDepth 100000 in
theorem w_X4_setToFirst {G : xG} {p : Program} {l : Launch} {e : Env} {s : State} {m : MethodId} {args : Array Value} {below : List Frame} {meth : Method} {c : Code} (C : xK G p s m args meth c cX4_setToFirst 3 vsX4_setToFirst RX4 none) (r : Int) (S' : xS) : ∀ k : Nat,
  (∀ (S : xS) (p0 : Nat) (i0 i1 : Int) (H : Heap) (locs : List Loc) (ls : Array Slot), g_X4_setToFirst k 0 S p0 i0 i1 = some (r, S') → xI G S s H locs → lv_has ls 3 [(0, .ref (xB G + p0)), (1, .int (iI i0))] → W p l e rm_X4_setToFirst s m args below meth c H locs 0 0 (MQ below (xQv G S') args s 0 0 (xA G)) (F0 m 0 ls [])) ∧
  (∀ (S : xS) (p0 : Nat) (i0 i1 : Int) (H : Heap) (locs : List Loc) (ls : Array Slot), g_X4_setToFirst k 1 S p0 i0 i1 = some (r, S') → xI G S s H locs → lv_has ls 3 [(0, .ref (xB G + p0)), (1, .int (iI i0)), (2, .int (iI i1))] → W p l e rm_X4_setToFirst s m args below meth c H locs 0 0 (MQ below (xQv G S') args s 0 0 (xA G)) (F0 m 2 ls [])) := by
  intro k
  induction k with
  | zero => exact ⟨fun _ _ _ _ _ _ _ hf => (by cases hf), fun _ _ _ _ _ _ _ hf => (by cases hf)⟩
  | succ fu ih =>
    obtain ⟨ih0, ih1⟩ := ih
    refine ⟨?_, ?_⟩
    · intro S p0 i0 i1 H locs ls hf I hl
      replace hf : b_X4_setToFirst_0 (g_X4_setToFirst fu) fu S p0 i0 i1 = some (r, S') := hf
      unfold b_X4_setToFirst_0 at hf
      refine kx_iconst 0 C dX4_setToFirst_0 ?_
      refine kx_istore_n 1 C (lv' := [(2, .int (iI 0)), (0, .ref (xB G + p0)), (1, .int (iI i0))]) dX4_setToFirst_1 hl (by decide) rfl rfl (fun ls hl => ?_)
      exact ih1 _ _ _ _ _ _ _ hf I (lv_sub hl [1, 2, 0] rfl)
    · intro S p0 i0 i1 H locs ls hf I hl
      replace hf : b_X4_setToFirst_1 (g_X4_setToFirst fu) fu S p0 i0 i1 = some (r, S') := hf
      unfold b_X4_setToFirst_1 at hf
      refine kx_iload_n 2 C dX4_setToFirst_2 (lv_at hl 2 rfl) ?_
      refine kx_iload_n 3 C dX4_setToFirst_3 (lv_at hl 1 rfl) ?_
      refine kx_icmp_ge 4 17 C dX4_setToFirst_4 (by decide) (fun c1 => ?_) (fun c1 => ?_)
      · have hf := ifp c1 hf
        exact kx_vret 17 C I hf dX4_setToFirst_17
      · have hf := ifn c1 hf
        refine kx_aload_n 7 C dX4_setToFirst_7 (lv_at hl 0 rfl) ?_
        refine kx_iload_n 8 C dX4_setToFirst_8 (lv_at hl 2 rfl) ?_
        refine kx_iload_n 9 C dX4_setToFirst_9 (lv_at hl 2 rfl) ?_
        obtain ⟨S3, h2, hf⟩ := ob hf
        refine kx_iast 10 C I h2 dX4_setToFirst_10 (fun H locs I => ?_)
        obtain ⟨x4, e5, hf⟩ := nmx_e hf
        refine kx_iinc 11 C (lv' := [(2, .int (iI x4)), (0, .ref (xB G + p0)), (1, .int (iI i0))]) dX4_setToFirst_11 hl 2 rfl e5 (by decide) rfl (fun ls hl => ?_)
        refine kx_goto 14 2 C dX4_setToFirst_14 (by decide) ?_
        exact ih1 _ _ _ _ _ _ _ hf I (lv_sub hl [1, 2, 0] rfl)
set_option maxHeartbeats 4000000 in
set_option maxRecDepth 100000 in
theorem c_X4_setToFirst (G : xG) (l : Launch) (fu : Nat) (S S' : xS) (p0 : Nat) (i0 : Int) (r : Int) (hf : f_X4_setToFirst fu S p0 i0 = some (r, S')) : Met l yX4_setToFirst vsX4_setToFirst rm_X4_setToFirst (va_Pc [.ref (xB G + p0), .int (iI i0)] (xPre G S)) (xQv G S') 0 0 (xA G) := by
  refine kx_met (ret := none) RX4 [(0, .ref (xB G + p0)), (1, .int (iI i0))] (by decide) rfl rfl (Nat.le_of_ble_eq_true rfl) rfl (fun p e s m below meth c ls C hin I hl => ?_)
  exact (w_X4_setToFirst C r S' fu).1 S _ _ _ _ _ _ hf I hl
def rm_X1_setAsAtFirst : Room := { frames := 1, cells := 0, slots := 0, locals := 23 }
theorem hin_X1_setAsAtFirst_RX1 : ∀ w ∈ wsX10, w ∈ vsX1_setAsAtFirst := fun w h => inM (inlX1 w h)
theorem fl_X1_setAsAtFirst_9 : xFl vsX1_setAsAtFirst RX1 9 1 3 := ⟨RX1, TX1, 14, rfl, by decide, hin_X1_setAsAtFirst_RX1, inM mq_2_15, rfl⟩
theorem fl_X1_setAsAtFirst_15 : xFl vsX1_setAsAtFirst RX1 15 1 4 := ⟨RX1, TX1, 14, rfl, by decide, hin_X1_setAsAtFirst_RX1, inM mq_2_16, rfl⟩
theorem fl_X1_setAsAtFirst_18 : xFl vsX1_setAsAtFirst RX1 18 1 5 := ⟨RX1, TX1, 14, rfl, by decide, hin_X1_setAsAtFirst_RX1, inM mq_2_17, rfl⟩
theorem fl_X1_setAsAtFirst_40 : xFl vsX1_setAsAtFirst RX1 40 1 0 := ⟨RX1, TX1, 14, rfl, by decide, hin_X1_setAsAtFirst_RX1, inM mq_3_3, rfl⟩
theorem fl_X1_setAsAtFirst_44 : xFl vsX1_setAsAtFirst RX1 44 1 1 := ⟨RX1, TX1, 14, rfl, by decide, hin_X1_setAsAtFirst_RX1, inM mq_3_4, rfl⟩
theorem fl_X1_setAsAtFirst_47 : xFl vsX1_setAsAtFirst RX1 47 1 2 := ⟨RX1, TX1, 14, rfl, by decide, hin_X1_setAsAtFirst_RX1, inM mq_3_5, rfl⟩
theorem fl_X1_setAsAtFirst_61 : xFl vsX1_setAsAtFirst RX1 61 1 6 := ⟨RX1, TX1, 14, rfl, by decide, hin_X1_setAsAtFirst_RX1, inM mq_3_6, rfl⟩
theorem fl_X1_setAsAtFirst_64 : xFl vsX1_setAsAtFirst RX1 64 1 9 := ⟨RX1, TX1, 14, rfl, by decide, hin_X1_setAsAtFirst_RX1, inM mq_3_7, rfl⟩
theorem fl_X1_setAsAtFirst_67 : xFl vsX1_setAsAtFirst RX1 67 1 11 := ⟨RX1, TX1, 14, rfl, by decide, hin_X1_setAsAtFirst_RX1, inM mq_3_8, rfl⟩
theorem nyS_X1_setAsAtFirst : yX1_setAsAtFirst.cls ≠ "java/lang/invoke/MethodHandle" ∧ yX1_setAsAtFirst.cls ≠ "java/lang/invoke/VarHandle" ∧ (parseMethodDescriptor yX1_setAsAtFirst.desc).map (fun d => d.parameters.length) = some 1 := by decide +kernel
theorem nyV_X1_setAsAtFirst : yX1_setAsAtFirst.cls = RX1 ∧ yX1_setAsAtFirst.cls ≠ "java/lang/invoke/MethodHandle" ∧ yX1_setAsAtFirst.cls ≠ "java/lang/invoke/VarHandle" ∧ (parseMethodDescriptor yX1_setAsAtFirst.desc).map (fun d => d.parameters.length) = some 1 := by decide +kernel
set_option maxHeartbeats 4000000 in
set_option maxRecDepth 100000 in
theorem c_X1_setAsAtFirst (G : xG) (l : Launch) (fu : Nat) (S S' : xS) (p0 : Nat) (i0 : Int) (r : Int) (hf : f_X1_setAsAtFirst fu S p0 i0 = some (r, S')) : Met l yX1_setAsAtFirst vsX1_setAsAtFirst rm_X1_setAsAtFirst (va_Pc [.ref (xB G + p0), .int (iI i0)] (xPre G S)) (xQv G S') 0 0 (xA G) := by
  refine kx_met (ret := none) RX1 [(0, .ref (xB G + p0)), (1, .int (iI i0))] (by decide) rfl rfl (Nat.le_of_ble_eq_true rfl) rfl (fun p e s m below meth c ls C hin I hl => ?_)
  unfold f_X1_setAsAtFirst at hf
  refine kx_aload_n 0 C dX1_setAsAtFirst_0 (lv_at hl 0 rfl) ?_
  refine kx_iload_n 1 C dX1_setAsAtFirst_1 (lv_at hl 1 rfl) ?_
  obtain ⟨S2, h1, hf⟩ := ob hf
  refine kx_puti 2 C I fl_X1_setAsAtFirst_40 fw_RX1_0 h1 dX1_setAsAtFirst_2 (fun H locs I => ?_)
  refine kx_aload_n 5 C dX1_setAsAtFirst_5 (lv_at hl 0 rfl) ?_
  refine kx_iconst 6 C dX1_setAsAtFirst_6 ?_
  obtain ⟨S4, h3, hf⟩ := ob hf
  refine kx_puti 7 C I fl_X1_setAsAtFirst_44 fw_RX1_1 h3 dX1_setAsAtFirst_7 (fun H locs I => ?_)
  refine kx_aload_n 10 C dX1_setAsAtFirst_10 (lv_at hl 0 rfl) ?_
  refine kx_iconst 11 C dX1_setAsAtFirst_11 ?_
  obtain ⟨S6, h5, hf⟩ := ob hf
  refine kx_puti 12 C I fl_X1_setAsAtFirst_47 fw_RX1_2 h5 dX1_setAsAtFirst_12 (fun H locs I => ?_)
  refine kx_aload_n 15 C dX1_setAsAtFirst_15 (lv_at hl 0 rfl) ?_
  obtain ⟨q8, h7, hf⟩ := ob hf
  refine kx_getp 16 C I fl_X1_setAsAtFirst_9 h7 dX1_setAsAtFirst_16 ?_
  refine kx_iload_n 19 C dX1_setAsAtFirst_19 (lv_at hl 1 rfl) ?_
  obtain ⟨z11, S9, h10, hf⟩ := ob2 hf
  refine kx_callSv 20 C hl I (As := [.ref (xB G + q8), .int (iI i0)]) (rest := []) (c_X4_setToFirst G l fu _ _ _ _ _ h10) (va_cwS 2 C.ts gX1_setAsAtFirst_X4_setToFirst rfl rfl rfl nyS_X4_setToFirst ⟨Nat.le_of_ble_eq_true rfl, Nat.le_of_ble_eq_true rfl⟩) rfl rfl (Nat.le_of_ble_eq_true rfl) dX1_setAsAtFirst_20 ⟨Nat.le_of_ble_eq_true rfl, Nat.le_of_ble_eq_true rfl⟩ (fun H locs I => ?_)
  refine kx_aload_n 23 C dX1_setAsAtFirst_23 (lv_at hl 0 rfl) ?_
  obtain ⟨q13, h12, hf⟩ := ob hf
  refine kx_getp 24 C I fl_X1_setAsAtFirst_15 h12 dX1_setAsAtFirst_24 ?_
  refine kx_iconst 27 C dX1_setAsAtFirst_27 ?_
  obtain ⟨z16, S14, h15, hf⟩ := ob2 hf
  refine kx_callSv 28 C hl I (As := [.ref (xB G + q13), .int (iI ((-1)))]) (rest := []) (c_J7_fill_53178 G l fu _ _ _ _ _ h15) (va_cwS 2 C.ts gX1_setAsAtFirst_J7_fill_53178 rfl rfl rfl nyS_J7_fill_53178 ⟨Nat.le_of_ble_eq_true rfl, Nat.le_of_ble_eq_true rfl⟩) rfl rfl (Nat.le_of_ble_eq_true rfl) dX1_setAsAtFirst_28 ⟨Nat.le_of_ble_eq_true rfl, Nat.le_of_ble_eq_true rfl⟩ (fun H locs I => ?_)
  refine kx_aload_n 31 C dX1_setAsAtFirst_31 (lv_at hl 0 rfl) ?_
  obtain ⟨q18, h17, hf⟩ := ob hf
  refine kx_getp 32 C I fl_X1_setAsAtFirst_18 h17 dX1_setAsAtFirst_32 ?_
  refine kx_iconst 35 C dX1_setAsAtFirst_35 ?_
  obtain ⟨z21, S19, h20, hf⟩ := ob2 hf
  refine kx_callSv 36 C hl I (As := [.ref (xB G + q18), .int (iI 0)]) (rest := []) (c_J7_fill_53178 G l fu _ _ _ _ _ h20) (va_cwS 2 C.ts gX1_setAsAtFirst_J7_fill_53178 rfl rfl rfl nyS_J7_fill_53178 ⟨Nat.le_of_ble_eq_true rfl, Nat.le_of_ble_eq_true rfl⟩) rfl rfl (Nat.le_of_ble_eq_true rfl) dX1_setAsAtFirst_36 ⟨Nat.le_of_ble_eq_true rfl, Nat.le_of_ble_eq_true rfl⟩ (fun H locs I => ?_)
  refine kx_aload_n 39 C dX1_setAsAtFirst_39 (lv_at hl 0 rfl) ?_
  refine kx_iconst 40 C dX1_setAsAtFirst_40 ?_
  obtain ⟨S23, h22, hf⟩ := ob hf
  refine kx_puti 41 C I fl_X1_setAsAtFirst_61 fw_RX1_6 h22 dX1_setAsAtFirst_41 (fun H locs I => ?_)
  refine kx_aload_n 44 C dX1_setAsAtFirst_44 (lv_at hl 0 rfl) ?_
  refine kx_iconst 45 C dX1_setAsAtFirst_45 ?_
  obtain ⟨S25, h24, hf⟩ := ob hf
  refine kx_puti 46 C I fl_X1_setAsAtFirst_64 fw_RX1_9 h24 dX1_setAsAtFirst_46 (fun H locs I => ?_)
  refine kx_aload_n 49 C dX1_setAsAtFirst_49 (lv_at hl 0 rfl) ?_
  refine kx_iconst 50 C dX1_setAsAtFirst_50 ?_
  obtain ⟨S27, h26, hf⟩ := ob hf
  refine kx_puti 51 C I fl_X1_setAsAtFirst_67 fw_RX1_11 h26 dX1_setAsAtFirst_51 (fun H locs I => ?_)
  exact kx_vret 54 C I hf dX1_setAsAtFirst_54
def rm_X1_init : Room := { frames := 2, cells := 8, slots := 58, locals := 44 }
theorem hin_X1_init_RX1 : ∀ w ∈ wsX10, w ∈ vsX1_init := fun w h => inM (inlX1 w h)
theorem fl_X1_init_9 : xFl vsX1_init RX1 9 1 3 := ⟨RX1, TX1, 14, rfl, by decide, hin_X1_init_RX1, inM mq_2_15, rfl⟩
theorem fl_X1_init_15 : xFl vsX1_init RX1 15 1 4 := ⟨RX1, TX1, 14, rfl, by decide, hin_X1_init_RX1, inM mq_2_16, rfl⟩
theorem fl_X1_init_18 : xFl vsX1_init RX1 18 1 5 := ⟨RX1, TX1, 14, rfl, by decide, hin_X1_init_RX1, inM mq_2_17, rfl⟩
theorem fl_X1_init_21 : xFl vsX1_init RX1 21 1 7 := ⟨RX1, TX1, 14, rfl, by decide, hin_X1_init_RX1, inM mq_2_18, rfl⟩
theorem fl_X1_init_24 : xFl vsX1_init RX1 24 1 8 := ⟨RX1, TX1, 14, rfl, by decide, hin_X1_init_RX1, inM mq_2_19, rfl⟩
theorem fl_X1_init_27 : xFl vsX1_init RX1 27 1 10 := ⟨RX1, TX1, 14, rfl, by decide, hin_X1_init_RX1, inM mq_2_20, rfl⟩
theorem fl_X1_init_30 : xFl vsX1_init RX1 30 1 12 := ⟨RX1, TX1, 14, rfl, by decide, hin_X1_init_RX1, inM mq_2_21, rfl⟩
theorem fl_X1_init_33 : xFl vsX1_init RX1 33 1 13 := ⟨RX1, TX1, 14, rfl, by decide, hin_X1_init_RX1, inM mq_2_22, rfl⟩
theorem mw_X1_init_0 : Cond.methodLink RX1 3 objectInit ∈ vsX1_init := inM mq_2_14
theorem mw_X1_init_1 : Cond.instanceMethod objectInit ∈ vsX1_init := inM mq_1_10
theorem mw_X1_init_2 : Cond.code objectInit ⟨#[0xb1]⟩ 1 none ∈ vsX1_init := inM mq_1_11
theorem mw_X1_init_3 : Cond.arrayClass .int ∈ vsX1_init := inM mq_2_2
theorem nyS_X1_init : yX1_init.cls ≠ "java/lang/invoke/MethodHandle" ∧ yX1_init.cls ≠ "java/lang/invoke/VarHandle" ∧ (parseMethodDescriptor yX1_init.desc).map (fun d => d.parameters.length) = some 0 := by decide +kernel
set_option maxHeartbeats 4000000 in
set_option maxRecDepth 100000 in
theorem c_X1_init (G : xG) (l : Launch) (fu : Nat) (S S' : xS) (p0 : Nat) (r : Int) (hf : f_X1_init fu S p0 = some (r, S')) : Met l yX1_init vsX1_init rm_X1_init (va_Pc [.ref (xB G + p0)] (xPre G S)) (xQv G S') 8 58 (xA G) := by
  refine kx_met (ret := none) RX1 [(0, .ref (xB G + p0))] (by decide) rfl rfl (Nat.le_of_ble_eq_true rfl) rfl (fun p e s m below meth c ls C hin I hl => ?_)
  have hin := hin rfl
  unfold f_X1_init at hf
  refine kx_aload_n 0 C dX1_init_0 (lv_at hl 0 rfl) ?_
  refine kx_objInit 1 C hl mw_X1_init_0 mw_X1_init_1 mw_X1_init_2 ⟨Nat.le_of_ble_eq_true rfl, Nat.le_of_ble_eq_true rfl⟩ dX1_init_1 ?_
  refine kx_aload_n 4 C dX1_init_4 (lv_at hl 0 rfl) ?_
  refine kx_bipush 5 C dX1_init_5 (by decide) ?_
  obtain ⟨S1, eS1, hf⟩ := nmx_e hf
  refine kx_newa 7 C I (ty := .int) 0 7 rfl rfl rfl (fun _ _ h => h) mw_X1_init_3 rfl (Nat.le_of_ble_eq_true rfl) (by decide) ⟨Nat.le_of_ble_eq_true rfl, Nat.le_of_ble_eq_true rfl⟩ dX1_init_7 (fun H I => ?_)
  rw [← eS1] at I
  obtain ⟨S3, h2, hf⟩ := ob hf
  refine kx_putFp 9 C I fl_X1_init_9 fw_RX1_3 hin rfl (fun _ => ⟨rfl, rfl⟩) h2 dX1_init_9 (fun H locs I => ?_)
  refine kx_aload_n 12 C dX1_init_12 (lv_at hl 0 rfl) ?_
  refine kx_bipush 13 C dX1_init_13 (by decide) ?_
  obtain ⟨S4, eS4, hf⟩ := nmx_e hf
  refine kx_newa 15 C I (ty := .int) 0 7 rfl rfl rfl (fun _ _ h => h) mw_X1_init_3 rfl (Nat.le_of_ble_eq_true rfl) (by decide) ⟨Nat.le_of_ble_eq_true rfl, Nat.le_of_ble_eq_true rfl⟩ dX1_init_15 (fun H I => ?_)
  rw [← eS4] at I
  obtain ⟨S6, h5, hf⟩ := ob hf
  refine kx_putFp 17 C I fl_X1_init_15 fw_RX1_4 hin rfl (fun _ => ⟨rfl, rfl⟩) h5 dX1_init_17 (fun H locs I => ?_)
  refine kx_aload_n 20 C dX1_init_20 (lv_at hl 0 rfl) ?_
  refine kx_bipush 21 C dX1_init_21 (by decide) ?_
  obtain ⟨S7, eS7, hf⟩ := nmx_e hf
  refine kx_newa 23 C I (ty := .int) 0 7 rfl rfl rfl (fun _ _ h => h) mw_X1_init_3 rfl (Nat.le_of_ble_eq_true rfl) (by decide) ⟨Nat.le_of_ble_eq_true rfl, Nat.le_of_ble_eq_true rfl⟩ dX1_init_23 (fun H I => ?_)
  rw [← eS7] at I
  obtain ⟨S9, h8, hf⟩ := ob hf
  refine kx_putFp 25 C I fl_X1_init_18 fw_RX1_5 hin rfl (fun _ => ⟨rfl, rfl⟩) h8 dX1_init_25 (fun H locs I => ?_)
  refine kx_aload_n 28 C dX1_init_28 (lv_at hl 0 rfl) ?_
  refine kx_bipush 29 C dX1_init_29 (by decide) ?_
  obtain ⟨S10, eS10, hf⟩ := nmx_e hf
  refine kx_newa 31 C I (ty := .int) 0 8 rfl rfl rfl (fun _ _ h => h) mw_X1_init_3 rfl (Nat.le_of_ble_eq_true rfl) (by decide) ⟨Nat.le_of_ble_eq_true rfl, Nat.le_of_ble_eq_true rfl⟩ dX1_init_31 (fun H I => ?_)
  rw [← eS10] at I
  obtain ⟨S12, h11, hf⟩ := ob hf
  refine kx_putFp 33 C I fl_X1_init_21 fw_RX1_7 hin rfl (fun _ => ⟨rfl, rfl⟩) h11 dX1_init_33 (fun H locs I => ?_)
  refine kx_aload_n 36 C dX1_init_36 (lv_at hl 0 rfl) ?_
  refine kx_bipush 37 C dX1_init_37 (by decide) ?_
  obtain ⟨S13, eS13, hf⟩ := nmx_e hf
  refine kx_newa 39 C I (ty := .int) 0 8 rfl rfl rfl (fun _ _ h => h) mw_X1_init_3 rfl (Nat.le_of_ble_eq_true rfl) (by decide) ⟨Nat.le_of_ble_eq_true rfl, Nat.le_of_ble_eq_true rfl⟩ dX1_init_39 (fun H I => ?_)
  rw [← eS13] at I
  obtain ⟨S15, h14, hf⟩ := ob hf
  refine kx_putFp 41 C I fl_X1_init_24 fw_RX1_8 hin rfl (fun _ => ⟨rfl, rfl⟩) h14 dX1_init_41 (fun H locs I => ?_)
  refine kx_aload_n 44 C dX1_init_44 (lv_at hl 0 rfl) ?_
  refine kx_iconst 45 C dX1_init_45 ?_
  obtain ⟨S16, eS16, hf⟩ := nmx_e hf
  refine kx_newa 46 C I (ty := .int) 0 4 rfl rfl rfl (fun _ _ h => h) mw_X1_init_3 rfl (Nat.le_of_ble_eq_true rfl) (by decide) ⟨Nat.le_of_ble_eq_true rfl, Nat.le_of_ble_eq_true rfl⟩ dX1_init_46 (fun H I => ?_)
  rw [← eS16] at I
  obtain ⟨S18, h17, hf⟩ := ob hf
  refine kx_putFp 48 C I fl_X1_init_27 fw_RX1_10 hin rfl (fun _ => ⟨rfl, rfl⟩) h17 dX1_init_48 (fun H locs I => ?_)
  refine kx_aload_n 51 C dX1_init_51 (lv_at hl 0 rfl) ?_
  refine kx_bipush 52 C dX1_init_52 (by decide) ?_
  obtain ⟨S19, eS19, hf⟩ := nmx_e hf
  refine kx_newa 54 C I (ty := .int) 0 10 rfl rfl rfl (fun _ _ h => h) mw_X1_init_3 rfl (Nat.le_of_ble_eq_true rfl) (by decide) ⟨Nat.le_of_ble_eq_true rfl, Nat.le_of_ble_eq_true rfl⟩ dX1_init_54 (fun H I => ?_)
  rw [← eS19] at I
  obtain ⟨S21, h20, hf⟩ := ob hf
  refine kx_putFp 56 C I fl_X1_init_30 fw_RX1_12 hin rfl (fun _ => ⟨rfl, rfl⟩) h20 dX1_init_56 (fun H locs I => ?_)
  refine kx_aload_n 59 C dX1_init_59 (lv_at hl 0 rfl) ?_
  refine kx_bipush 60 C dX1_init_60 (by decide) ?_
  obtain ⟨S22, eS22, hf⟩ := nmx_e hf
  refine kx_newa 62 C I (ty := .int) 0 7 rfl rfl rfl (fun _ _ h => h) mw_X1_init_3 rfl (Nat.le_of_ble_eq_true rfl) (by decide) ⟨Nat.le_of_ble_eq_true rfl, Nat.le_of_ble_eq_true rfl⟩ dX1_init_62 (fun H I => ?_)
  rw [← eS22] at I
  obtain ⟨S24, h23, hf⟩ := ob hf
  refine kx_putFp 64 C I fl_X1_init_33 fw_RX1_13 hin rfl (fun _ => ⟨rfl, rfl⟩) h23 dX1_init_64 (fun H locs I => ?_)
  refine kx_aload_n 67 C dX1_init_67 (lv_at hl 0 rfl) ?_
  refine kx_iconst 68 C dX1_init_68 ?_
  obtain ⟨h28, hf⟩ := ift hf
  obtain ⟨z27, S25, h26, hf⟩ := ob2 hf
  refine kx_callVv 69 C hl I (ci := 1) (As := [.int (iI 5)]) (rest := []) (c_X1_setAsAtFirst G l fu _ _ _ _ _ h26) (cwV 1 C.ts gX1_init_X1_setAsAtFirst rfl rfl rfl nyV_X1_setAsAtFirst ⟨Nat.le_of_ble_eq_true rfl, Nat.le_of_ble_eq_true rfl⟩) rfl h28 rfl rfl (Nat.le_of_ble_eq_true rfl) dX1_init_69 ⟨Nat.le_of_ble_eq_true rfl, Nat.le_of_ble_eq_true rfl⟩ (fun H locs I => ?_)
  exact kx_vret 72 C I hf dX1_init_72
def rm_X1_copyOf : Room := { frames := 1, cells := 0, slots := 0, locals := 26 }
theorem hin_X1_copyOf_RX1 : ∀ w ∈ wsX10, w ∈ vsX1_copyOf := fun w h => inM (inlX1 w h)
theorem fl_X1_copyOf_9 : xFl vsX1_copyOf RX1 9 1 3 := ⟨RX1, TX1, 14, rfl, by decide, hin_X1_copyOf_RX1, inM mq_2_15, rfl⟩
theorem fl_X1_copyOf_15 : xFl vsX1_copyOf RX1 15 1 4 := ⟨RX1, TX1, 14, rfl, by decide, hin_X1_copyOf_RX1, inM mq_2_16, rfl⟩
theorem fl_X1_copyOf_18 : xFl vsX1_copyOf RX1 18 1 5 := ⟨RX1, TX1, 14, rfl, by decide, hin_X1_copyOf_RX1, inM mq_2_17, rfl⟩
theorem fl_X1_copyOf_21 : xFl vsX1_copyOf RX1 21 1 7 := ⟨RX1, TX1, 14, rfl, by decide, hin_X1_copyOf_RX1, inM mq_2_18, rfl⟩
theorem fl_X1_copyOf_24 : xFl vsX1_copyOf RX1 24 1 8 := ⟨RX1, TX1, 14, rfl, by decide, hin_X1_copyOf_RX1, inM mq_2_19, rfl⟩
theorem fl_X1_copyOf_27 : xFl vsX1_copyOf RX1 27 1 10 := ⟨RX1, TX1, 14, rfl, by decide, hin_X1_copyOf_RX1, inM mq_2_20, rfl⟩
theorem fl_X1_copyOf_30 : xFl vsX1_copyOf RX1 30 1 12 := ⟨RX1, TX1, 14, rfl, by decide, hin_X1_copyOf_RX1, inM mq_2_21, rfl⟩
theorem fl_X1_copyOf_40 : xFl vsX1_copyOf RX1 40 1 0 := ⟨RX1, TX1, 14, rfl, by decide, hin_X1_copyOf_RX1, inM mq_3_3, rfl⟩
theorem fl_X1_copyOf_44 : xFl vsX1_copyOf RX1 44 1 1 := ⟨RX1, TX1, 14, rfl, by decide, hin_X1_copyOf_RX1, inM mq_3_4, rfl⟩
theorem fl_X1_copyOf_47 : xFl vsX1_copyOf RX1 47 1 2 := ⟨RX1, TX1, 14, rfl, by decide, hin_X1_copyOf_RX1, inM mq_3_5, rfl⟩
theorem fl_X1_copyOf_61 : xFl vsX1_copyOf RX1 61 1 6 := ⟨RX1, TX1, 14, rfl, by decide, hin_X1_copyOf_RX1, inM mq_3_6, rfl⟩
theorem fl_X1_copyOf_64 : xFl vsX1_copyOf RX1 64 1 9 := ⟨RX1, TX1, 14, rfl, by decide, hin_X1_copyOf_RX1, inM mq_3_7, rfl⟩
theorem fl_X1_copyOf_67 : xFl vsX1_copyOf RX1 67 1 11 := ⟨RX1, TX1, 14, rfl, by decide, hin_X1_copyOf_RX1, inM mq_3_8, rfl⟩
theorem mw_X1_copyOf_0 : Cond.methodLink RX1 70 arraycopyName ∈ vsX1_copyOf := inM mq_8_12
theorem mw_X1_copyOf_1 : Cond.native arraycopyName ∈ vsX1_copyOf := inM mq_8_13
theorem mw_X1_copyOf_2 : Cond.static arraycopyName ∈ vsX1_copyOf := inM mq_8_14
theorem mw_X1_copyOf_3 : Cond.initialized "java/lang/System" ∈ vsX1_copyOf := inM mq_8_15
theorem nyS_X1_copyOf : yX1_copyOf.cls ≠ "java/lang/invoke/MethodHandle" ∧ yX1_copyOf.cls ≠ "java/lang/invoke/VarHandle" ∧ (parseMethodDescriptor yX1_copyOf.desc).map (fun d => d.parameters.length) = some 1 := by decide +kernel
theorem nyV_X1_copyOf : yX1_copyOf.cls = RX1 ∧ yX1_copyOf.cls ≠ "java/lang/invoke/MethodHandle" ∧ yX1_copyOf.cls ≠ "java/lang/invoke/VarHandle" ∧ (parseMethodDescriptor yX1_copyOf.desc).map (fun d => d.parameters.length) = some 1 := by decide +kernel
set_option maxHeartbeats 4000000 in
set_option maxRecDepth 100000 in
theorem c_X1_copyOf (G : xG) (l : Launch) (fu : Nat) (S S' : xS) (p0 : Nat) (p1 : Nat) (r : Int) (hf : f_X1_copyOf fu S p0 p1 = some (r, S')) : Met l yX1_copyOf vsX1_copyOf rm_X1_copyOf (va_Pc [.ref (xB G + p0), .ref (xB G + p1)] (xPre G S)) (xQv G S') 0 0 (xA G) := by
  refine kx_met (ret := none) RX1 [(0, .ref (xB G + p0)), (1, .ref (xB G + p1))] (by decide) rfl rfl (Nat.le_of_ble_eq_true rfl) rfl (fun p e s m below meth c ls C hin I hl => ?_)
  unfold f_X1_copyOf at hf
  refine kx_aload_n 0 C dX1_copyOf_0 (lv_at hl 0 rfl) ?_
  refine kx_aload_n 1 C dX1_copyOf_1 (lv_at hl 1 rfl) ?_
  obtain ⟨x2, h1, hf⟩ := ob hf
  refine kx_geti 2 C I fl_X1_copyOf_40 h1 dX1_copyOf_2 ?_
  obtain ⟨S4, h3, hf⟩ := ob hf
  refine kx_puti 5 C I fl_X1_copyOf_40 fw_RX1_0 h3 dX1_copyOf_5 (fun H locs I => ?_)
  refine kx_aload_n 8 C dX1_copyOf_8 (lv_at hl 0 rfl) ?_
  refine kx_aload_n 9 C dX1_copyOf_9 (lv_at hl 1 rfl) ?_
  obtain ⟨x6, h5, hf⟩ := ob hf
  refine kx_geti 10 C I fl_X1_copyOf_44 h5 dX1_copyOf_10 ?_
  obtain ⟨S8, h7, hf⟩ := ob hf
  refine kx_puti 13 C I fl_X1_copyOf_44 fw_RX1_1 h7 dX1_copyOf_13 (fun H locs I => ?_)
  refine kx_aload_n 16 C dX1_copyOf_16 (lv_at hl 0 rfl) ?_
  refine kx_aload_n 17 C dX1_copyOf_17 (lv_at hl 1 rfl) ?_
  obtain ⟨x10, h9, hf⟩ := ob hf
  refine kx_geti 18 C I fl_X1_copyOf_47 h9 dX1_copyOf_18 ?_
  obtain ⟨S12, h11, hf⟩ := ob hf
  refine kx_puti 21 C I fl_X1_copyOf_47 fw_RX1_2 h11 dX1_copyOf_21 (fun H locs I => ?_)
  refine kx_aload_n 24 C dX1_copyOf_24 (lv_at hl 1 rfl) ?_
  obtain ⟨q14, h13, hf⟩ := ob hf
  refine kx_getp 25 C I fl_X1_copyOf_9 h13 dX1_copyOf_25 ?_
  refine kx_iconst 28 C dX1_copyOf_28 ?_
  refine kx_aload_n 29 C dX1_copyOf_29 (lv_at hl 0 rfl) ?_
  obtain ⟨q16, h15, hf⟩ := ob hf
  refine kx_getp 30 C I fl_X1_copyOf_9 h15 dX1_copyOf_30 ?_
  refine kx_iconst 33 C dX1_copyOf_33 ?_
  refine kx_bipush 34 C dX1_copyOf_34 (by decide) ?_
  obtain ⟨S18, h17, hf⟩ := ob hf
  refine kx_cpy 36 C hl I mw_X1_copyOf_0 mw_X1_copyOf_1 mw_X1_copyOf_2 mw_X1_copyOf_3 h17 ⟨Nat.le_of_ble_eq_true rfl, Nat.le_of_ble_eq_true rfl⟩ dX1_copyOf_36 (fun H locs I => ?_)
  refine kx_aload_n 39 C dX1_copyOf_39 (lv_at hl 1 rfl) ?_
  obtain ⟨q20, h19, hf⟩ := ob hf
  refine kx_getp 40 C I fl_X1_copyOf_15 h19 dX1_copyOf_40 ?_
  refine kx_iconst 43 C dX1_copyOf_43 ?_
  refine kx_aload_n 44 C dX1_copyOf_44 (lv_at hl 0 rfl) ?_
  obtain ⟨q22, h21, hf⟩ := ob hf
  refine kx_getp 45 C I fl_X1_copyOf_15 h21 dX1_copyOf_45 ?_
  refine kx_iconst 48 C dX1_copyOf_48 ?_
  refine kx_bipush 49 C dX1_copyOf_49 (by decide) ?_
  obtain ⟨S24, h23, hf⟩ := ob hf
  refine kx_cpy 51 C hl I mw_X1_copyOf_0 mw_X1_copyOf_1 mw_X1_copyOf_2 mw_X1_copyOf_3 h23 ⟨Nat.le_of_ble_eq_true rfl, Nat.le_of_ble_eq_true rfl⟩ dX1_copyOf_51 (fun H locs I => ?_)
  refine kx_aload_n 54 C dX1_copyOf_54 (lv_at hl 1 rfl) ?_
  obtain ⟨q26, h25, hf⟩ := ob hf
  refine kx_getp 55 C I fl_X1_copyOf_18 h25 dX1_copyOf_55 ?_
  refine kx_iconst 58 C dX1_copyOf_58 ?_
  refine kx_aload_n 59 C dX1_copyOf_59 (lv_at hl 0 rfl) ?_
  obtain ⟨q28, h27, hf⟩ := ob hf
  refine kx_getp 60 C I fl_X1_copyOf_18 h27 dX1_copyOf_60 ?_
  refine kx_iconst 63 C dX1_copyOf_63 ?_
  refine kx_bipush 64 C dX1_copyOf_64 (by decide) ?_
  obtain ⟨S30, h29, hf⟩ := ob hf
  refine kx_cpy 66 C hl I mw_X1_copyOf_0 mw_X1_copyOf_1 mw_X1_copyOf_2 mw_X1_copyOf_3 h29 ⟨Nat.le_of_ble_eq_true rfl, Nat.le_of_ble_eq_true rfl⟩ dX1_copyOf_66 (fun H locs I => ?_)
  refine kx_aload_n 69 C dX1_copyOf_69 (lv_at hl 0 rfl) ?_
  refine kx_aload_n 70 C dX1_copyOf_70 (lv_at hl 1 rfl) ?_
  obtain ⟨x32, h31, hf⟩ := ob hf
  refine kx_geti 71 C I fl_X1_copyOf_61 h31 dX1_copyOf_71 ?_
  obtain ⟨S34, h33, hf⟩ := ob hf
  refine kx_puti 74 C I fl_X1_copyOf_61 fw_RX1_6 h33 dX1_copyOf_74 (fun H locs I => ?_)
  refine kx_aload_n 77 C dX1_copyOf_77 (lv_at hl 1 rfl) ?_
  obtain ⟨q36, h35, hf⟩ := ob hf
  refine kx_getp 78 C I fl_X1_copyOf_21 h35 dX1_copyOf_78 ?_
  refine kx_iconst 81 C dX1_copyOf_81 ?_
  refine kx_aload_n 82 C dX1_copyOf_82 (lv_at hl 0 rfl) ?_
  obtain ⟨q38, h37, hf⟩ := ob hf
  refine kx_getp 83 C I fl_X1_copyOf_21 h37 dX1_copyOf_83 ?_
  refine kx_iconst 86 C dX1_copyOf_86 ?_
  refine kx_bipush 87 C dX1_copyOf_87 (by decide) ?_
  obtain ⟨S40, h39, hf⟩ := ob hf
  refine kx_cpy 89 C hl I mw_X1_copyOf_0 mw_X1_copyOf_1 mw_X1_copyOf_2 mw_X1_copyOf_3 h39 ⟨Nat.le_of_ble_eq_true rfl, Nat.le_of_ble_eq_true rfl⟩ dX1_copyOf_89 (fun H locs I => ?_)
  refine kx_aload_n 92 C dX1_copyOf_92 (lv_at hl 1 rfl) ?_
  obtain ⟨q42, h41, hf⟩ := ob hf
  refine kx_getp 93 C I fl_X1_copyOf_24 h41 dX1_copyOf_93 ?_
  refine kx_iconst 96 C dX1_copyOf_96 ?_
  refine kx_aload_n 97 C dX1_copyOf_97 (lv_at hl 0 rfl) ?_
  obtain ⟨q44, h43, hf⟩ := ob hf
  refine kx_getp 98 C I fl_X1_copyOf_24 h43 dX1_copyOf_98 ?_
  refine kx_iconst 101 C dX1_copyOf_101 ?_
  refine kx_bipush 102 C dX1_copyOf_102 (by decide) ?_
  obtain ⟨S46, h45, hf⟩ := ob hf
  refine kx_cpy 104 C hl I mw_X1_copyOf_0 mw_X1_copyOf_1 mw_X1_copyOf_2 mw_X1_copyOf_3 h45 ⟨Nat.le_of_ble_eq_true rfl, Nat.le_of_ble_eq_true rfl⟩ dX1_copyOf_104 (fun H locs I => ?_)
  refine kx_aload_n 107 C dX1_copyOf_107 (lv_at hl 0 rfl) ?_
  refine kx_aload_n 108 C dX1_copyOf_108 (lv_at hl 1 rfl) ?_
  obtain ⟨x48, h47, hf⟩ := ob hf
  refine kx_geti 109 C I fl_X1_copyOf_64 h47 dX1_copyOf_109 ?_
  obtain ⟨S50, h49, hf⟩ := ob hf
  refine kx_puti 112 C I fl_X1_copyOf_64 fw_RX1_9 h49 dX1_copyOf_112 (fun H locs I => ?_)
  refine kx_aload_n 115 C dX1_copyOf_115 (lv_at hl 1 rfl) ?_
  obtain ⟨q52, h51, hf⟩ := ob hf
  refine kx_getp 116 C I fl_X1_copyOf_27 h51 dX1_copyOf_116 ?_
  refine kx_iconst 119 C dX1_copyOf_119 ?_
  refine kx_aload_n 120 C dX1_copyOf_120 (lv_at hl 0 rfl) ?_
  obtain ⟨q54, h53, hf⟩ := ob hf
  refine kx_getp 121 C I fl_X1_copyOf_27 h53 dX1_copyOf_121 ?_
  refine kx_iconst 124 C dX1_copyOf_124 ?_
  refine kx_iconst 125 C dX1_copyOf_125 ?_
  obtain ⟨S56, h55, hf⟩ := ob hf
  refine kx_cpy 126 C hl I mw_X1_copyOf_0 mw_X1_copyOf_1 mw_X1_copyOf_2 mw_X1_copyOf_3 h55 ⟨Nat.le_of_ble_eq_true rfl, Nat.le_of_ble_eq_true rfl⟩ dX1_copyOf_126 (fun H locs I => ?_)
  refine kx_aload_n 129 C dX1_copyOf_129 (lv_at hl 0 rfl) ?_
  refine kx_aload_n 130 C dX1_copyOf_130 (lv_at hl 1 rfl) ?_
  obtain ⟨x58, h57, hf⟩ := ob hf
  refine kx_geti 131 C I fl_X1_copyOf_67 h57 dX1_copyOf_131 ?_
  obtain ⟨S60, h59, hf⟩ := ob hf
  refine kx_puti 134 C I fl_X1_copyOf_67 fw_RX1_11 h59 dX1_copyOf_134 (fun H locs I => ?_)
  refine kx_aload_n 137 C dX1_copyOf_137 (lv_at hl 1 rfl) ?_
  obtain ⟨q62, h61, hf⟩ := ob hf
  refine kx_getp 138 C I fl_X1_copyOf_30 h61 dX1_copyOf_138 ?_
  refine kx_iconst 141 C dX1_copyOf_141 ?_
  refine kx_aload_n 142 C dX1_copyOf_142 (lv_at hl 0 rfl) ?_
  obtain ⟨q64, h63, hf⟩ := ob hf
  refine kx_getp 143 C I fl_X1_copyOf_30 h63 dX1_copyOf_143 ?_
  refine kx_iconst 146 C dX1_copyOf_146 ?_
  refine kx_bipush 147 C dX1_copyOf_147 (by decide) ?_
  obtain ⟨S66, h65, hf⟩ := ob hf
  refine kx_cpy 149 C hl I mw_X1_copyOf_0 mw_X1_copyOf_1 mw_X1_copyOf_2 mw_X1_copyOf_3 h65 ⟨Nat.le_of_ble_eq_true rfl, Nat.le_of_ble_eq_true rfl⟩ dX1_copyOf_149 (fun H locs I => ?_)
  exact kx_vret 152 C I hf dX1_copyOf_152
def rm_X1_keepPast : Room := { frames := 3, cells := 0, slots := 0, locals := 65 }
theorem hin_X1_keepPast_RX1 : ∀ w ∈ wsX10, w ∈ vsX1_keepPast := fun w h => inM (inlX1 w h)
theorem fl_X1_keepPast_30 : xFl vsX1_keepPast RX1 30 1 12 := ⟨RX1, TX1, 14, rfl, by decide, hin_X1_keepPast_RX1, inM mq_2_21, rfl⟩
theorem fl_X1_keepPast_67 : xFl vsX1_keepPast RX1 67 1 11 := ⟨RX1, TX1, 14, rfl, by decide, hin_X1_keepPast_RX1, inM mq_3_8, rfl⟩
theorem mw_X1_keepPast_0 : Cond.methodLink RX1 70 arraycopyName ∈ vsX1_keepPast := inM mq_8_12
theorem mw_X1_keepPast_1 : Cond.native arraycopyName ∈ vsX1_keepPast := inM mq_8_13
theorem mw_X1_keepPast_2 : Cond.static arraycopyName ∈ vsX1_keepPast := inM mq_8_14
theorem mw_X1_keepPast_3 : Cond.initialized "java/lang/System" ∈ vsX1_keepPast := inM mq_8_15
theorem nyS_X1_keepPast : yX1_keepPast.cls ≠ "java/lang/invoke/MethodHandle" ∧ yX1_keepPast.cls ≠ "java/lang/invoke/VarHandle" ∧ (parseMethodDescriptor yX1_keepPast.desc).map (fun d => d.parameters.length) = some 0 := by decide +kernel
theorem nyV_X1_keepPast : yX1_keepPast.cls = RX1 ∧ yX1_keepPast.cls ≠ "java/lang/invoke/MethodHandle" ∧ yX1_keepPast.cls ≠ "java/lang/invoke/VarHandle" ∧ (parseMethodDescriptor yX1_keepPast.desc).map (fun d => d.parameters.length) = some 0 := by decide +kernel
set_option maxHeartbeats 4000000 in
set_option maxRecDepth 100000 in
theorem w_X1_keepPast {G : xG} {p : Program} {l : Launch} {e : Env} {s : State} {m : MethodId} {args : Array Value} {below : List Frame} {meth : Method} {c : Code} (C : xK G p s m args meth c cX1_keepPast 1 vsX1_keepPast RX1 none) (r : Int) (S' : xS) : ∀ k : Nat,
  (∀ (S : xS) (p0 : Nat) (H : Heap) (locs : List Loc) (ls : Array Slot), g_X1_keepPast k 0 S p0 = some (r, S') → xI G S s H locs → lv_has ls 1 [(0, .ref (xB G + p0))] → W p l e rm_X1_keepPast s m args below meth c H locs 0 0 (MQ below (xQv G S') args s 0 0 (xA G)) (F0 m 0 ls [])) ∧
  (∀ (S : xS) (p0 : Nat) (H : Heap) (locs : List Loc) (ls : Array Slot), g_X1_keepPast k 1 S p0 = some (r, S') → xI G S s H locs → lv_has ls 1 [(0, .ref (xB G + p0))] → W p l e rm_X1_keepPast s m args below meth c H locs 0 0 (MQ below (xQv G S') args s 0 0 (xA G)) (F0 m 30 ls [])) := by
  intro k
  induction k with
  | zero => exact ⟨fun _ _ _ _ _ hf => (by cases hf), fun _ _ _ _ _ hf => (by cases hf)⟩
  | succ fu ih =>
    obtain ⟨ih0, ih1⟩ := ih
    refine ⟨?_, ?_⟩
    · intro S p0 H locs ls hf I hl
      replace hf : b_X1_keepPast_0 (g_X1_keepPast fu) fu S p0 = some (r, S') := hf
      unfold b_X1_keepPast_0 at hf
      refine kx_aload_n 0 C dX1_keepPast_0 (lv_at hl 0 rfl) ?_
      obtain ⟨x2, h1, hf⟩ := ob hf
      refine kx_geti 1 C I fl_X1_keepPast_67 h1 dX1_keepPast_1 ?_
      refine kx_bipush 4 C dX1_keepPast_4 (by decide) ?_
      refine kx_icmp_lt 6 30 C dX1_keepPast_6 (by decide) (fun c3 => ?_) (fun c3 => ?_)
      · have hf := ifp c3 hf
        exact ih1 _ _ _ _ _ hf I (lv_sub hl [0] rfl)
      · have hf := ifn c3 hf
        refine kx_aload_n 9 C dX1_keepPast_9 (lv_at hl 0 rfl) ?_
        obtain ⟨q5, h4, hf⟩ := ob hf
        refine kx_getp 10 C I fl_X1_keepPast_30 h4 dX1_keepPast_10 ?_
        refine kx_iconst 13 C dX1_keepPast_13 ?_
        refine kx_aload_n 14 C dX1_keepPast_14 (lv_at hl 0 rfl) ?_
        obtain ⟨q7, h6, hf⟩ := ob hf
        refine kx_getp 15 C I fl_X1_keepPast_30 h6 dX1_keepPast_15 ?_
        refine kx_iconst 18 C dX1_keepPast_18 ?_
        refine kx_bipush 19 C dX1_keepPast_19 (by decide) ?_
        obtain ⟨S9, h8, hf⟩ := ob hf
        refine kx_cpy 21 C hl I mw_X1_keepPast_0 mw_X1_keepPast_1 mw_X1_keepPast_2 mw_X1_keepPast_3 h8 ⟨Nat.le_of_ble_eq_true rfl, Nat.le_of_ble_eq_true rfl⟩ dX1_keepPast_21 (fun H locs I => ?_)
        refine kx_aload_n 24 C dX1_keepPast_24 (lv_at hl 0 rfl) ?_
        refine kx_bipush 25 C dX1_keepPast_25 (by decide) ?_
        obtain ⟨S11, h10, hf⟩ := ob hf
        refine kx_puti 27 C I fl_X1_keepPast_67 fw_RX1_11 h10 dX1_keepPast_27 (fun H locs I => ?_)
        exact ih1 _ _ _ _ _ hf I (lv_sub hl [0] rfl)
    · intro S p0 H locs ls hf I hl
      replace hf : b_X1_keepPast_1 (g_X1_keepPast fu) fu S p0 = some (r, S') := hf
      unfold b_X1_keepPast_1 at hf
      refine kx_aload_n 30 C dX1_keepPast_30 (lv_at hl 0 rfl) ?_
      obtain ⟨q13, h12, hf⟩ := ob hf
      refine kx_getp 31 C I fl_X1_keepPast_30 h12 dX1_keepPast_31 ?_
      refine kx_aload_n 34 C dX1_keepPast_34 (lv_at hl 0 rfl) ?_
      obtain ⟨x15, h14, hf⟩ := ob hf
      refine kx_geti 35 C I fl_X1_keepPast_67 h14 dX1_keepPast_35 ?_
      refine kx_aload_n 38 C dX1_keepPast_38 (lv_at hl 0 rfl) ?_
      obtain ⟨h19, hf⟩ := ift hf
      obtain ⟨x18, S16, h17, hf⟩ := ob2 hf
      refine kx_callVi 39 C hl I (ci := 1) (As := []) (rest := [.int (iI x15), .ref (xB G + q13)]) (c_X1_rankNow G l fu _ _ _ _ h17) (cwV 0 C.ts gX1_keepPast_X1_rankNow rfl rfl rfl nyV_X1_rankNow ⟨Nat.le_of_ble_eq_true rfl, Nat.le_of_ble_eq_true rfl⟩) rfl h19 rfl rfl (Nat.le_of_ble_eq_true rfl) dX1_keepPast_39 ⟨Nat.le_of_ble_eq_true rfl, Nat.le_of_ble_eq_true rfl⟩ (fun H locs I => ?_)
      obtain ⟨S21, h20, hf⟩ := ob hf
      refine kx_iast 42 C I h20 dX1_keepPast_42 (fun H locs I => ?_)
      refine kx_aload_n 43 C dX1_keepPast_43 (lv_at hl 0 rfl) ?_
      refine kx_dup 44 C dX1_keepPast_44 rfl ?_
      obtain ⟨x23, h22, hf⟩ := ob hf
      refine kx_geti 45 C I fl_X1_keepPast_67 h22 dX1_keepPast_45 ?_
      refine kx_iconst 48 C dX1_keepPast_48 ?_
      refine kx_iadd 49 C dX1_keepPast_49 ?_
      obtain ⟨S25, h24, hf⟩ := ob hf
      refine kx_puti 50 C I fl_X1_keepPast_67 fw_RX1_11 h24 dX1_keepPast_50 (fun H locs I => ?_)
      exact kx_vret 53 C I hf dX1_keepPast_53
set_option maxHeartbeats 4000000 in
set_option maxRecDepth 100000 in
theorem c_X1_keepPast (G : xG) (l : Launch) (fu : Nat) (S S' : xS) (p0 : Nat) (r : Int) (hf : f_X1_keepPast fu S p0 = some (r, S')) : Met l yX1_keepPast vsX1_keepPast rm_X1_keepPast (va_Pc [.ref (xB G + p0)] (xPre G S)) (xQv G S') 0 0 (xA G) := by
  refine kx_met (ret := none) RX1 [(0, .ref (xB G + p0))] (by decide) rfl rfl (Nat.le_of_ble_eq_true rfl) rfl (fun p e s m below meth c ls C hin I hl => ?_)
  exact (w_X1_keepPast C r S' fu).1 S _ _ _ _ hf I hl
