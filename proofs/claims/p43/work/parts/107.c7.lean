def rm_X6_init : Room := { frames := 1, cells := 18, slots := 15592, locals := 22 }
theorem hin_X6_init_RX6 : ∀ w ∈ wsX60, w ∈ vsX6_init := fun w h => inM (inlX6 w h)
theorem fl_X6_init_7 : xFl vsX6_init RX6 7 5 0 := ⟨RX6, TX6, 30, rfl, by decide, hin_X6_init_RX6, inM mq_4_16, rfl⟩
theorem fl_X6_init_13 : xFl vsX6_init RX6 13 5 1 := ⟨RX6, TX6, 30, rfl, by decide, hin_X6_init_RX6, inM mq_4_17, rfl⟩
theorem fl_X6_init_16 : xFl vsX6_init RX6 16 5 2 := ⟨RX6, TX6, 30, rfl, by decide, hin_X6_init_RX6, inM mq_4_19, rfl⟩
theorem fl_X6_init_20 : xFl vsX6_init RX6 20 5 3 := ⟨RX6, TX6, 30, rfl, by decide, hin_X6_init_RX6, inM mq_4_20, rfl⟩
theorem fl_X6_init_23 : xFl vsX6_init RX6 23 5 5 := ⟨RX6, TX6, 30, rfl, by decide, hin_X6_init_RX6, inM mq_4_21, rfl⟩
theorem fl_X6_init_27 : xFl vsX6_init RX6 27 5 6 := ⟨RX6, TX6, 30, rfl, by decide, hin_X6_init_RX6, inM mq_4_22, rfl⟩
theorem fl_X6_init_30 : xFl vsX6_init RX6 30 5 8 := ⟨RX6, TX6, 30, rfl, by decide, hin_X6_init_RX6, inM mq_4_23, rfl⟩
theorem fl_X6_init_33 : xFl vsX6_init RX6 33 5 12 := ⟨RX6, TX6, 30, rfl, by decide, hin_X6_init_RX6, inM mq_5_0, rfl⟩
theorem fl_X6_init_36 : xFl vsX6_init RX6 36 5 13 := ⟨RX6, TX6, 30, rfl, by decide, hin_X6_init_RX6, inM mq_5_1, rfl⟩
theorem fl_X6_init_39 : xFl vsX6_init RX6 39 5 14 := ⟨RX6, TX6, 30, rfl, by decide, hin_X6_init_RX6, inM mq_5_2, rfl⟩
theorem fl_X6_init_42 : xFl vsX6_init RX6 42 5 15 := ⟨RX6, TX6, 30, rfl, by decide, hin_X6_init_RX6, inM mq_5_3, rfl⟩
theorem fl_X6_init_45 : xFl vsX6_init RX6 45 5 16 := ⟨RX6, TX6, 30, rfl, by decide, hin_X6_init_RX6, inM mq_5_4, rfl⟩
theorem fl_X6_init_48 : xFl vsX6_init RX6 48 5 18 := ⟨RX6, TX6, 30, rfl, by decide, hin_X6_init_RX6, inM mq_5_5, rfl⟩
theorem fl_X6_init_51 : xFl vsX6_init RX6 51 5 19 := ⟨RX6, TX6, 30, rfl, by decide, hin_X6_init_RX6, inM mq_5_6, rfl⟩
theorem fl_X6_init_54 : xFl vsX6_init RX6 54 5 20 := ⟨RX6, TX6, 30, rfl, by decide, hin_X6_init_RX6, inM mq_5_7, rfl⟩
theorem fl_X6_init_57 : xFl vsX6_init RX6 57 5 21 := ⟨RX6, TX6, 30, rfl, by decide, hin_X6_init_RX6, inM mq_5_8, rfl⟩
theorem fl_X6_init_60 : xFl vsX6_init RX6 60 5 22 := ⟨RX6, TX6, 30, rfl, by decide, hin_X6_init_RX6, inM mq_5_9, rfl⟩
theorem fl_X6_init_63 : xFl vsX6_init RX6 63 5 28 := ⟨RX6, TX6, 30, rfl, by decide, hin_X6_init_RX6, inM mq_5_10, rfl⟩
theorem fl_X6_init_66 : xFl vsX6_init RX6 66 5 29 := ⟨RX6, TX6, 30, rfl, by decide, hin_X6_init_RX6, inM mq_5_11, rfl⟩
theorem mw_X6_init_0 : Cond.methodLink RX6 1 objectInit ∈ vsX6_init := inM mq_4_15
theorem mw_X6_init_1 : Cond.instanceMethod objectInit ∈ vsX6_init := inM mq_1_10
theorem mw_X6_init_2 : Cond.code objectInit ⟨#[0xb1]⟩ 1 none ∈ vsX6_init := inM mq_1_11
theorem mw_X6_init_3 : Cond.arrayClass .int ∈ vsX6_init := inM mq_2_2
theorem mw_X6_init_4 : Cond.arrayClass .boolean ∈ vsX6_init := inM mq_4_18
theorem nyS_X6_init : yX6_init.cls ≠ "java/lang/invoke/MethodHandle" ∧ yX6_init.cls ≠ "java/lang/invoke/VarHandle" ∧ (parseMethodDescriptor yX6_init.desc).map (fun d => d.parameters.length) = some 0 := by decide +kernel
set_option maxHeartbeats 4000000 in
set_option maxRecDepth 100000 in
theorem c_X6_init (G : xG) (l : Launch) (fu : Nat) (S S' : xS) (p0 : Nat) (r : Int) (hf : f_X6_init fu S p0 = some (r, S')) : Met l yX6_init vsX6_init rm_X6_init (va_Pc [.ref (xB G + p0)] (xPre G S)) (xQv G S') 18 15592 (xA G) := by
  refine kx_met (ret := none) RX6 [(0, .ref (xB G + p0))] (by decide) rfl rfl (Nat.le_of_ble_eq_true rfl) rfl (fun p e s m below meth c ls C hin I hl => ?_)
  have hin := hin rfl
  unfold f_X6_init at hf
  refine kx_aload_n 0 C dX6_init_0 (lv_at hl 0 rfl) ?_
  refine kx_objInit 1 C hl mw_X6_init_0 mw_X6_init_1 mw_X6_init_2 ⟨Nat.le_of_ble_eq_true rfl, Nat.le_of_ble_eq_true rfl⟩ dX6_init_1 ?_
  refine kx_aload_n 4 C dX6_init_4 (lv_at hl 0 rfl) ?_
  refine kx_bipush 5 C dX6_init_5 (by decide) ?_
  obtain ⟨S1, eS1, hf⟩ := nmx_e hf
  refine kx_newa 7 C I (ty := .int) 0 57 rfl rfl rfl (fun _ _ h => h) mw_X6_init_3 rfl (Nat.le_of_ble_eq_true rfl) (by decide) ⟨Nat.le_of_ble_eq_true rfl, Nat.le_of_ble_eq_true rfl⟩ dX6_init_7 (fun H I => ?_)
  rw [← eS1] at I
  obtain ⟨S3, h2, hf⟩ := ob hf
  refine kx_putFp 9 C I fl_X6_init_7 fw_RX6_0 hin rfl (fun _ => ⟨rfl, rfl⟩) h2 dX6_init_9 (fun H locs I => ?_)
  refine kx_aload_n 12 C dX6_init_12 (lv_at hl 0 rfl) ?_
  refine kx_bipush 13 C dX6_init_13 (by decide) ?_
  obtain ⟨S4, eS4, hf⟩ := nmx_e hf
  refine kx_newa 15 C I (ty := .int) 0 114 rfl rfl rfl (fun _ _ h => h) mw_X6_init_3 rfl (Nat.le_of_ble_eq_true rfl) (by decide) ⟨Nat.le_of_ble_eq_true rfl, Nat.le_of_ble_eq_true rfl⟩ dX6_init_15 (fun H I => ?_)
  rw [← eS4] at I
  obtain ⟨S6, h5, hf⟩ := ob hf
  refine kx_putFp 17 C I fl_X6_init_13 fw_RX6_1 hin rfl (fun _ => ⟨rfl, rfl⟩) h5 dX6_init_17 (fun H locs I => ?_)
  refine kx_aload_n 20 C dX6_init_20 (lv_at hl 0 rfl) ?_
  refine kx_iconst 21 C dX6_init_21 ?_
  obtain ⟨S7, eS7, hf⟩ := nmx_e hf
  refine kx_newa 22 C I (ty := .boolean) 2 2 rfl rfl rfl (fun _ _ h => h) mw_X6_init_4 rfl (Nat.le_of_ble_eq_true rfl) (by decide) ⟨Nat.le_of_ble_eq_true rfl, Nat.le_of_ble_eq_true rfl⟩ dX6_init_22 (fun H I => ?_)
  rw [← eS7] at I
  obtain ⟨S9, h8, hf⟩ := ob hf
  refine kx_putFp 24 C I fl_X6_init_16 fw_RX6_2 hin rfl (fun _ => ⟨rfl, rfl⟩) h8 dX6_init_24 (fun H locs I => ?_)
  refine kx_aload_n 27 C dX6_init_27 (lv_at hl 0 rfl) ?_
  refine kx_iconst 28 C dX6_init_28 ?_
  obtain ⟨S10, eS10, hf⟩ := nmx_e hf
  refine kx_newa 29 C I (ty := .int) 0 3 rfl rfl rfl (fun _ _ h => h) mw_X6_init_3 rfl (Nat.le_of_ble_eq_true rfl) (by decide) ⟨Nat.le_of_ble_eq_true rfl, Nat.le_of_ble_eq_true rfl⟩ dX6_init_29 (fun H I => ?_)
  rw [← eS10] at I
  obtain ⟨S12, h11, hf⟩ := ob hf
  refine kx_putFp 31 C I fl_X6_init_20 fw_RX6_3 hin rfl (fun _ => ⟨rfl, rfl⟩) h11 dX6_init_31 (fun H locs I => ?_)
  refine kx_aload_n 34 C dX6_init_34 (lv_at hl 0 rfl) ?_
  refine kx_lconst 35 C (z := 1) dX6_init_35 rfl ?_
  obtain ⟨S14, h13, hf⟩ := ob hf
  refine kx_putl 36 C I fl_X6_init_23 fw_RX6_5 h13 dX6_init_36 (fun H locs I => ?_)
  refine kx_aload_n 39 C dX6_init_39 (lv_at hl 0 rfl) ?_
  refine kx_bipush 40 C dX6_init_40 (by decide) ?_
  obtain ⟨S15, eS15, hf⟩ := nmx_e hf
  refine kx_newa 42 C I (ty := .int) 0 7 rfl rfl rfl (fun _ _ h => h) mw_X6_init_3 rfl (Nat.le_of_ble_eq_true rfl) (by decide) ⟨Nat.le_of_ble_eq_true rfl, Nat.le_of_ble_eq_true rfl⟩ dX6_init_42 (fun H I => ?_)
  rw [← eS15] at I
  obtain ⟨S17, h16, hf⟩ := ob hf
  refine kx_putFp 44 C I fl_X6_init_27 fw_RX6_6 hin rfl (fun _ => ⟨rfl, rfl⟩) h16 dX6_init_44 (fun H locs I => ?_)
  refine kx_aload_n 47 C dX6_init_47 (lv_at hl 0 rfl) ?_
  refine kx_bipush 48 C dX6_init_48 (by decide) ?_
  obtain ⟨S18, eS18, hf⟩ := nmx_e hf
  refine kx_newa 50 C I (ty := .int) 0 7 rfl rfl rfl (fun _ _ h => h) mw_X6_init_3 rfl (Nat.le_of_ble_eq_true rfl) (by decide) ⟨Nat.le_of_ble_eq_true rfl, Nat.le_of_ble_eq_true rfl⟩ dX6_init_50 (fun H I => ?_)
  rw [← eS18] at I
  obtain ⟨S20, h19, hf⟩ := ob hf
  refine kx_putFp 52 C I fl_X6_init_30 fw_RX6_8 hin rfl (fun _ => ⟨rfl, rfl⟩) h19 dX6_init_52 (fun H locs I => ?_)
  refine kx_aload_n 55 C dX6_init_55 (lv_at hl 0 rfl) ?_
  refine kx_bipush 56 C dX6_init_56 (by decide) ?_
  obtain ⟨S21, eS21, hf⟩ := nmx_e hf
  refine kx_newa 58 C I (ty := .int) 0 7 rfl rfl rfl (fun _ _ h => h) mw_X6_init_3 rfl (Nat.le_of_ble_eq_true rfl) (by decide) ⟨Nat.le_of_ble_eq_true rfl, Nat.le_of_ble_eq_true rfl⟩ dX6_init_58 (fun H I => ?_)
  rw [← eS21] at I
  obtain ⟨S23, h22, hf⟩ := ob hf
  refine kx_putFp 60 C I fl_X6_init_33 fw_RX6_12 hin rfl (fun _ => ⟨rfl, rfl⟩) h22 dX6_init_60 (fun H locs I => ?_)
  refine kx_aload_n 63 C dX6_init_63 (lv_at hl 0 rfl) ?_
  refine kx_bipush 64 C dX6_init_64 (by decide) ?_
  obtain ⟨S24, eS24, hf⟩ := nmx_e hf
  refine kx_newa 66 C I (ty := .int) 0 7 rfl rfl rfl (fun _ _ h => h) mw_X6_init_3 rfl (Nat.le_of_ble_eq_true rfl) (by decide) ⟨Nat.le_of_ble_eq_true rfl, Nat.le_of_ble_eq_true rfl⟩ dX6_init_66 (fun H I => ?_)
  rw [← eS24] at I
  obtain ⟨S26, h25, hf⟩ := ob hf
  refine kx_putFp 68 C I fl_X6_init_36 fw_RX6_13 hin rfl (fun _ => ⟨rfl, rfl⟩) h25 dX6_init_68 (fun H locs I => ?_)
  refine kx_aload_n 71 C dX6_init_71 (lv_at hl 0 rfl) ?_
  refine kx_sipush 72 C dX6_init_72 (by decide) ?_
  obtain ⟨S27, eS27, hf⟩ := nmx_e hf
  refine kx_newa 75 C I (ty := .int) 0 5040 rfl rfl rfl (fun _ _ h => h) mw_X6_init_3 rfl (Nat.le_of_ble_eq_true rfl) (by decide) ⟨Nat.le_of_ble_eq_true rfl, Nat.le_of_ble_eq_true rfl⟩ dX6_init_75 (fun H I => ?_)
  rw [← eS27] at I
  obtain ⟨S29, h28, hf⟩ := ob hf
  refine kx_putFp 77 C I fl_X6_init_39 fw_RX6_14 hin rfl (fun _ => ⟨rfl, rfl⟩) h28 dX6_init_77 (fun H locs I => ?_)
  refine kx_aload_n 80 C dX6_init_80 (lv_at hl 0 rfl) ?_
  refine kx_sipush 81 C dX6_init_81 (by decide) ?_
  obtain ⟨S30, eS30, hf⟩ := nmx_e hf
  refine kx_newa 84 C I (ty := .int) 0 5040 rfl rfl rfl (fun _ _ h => h) mw_X6_init_3 rfl (Nat.le_of_ble_eq_true rfl) (by decide) ⟨Nat.le_of_ble_eq_true rfl, Nat.le_of_ble_eq_true rfl⟩ dX6_init_84 (fun H I => ?_)
  rw [← eS30] at I
  obtain ⟨S32, h31, hf⟩ := ob hf
  refine kx_putFp 86 C I fl_X6_init_42 fw_RX6_15 hin rfl (fun _ => ⟨rfl, rfl⟩) h31 dX6_init_86 (fun H locs I => ?_)
  refine kx_aload_n 89 C dX6_init_89 (lv_at hl 0 rfl) ?_
  refine kx_sipush 90 C dX6_init_90 (by decide) ?_
  obtain ⟨S33, eS33, hf⟩ := nmx_e hf
  refine kx_newa 93 C I (ty := .boolean) 2 5040 rfl rfl rfl (fun _ _ h => h) mw_X6_init_4 rfl (Nat.le_of_ble_eq_true rfl) (by decide) ⟨Nat.le_of_ble_eq_true rfl, Nat.le_of_ble_eq_true rfl⟩ dX6_init_93 (fun H I => ?_)
  rw [← eS33] at I
  obtain ⟨S35, h34, hf⟩ := ob hf
  refine kx_putFp 95 C I fl_X6_init_45 fw_RX6_16 hin rfl (fun _ => ⟨rfl, rfl⟩) h34 dX6_init_95 (fun H locs I => ?_)
  refine kx_aload_n 98 C dX6_init_98 (lv_at hl 0 rfl) ?_
  refine kx_bipush 99 C dX6_init_99 (by decide) ?_
  obtain ⟨S36, eS36, hf⟩ := nmx_e hf
  refine kx_newa 101 C I (ty := .int) 0 49 rfl rfl rfl (fun _ _ h => h) mw_X6_init_3 rfl (Nat.le_of_ble_eq_true rfl) (by decide) ⟨Nat.le_of_ble_eq_true rfl, Nat.le_of_ble_eq_true rfl⟩ dX6_init_101 (fun H I => ?_)
  rw [← eS36] at I
  obtain ⟨S38, h37, hf⟩ := ob hf
  refine kx_putFp 103 C I fl_X6_init_48 fw_RX6_18 hin rfl (fun _ => ⟨rfl, rfl⟩) h37 dX6_init_103 (fun H locs I => ?_)
  refine kx_aload_n 106 C dX6_init_106 (lv_at hl 0 rfl) ?_
  refine kx_bipush 107 C dX6_init_107 (by decide) ?_
  obtain ⟨S39, eS39, hf⟩ := nmx_e hf
  refine kx_newa 109 C I (ty := .int) 0 6 rfl rfl rfl (fun _ _ h => h) mw_X6_init_3 rfl (Nat.le_of_ble_eq_true rfl) (by decide) ⟨Nat.le_of_ble_eq_true rfl, Nat.le_of_ble_eq_true rfl⟩ dX6_init_109 (fun H I => ?_)
  rw [← eS39] at I
  obtain ⟨S41, h40, hf⟩ := ob hf
  refine kx_putFp 111 C I fl_X6_init_51 fw_RX6_19 hin rfl (fun _ => ⟨rfl, rfl⟩) h40 dX6_init_111 (fun H locs I => ?_)
  refine kx_aload_n 114 C dX6_init_114 (lv_at hl 0 rfl) ?_
  refine kx_bipush 115 C dX6_init_115 (by decide) ?_
  obtain ⟨S42, eS42, hf⟩ := nmx_e hf
  refine kx_newa 117 C I (ty := .int) 0 7 rfl rfl rfl (fun _ _ h => h) mw_X6_init_3 rfl (Nat.le_of_ble_eq_true rfl) (by decide) ⟨Nat.le_of_ble_eq_true rfl, Nat.le_of_ble_eq_true rfl⟩ dX6_init_117 (fun H I => ?_)
  rw [← eS42] at I
  obtain ⟨S44, h43, hf⟩ := ob hf
  refine kx_putFp 119 C I fl_X6_init_54 fw_RX6_20 hin rfl (fun _ => ⟨rfl, rfl⟩) h43 dX6_init_119 (fun H locs I => ?_)
  refine kx_aload_n 122 C dX6_init_122 (lv_at hl 0 rfl) ?_
  refine kx_bipush 123 C dX6_init_123 (by decide) ?_
  obtain ⟨S45, eS45, hf⟩ := nmx_e hf
  refine kx_newa 125 C I (ty := .int) 0 7 rfl rfl rfl (fun _ _ h => h) mw_X6_init_3 rfl (Nat.le_of_ble_eq_true rfl) (by decide) ⟨Nat.le_of_ble_eq_true rfl, Nat.le_of_ble_eq_true rfl⟩ dX6_init_125 (fun H I => ?_)
  rw [← eS45] at I
  obtain ⟨S47, h46, hf⟩ := ob hf
  refine kx_putFp 127 C I fl_X6_init_57 fw_RX6_21 hin rfl (fun _ => ⟨rfl, rfl⟩) h46 dX6_init_127 (fun H locs I => ?_)
  refine kx_aload_n 130 C dX6_init_130 (lv_at hl 0 rfl) ?_
  refine kx_sipush 131 C dX6_init_131 (by decide) ?_
  obtain ⟨S48, eS48, hf⟩ := nmx_e hf
  refine kx_newa 134 C I (ty := .int) 0 150 rfl rfl rfl (fun _ _ h => h) mw_X6_init_3 rfl (Nat.le_of_ble_eq_true rfl) (by decide) ⟨Nat.le_of_ble_eq_true rfl, Nat.le_of_ble_eq_true rfl⟩ dX6_init_134 (fun H I => ?_)
  rw [← eS48] at I
  obtain ⟨S50, h49, hf⟩ := ob hf
  refine kx_putFp 136 C I fl_X6_init_60 fw_RX6_22 hin rfl (fun _ => ⟨rfl, rfl⟩) h49 dX6_init_136 (fun H locs I => ?_)
  refine kx_aload_n 139 C dX6_init_139 (lv_at hl 0 rfl) ?_
  refine kx_bipush 140 C dX6_init_140 (by decide) ?_
  obtain ⟨S51, eS51, hf⟩ := nmx_e hf
  refine kx_newa 142 C I (ty := .int) 0 47 rfl rfl rfl (fun _ _ h => h) mw_X6_init_3 rfl (Nat.le_of_ble_eq_true rfl) (by decide) ⟨Nat.le_of_ble_eq_true rfl, Nat.le_of_ble_eq_true rfl⟩ dX6_init_142 (fun H I => ?_)
  rw [← eS51] at I
  obtain ⟨S53, h52, hf⟩ := ob hf
  refine kx_putFp 144 C I fl_X6_init_63 fw_RX6_28 hin rfl (fun _ => ⟨rfl, rfl⟩) h52 dX6_init_144 (fun H locs I => ?_)
  refine kx_aload_n 147 C dX6_init_147 (lv_at hl 0 rfl) ?_
  refine kx_iconst 148 C dX6_init_148 ?_
  obtain ⟨S54, eS54, hf⟩ := nmx_e hf
  refine kx_newa 149 C I (ty := .int) 0 2 rfl rfl rfl (fun _ _ h => h) mw_X6_init_3 rfl (Nat.le_of_ble_eq_true rfl) (by decide) ⟨Nat.le_of_ble_eq_true rfl, Nat.le_of_ble_eq_true rfl⟩ dX6_init_149 (fun H I => ?_)
  rw [← eS54] at I
  obtain ⟨S56, h55, hf⟩ := ob hf
  refine kx_putFp 151 C I fl_X6_init_66 fw_RX6_29 hin rfl (fun _ => ⟨rfl, rfl⟩) h55 dX6_init_151 (fun H locs I => ?_)
  refine kx_aload_n 154 C dX6_init_154 (lv_at hl 0 rfl) ?_
  obtain ⟨q58, h57, hf⟩ := ob hf
  refine kx_getp 155 C I fl_X6_init_7 h57 dX6_init_155 ?_
  refine kx_iconst 158 C dX6_init_158 ?_
  obtain ⟨z61, S59, h60, hf⟩ := ob2 hf
  refine kx_callSv 159 C hl I (As := [.ref (xB G + q58), .int (iI 5)]) (rest := []) (c_X6_begin G l fu _ _ _ _ _ h60) (va_cwS 2 C.ts gX6_init_X6_begin rfl rfl rfl nyS_X6_begin ⟨Nat.le_of_ble_eq_true rfl, Nat.le_of_ble_eq_true rfl⟩) rfl rfl (Nat.le_of_ble_eq_true rfl) dX6_init_159 ⟨Nat.le_of_ble_eq_true rfl, Nat.le_of_ble_eq_true rfl⟩ (fun H locs I => ?_)
  exact kx_vret 162 C I hf dX6_init_162
def rm_X6_in : Room := { frames := 0, cells := 0, slots := 0, locals := 0 }
theorem nyS_X6_in : yX6_in.cls ≠ "java/lang/invoke/MethodHandle" ∧ yX6_in.cls ≠ "java/lang/invoke/VarHandle" ∧ (parseMethodDescriptor yX6_in.desc).map (fun d => d.parameters.length) = some 3 := by decide +kernel
set_option maxHeartbeats 4000000 in
set_option maxRecDepth 100000 in
theorem w_X6_in {G : xG} {p : Program} {l : Launch} {e : Env} {s : State} {m : MethodId} {args : Array Value} {below : List Frame} {meth : Method} {c : Code} (C : xK G p s m args meth c cX6_in 6 vsX6_in RX6 (some .boolean)) (r : Int) (S' : xS) : ∀ k : Nat,
  (∀ (S : xS) (i0 i1 i2 : Int) (H : Heap) (locs : List Loc) (ls : Array Slot), g_X6_in k 0 S i0 i1 i2 = some (r, S') → xI G S s H locs → lv_has ls 6 [(0, .long (lI i0)), (2, .long (lI i1)), (4, .long (lI i2))] → W p l e rm_X6_in s m args below meth c H locs 0 0 (MQ below (xQi G r S') args s 0 0 (xA G)) (F0 m 0 ls [])) ∧
  (∀ (S : xS) (i0 i1 i2 : Int) (H : Heap) (locs : List Loc) (ls : Array Slot), g_X6_in k 1 S i0 i1 i2 = some (r, S') → xI G S s H locs → lv_has ls 6 [] → W p l e rm_X6_in s m args below meth c H locs 0 0 (MQ below (xQi G r S') args s 0 0 (xA G)) (F0 m 17 ls [])) := by
  intro k
  induction k with
  | zero => exact ⟨fun _ _ _ _ _ _ _ hf => (by cases hf), fun _ _ _ _ _ _ _ hf => (by cases hf)⟩
  | succ fu ih =>
    obtain ⟨ih0, ih1⟩ := ih
    refine ⟨?_, ?_⟩
    · intro S i0 i1 i2 H locs ls hf I hl
      replace hf : b_X6_in_0 (g_X6_in fu) fu S i0 i1 i2 = some (r, S') := hf
      unfold b_X6_in_0 at hf
      refine kx_lload_n 0 C dX6_in_0 (lv_at hl 0 rfl) ?_
      refine kx_lload_n 1 C dX6_in_1 (lv_at hl 1 rfl) ?_
      refine kx_lcmp 2 C dX6_in_2 ?_
      refine kx_if_lt 3 17 C dX6_in_3 (by decide) (fun c1 => ?_) (fun c1 => ?_)
      · have hf := ifp c1 hf
        exact ih1 _ _ _ _ _ _ _ hf I (lv_sub hl [] rfl)
      · have hf := ifn c1 hf
        refine kx_lload_n 6 C dX6_in_6 (lv_at hl 0 rfl) ?_
        refine kx_lload 7 C dX6_in_7 (lv_at hl 2 rfl) ?_
        refine kx_lcmp 9 C dX6_in_9 ?_
        refine kx_if_gt 10 17 C dX6_in_10 (by decide) (fun c2 => ?_) (fun c2 => ?_)
        · have hf := ifp c2 hf
          exact ih1 _ _ _ _ _ _ _ hf I (lv_sub hl [] rfl)
        · have hf := ifn c2 hf
          refine kx_iconst 13 C dX6_in_13 ?_
          refine kx_goto 14 18 C dX6_in_14 (by decide) ?_
          exact kx_zret 18 C I (by decide) hf dX6_in_18
    · intro S i0 i1 i2 H locs ls hf I hl
      replace hf : b_X6_in_1 (g_X6_in fu) fu S i0 i1 i2 = some (r, S') := hf
      unfold b_X6_in_1 at hf
      refine kx_iconst 17 C dX6_in_17 ?_
      exact kx_zret 18 C I (by decide) hf dX6_in_18
set_option maxHeartbeats 4000000 in
set_option maxRecDepth 100000 in
theorem c_X6_in (G : xG) (l : Launch) (fu : Nat) (S S' : xS) (i0 : Int) (i1 : Int) (i2 : Int) (r : Int) (hf : f_X6_in fu S i0 i1 i2 = some (r, S')) : Met l yX6_in vsX6_in rm_X6_in (va_Pc [.long (lI i0), .long (lI i1), .long (lI i2)] (xPre G S)) (xQi G r S') 0 0 (xA G) := by
  refine kx_met (ret := (some .boolean)) RX6 [(0, .long (lI i0)), (2, .long (lI i1)), (4, .long (lI i2))] (by decide) rfl rfl (Nat.le_of_ble_eq_true rfl) rfl (fun p e s m below meth c ls C hin I hl => ?_)
  exact (w_X6_in C r S' fu).1 S _ _ _ _ _ _ hf I hl
def rm_X6_bad : Room := { frames := 0, cells := 0, slots := 0, locals := 0 }
theorem hin_X6_bad_RX6 : ∀ w ∈ wsX60, w ∈ vsX6_bad := fun w h => inM (inlX6 w h)
theorem fl_X6_bad_20 : xFl vsX6_bad RX6 20 5 3 := ⟨RX6, TX6, 30, rfl, by decide, hin_X6_bad_RX6, inM mq_4_20, rfl⟩
theorem nyS_X6_bad : yX6_bad.cls ≠ "java/lang/invoke/MethodHandle" ∧ yX6_bad.cls ≠ "java/lang/invoke/VarHandle" ∧ (parseMethodDescriptor yX6_bad.desc).map (fun d => d.parameters.length) = some 1 := by decide +kernel
theorem nyV_X6_bad : yX6_bad.cls = RX6 ∧ yX6_bad.cls ≠ "java/lang/invoke/MethodHandle" ∧ yX6_bad.cls ≠ "java/lang/invoke/VarHandle" ∧ (parseMethodDescriptor yX6_bad.desc).map (fun d => d.parameters.length) = some 1 := by decide +kernel
set_option maxHeartbeats 4000000 in
set_option maxRecDepth 100000 in
theorem c_X6_bad (G : xG) (l : Launch) (fu : Nat) (S S' : xS) (p0 : Nat) (i0 : Int) (r : Int) (hf : f_X6_bad fu S p0 i0 = some (r, S')) : Met l yX6_bad vsX6_bad rm_X6_bad (va_Pc [.ref (xB G + p0), .int (iI i0)] (xPre G S)) (xQi G r S') 0 0 (xA G) := by
  refine kx_met (ret := (some .int)) RX6 [(0, .ref (xB G + p0)), (1, .int (iI i0))] (by decide) rfl rfl (Nat.le_of_ble_eq_true rfl) rfl (fun p e s m below meth c ls C hin I hl => ?_)
  unfold f_X6_bad at hf
  refine kx_aload_n 0 C dX6_bad_0 (lv_at hl 0 rfl) ?_
  obtain ⟨q2, h1, hf⟩ := ob hf
  refine kx_getp 1 C I fl_X6_bad_20 h1 dX6_bad_1 ?_
  refine kx_iconst 4 C dX6_bad_4 ?_
  refine kx_dup2 5 C dX6_bad_5 rfl rfl ?_
  obtain ⟨x3, h4, hf⟩ := ob hf
  refine kx_iald 6 C I h4 dX6_bad_6 ?_
  refine kx_iconst 7 C dX6_bad_7 ?_
  refine kx_iadd 8 C dX6_bad_8 ?_
  obtain ⟨S6, h5, hf⟩ := ob hf
  refine kx_iast 9 C I h5 dX6_bad_9 (fun H locs I => ?_)
  refine kx_iload_n 10 C dX6_bad_10 (lv_at hl 1 rfl) ?_
  exact kx_iret 11 C I hf dX6_bad_11
def rm_X6_no : Room := { frames := 0, cells := 0, slots := 0, locals := 0 }
theorem hin_X6_no_RX6 : ∀ w ∈ wsX60, w ∈ vsX6_no := fun w h => inM (inlX6 w h)
theorem fl_X6_no_20 : xFl vsX6_no RX6 20 5 3 := ⟨RX6, TX6, 30, rfl, by decide, hin_X6_no_RX6, inM mq_4_20, rfl⟩
theorem nyS_X6_no : yX6_no.cls ≠ "java/lang/invoke/MethodHandle" ∧ yX6_no.cls ≠ "java/lang/invoke/VarHandle" ∧ (parseMethodDescriptor yX6_no.desc).map (fun d => d.parameters.length) = some 0 := by decide +kernel
theorem nyV_X6_no : yX6_no.cls = RX6 ∧ yX6_no.cls ≠ "java/lang/invoke/MethodHandle" ∧ yX6_no.cls ≠ "java/lang/invoke/VarHandle" ∧ (parseMethodDescriptor yX6_no.desc).map (fun d => d.parameters.length) = some 0 := by decide +kernel
set_option maxHeartbeats 4000000 in
set_option maxRecDepth 100000 in
theorem c_X6_no (G : xG) (l : Launch) (fu : Nat) (S S' : xS) (p0 : Nat) (r : Int) (hf : f_X6_no fu S p0 = some (r, S')) : Met l yX6_no vsX6_no rm_X6_no (va_Pc [.ref (xB G + p0)] (xPre G S)) (xQi G r S') 0 0 (xA G) := by
  refine kx_met (ret := (some .int)) RX6 [(0, .ref (xB G + p0))] (by decide) rfl rfl (Nat.le_of_ble_eq_true rfl) rfl (fun p e s m below meth c ls C hin I hl => ?_)
  unfold f_X6_no at hf
  refine kx_aload_n 0 C dX6_no_0 (lv_at hl 0 rfl) ?_
  obtain ⟨q2, h1, hf⟩ := ob hf
  refine kx_getp 1 C I fl_X6_no_20 h1 dX6_no_1 ?_
  refine kx_iconst 4 C dX6_no_4 ?_
  refine kx_dup2 5 C dX6_no_5 rfl rfl ?_
  obtain ⟨x3, h4, hf⟩ := ob hf
  refine kx_iald 6 C I h4 dX6_no_6 ?_
  refine kx_iconst 7 C dX6_no_7 ?_
  refine kx_iadd 8 C dX6_no_8 ?_
  obtain ⟨S6, h5, hf⟩ := ob hf
  refine kx_iast 9 C I h5 dX6_no_9 (fun H locs I => ?_)
  refine kx_bipush 10 C dX6_no_10 (by decide) ?_
  exact kx_iret 12 C I hf dX6_no_12
def rm_X6_full : Room := { frames := 0, cells := 0, slots := 0, locals := 0 }
theorem hin_X6_full_RX6 : ∀ w ∈ wsX60, w ∈ vsX6_full := fun w h => inM (inlX6 w h)
theorem fl_X6_full_20 : xFl vsX6_full RX6 20 5 3 := ⟨RX6, TX6, 30, rfl, by decide, hin_X6_full_RX6, inM mq_4_20, rfl⟩
theorem nyS_X6_full : yX6_full.cls ≠ "java/lang/invoke/MethodHandle" ∧ yX6_full.cls ≠ "java/lang/invoke/VarHandle" ∧ (parseMethodDescriptor yX6_full.desc).map (fun d => d.parameters.length) = some 0 := by decide +kernel
theorem nyV_X6_full : yX6_full.cls = RX6 ∧ yX6_full.cls ≠ "java/lang/invoke/MethodHandle" ∧ yX6_full.cls ≠ "java/lang/invoke/VarHandle" ∧ (parseMethodDescriptor yX6_full.desc).map (fun d => d.parameters.length) = some 0 := by decide +kernel
set_option maxHeartbeats 4000000 in
set_option maxRecDepth 100000 in
theorem c_X6_full (G : xG) (l : Launch) (fu : Nat) (S S' : xS) (p0 : Nat) (r : Int) (hf : f_X6_full fu S p0 = some (r, S')) : Met l yX6_full vsX6_full rm_X6_full (va_Pc [.ref (xB G + p0)] (xPre G S)) (xQi G r S') 0 0 (xA G) := by
  refine kx_met (ret := (some .int)) RX6 [(0, .ref (xB G + p0))] (by decide) rfl rfl (Nat.le_of_ble_eq_true rfl) rfl (fun p e s m below meth c ls C hin I hl => ?_)
  unfold f_X6_full at hf
  refine kx_aload_n 0 C dX6_full_0 (lv_at hl 0 rfl) ?_
  obtain ⟨q2, h1, hf⟩ := ob hf
  refine kx_getp 1 C I fl_X6_full_20 h1 dX6_full_1 ?_
  refine kx_iconst 4 C dX6_full_4 ?_
  refine kx_dup2 5 C dX6_full_5 rfl rfl ?_
  obtain ⟨x3, h4, hf⟩ := ob hf
  refine kx_iald 6 C I h4 dX6_full_6 ?_
  refine kx_iconst 7 C dX6_full_7 ?_
  refine kx_iadd 8 C dX6_full_8 ?_
  obtain ⟨S6, h5, hf⟩ := ob hf
  refine kx_iast 9 C I h5 dX6_full_9 (fun H locs I => ?_)
  refine kx_bipush 10 C dX6_full_10 (by decide) ?_
  exact kx_iret 12 C I hf dX6_full_12
def rm_X6_bits : Room := { frames := 0, cells := 0, slots := 0, locals := 0 }
theorem nyS_X6_bits : yX6_bits.cls ≠ "java/lang/invoke/MethodHandle" ∧ yX6_bits.cls ≠ "java/lang/invoke/VarHandle" ∧ (parseMethodDescriptor yX6_bits.desc).map (fun d => d.parameters.length) = some 1 := by decide +kernel
set_option maxHeartbeats 4000000 in
set_option maxRecDepth 100000 in
theorem w_X6_bits {G : xG} {p : Program} {l : Launch} {e : Env} {s : State} {m : MethodId} {args : Array Value} {below : List Frame} {meth : Method} {c : Code} (C : xK G p s m args meth c cX6_bits 3 vsX6_bits RX6 (some .int)) (r : Int) (S' : xS) : ∀ k : Nat,
  (∀ (S : xS) (i0 i1 : Int) (H : Heap) (locs : List Loc) (ls : Array Slot), g_X6_bits k 0 S i0 i1 = some (r, S') → xI G S s H locs → lv_has ls 3 [(0, .int (iI i0))] → W p l e rm_X6_bits s m args below meth c H locs 0 0 (MQ below (xQi G r S') args s 0 0 (xA G)) (F0 m 0 ls [])) ∧
  (∀ (S : xS) (i0 i1 : Int) (H : Heap) (locs : List Loc) (ls : Array Slot), g_X6_bits k 1 S i0 i1 = some (r, S') → xI G S s H locs → lv_has ls 3 [(1, .int (iI i0)), (2, .int (iI i1))] → W p l e rm_X6_bits s m args below meth c H locs 0 0 (MQ below (xQi G r S') args s 0 0 (xA G)) (F0 m 4 ls [])) := by
  intro k
  induction k with
  | zero => exact ⟨fun _ _ _ _ _ _ hf => (by cases hf), fun _ _ _ _ _ _ hf => (by cases hf)⟩
  | succ fu ih =>
    obtain ⟨ih0, ih1⟩ := ih
    refine ⟨?_, ?_⟩
    · intro S i0 i1 H locs ls hf I hl
      replace hf : b_X6_bits_0 (g_X6_bits fu) fu S i0 i1 = some (r, S') := hf
      unfold b_X6_bits_0 at hf
      refine kx_iconst 0 C dX6_bits_0 ?_
      refine kx_istore_n 1 C (lv' := [(1, .int (iI 0)), (0, .int (iI i0))]) dX6_bits_1 hl (by decide) rfl rfl (fun ls hl => ?_)
      refine kx_iload_n 2 C dX6_bits_2 (lv_at hl 1 rfl) ?_
      refine kx_istore_n 3 C (lv' := [(2, .int (iI i0)), (1, .int (iI 0)), (0, .int (iI i0))]) dX6_bits_3 hl (by decide) rfl rfl (fun ls hl => ?_)
      exact ih1 _ _ _ _ _ _ hf I (lv_sub hl [1, 0] rfl)
    · intro S i0 i1 H locs ls hf I hl
      replace hf : b_X6_bits_1 (g_X6_bits fu) fu S i0 i1 = some (r, S') := hf
      unfold b_X6_bits_1 at hf
      refine kx_iload_n 4 C dX6_bits_4 (lv_at hl 1 rfl) ?_
      refine kx_if_le 5 21 C dX6_bits_5 (by decide) (fun c1 => ?_) (fun c1 => ?_)
      · have hf := ifp c1 hf
        refine kx_iload_n 21 C dX6_bits_21 (lv_at hl 0 rfl) ?_
        exact kx_iret 22 C I hf dX6_bits_22
      · have hf := ifn c1 hf
        refine kx_iload_n 8 C dX6_bits_8 (lv_at hl 0 rfl) ?_
        refine kx_iload_n 9 C dX6_bits_9 (lv_at hl 1 rfl) ?_
        refine kx_iconst 10 C dX6_bits_10 ?_
        refine kx_iand 11 C dX6_bits_11 ?_
        refine kx_iadd 12 C dX6_bits_12 ?_
        obtain ⟨x2, e3, hf⟩ := nmx_e hf
        refine kx_istore_n 13 C (lv' := [(1, .int (iI x2)), (2, .int (iI i1))]) dX6_bits_13 hl (by decide) e3 rfl (fun ls hl => ?_)
        refine kx_iload_n 14 C dX6_bits_14 (lv_at hl 1 rfl) ?_
        refine kx_iconst 15 C dX6_bits_15 ?_
        refine kx_ishr 16 C dX6_bits_16 ?_
        obtain ⟨x4, e5, hf⟩ := nmx_e hf
        refine kx_istore_n 17 C (lv' := [(2, .int (iI x4)), (1, .int (iI x2))]) dX6_bits_17 hl (by decide) e5 rfl (fun ls hl => ?_)
        refine kx_goto 18 4 C dX6_bits_18 (by decide) ?_
        exact ih1 _ _ _ _ _ _ hf I (lv_sub hl [1, 0] rfl)
set_option maxHeartbeats 4000000 in
set_option maxRecDepth 100000 in
theorem c_X6_bits (G : xG) (l : Launch) (fu : Nat) (S S' : xS) (i0 : Int) (r : Int) (hf : f_X6_bits fu S i0 = some (r, S')) : Met l yX6_bits vsX6_bits rm_X6_bits (va_Pc [.int (iI i0)] (xPre G S)) (xQi G r S') 0 0 (xA G) := by
  refine kx_met (ret := (some .int)) RX6 [(0, .int (iI i0))] (by decide) rfl rfl (Nat.le_of_ble_eq_true rfl) rfl (fun p e s m below meth c ls C hin I hl => ?_)
  exact (w_X6_bits C r S' fu).1 S _ _ _ _ _ hf I hl
def rm_X6_n : Room := { frames := 0, cells := 0, slots := 0, locals := 0 }
theorem hin_X6_n_RX6 : ∀ w ∈ wsX60, w ∈ vsX6_n := fun w h => inM (inlX6 w h)
theorem fl_X6_n_7 : xFl vsX6_n RX6 7 5 0 := ⟨RX6, TX6, 30, rfl, by decide, hin_X6_n_RX6, inM mq_4_16, rfl⟩
theorem nyS_X6_n : yX6_n.cls ≠ "java/lang/invoke/MethodHandle" ∧ yX6_n.cls ≠ "java/lang/invoke/VarHandle" ∧ (parseMethodDescriptor yX6_n.desc).map (fun d => d.parameters.length) = some 0 := by decide +kernel
theorem nyV_X6_n : yX6_n.cls = RX6 ∧ yX6_n.cls ≠ "java/lang/invoke/MethodHandle" ∧ yX6_n.cls ≠ "java/lang/invoke/VarHandle" ∧ (parseMethodDescriptor yX6_n.desc).map (fun d => d.parameters.length) = some 0 := by decide +kernel
set_option maxHeartbeats 4000000 in
set_option maxRecDepth 100000 in
theorem c_X6_n (G : xG) (l : Launch) (fu : Nat) (S S' : xS) (p0 : Nat) (r : Int) (hf : f_X6_n fu S p0 = some (r, S')) : Met l yX6_n vsX6_n rm_X6_n (va_Pc [.ref (xB G + p0)] (xPre G S)) (xQi G r S') 0 0 (xA G) := by
  refine kx_met (ret := (some .int)) RX6 [(0, .ref (xB G + p0))] (by decide) rfl rfl (Nat.le_of_ble_eq_true rfl) rfl (fun p e s m below meth c ls C hin I hl => ?_)
  unfold f_X6_n at hf
  refine kx_aload_n 0 C dX6_n_0 (lv_at hl 0 rfl) ?_
  obtain ⟨q2, h1, hf⟩ := ob hf
  refine kx_getp 1 C I fl_X6_n_7 h1 dX6_n_1 ?_
  refine kx_iconst 4 C dX6_n_4 ?_
  obtain ⟨x3, h4, hf⟩ := ob hf
  refine kx_iald 5 C I h4 dX6_n_5 ?_
  exact kx_iret 6 C I hf dX6_n_6
def rm_X6_isBox : Room := { frames := 1, cells := 0, slots := 0, locals := 25 }
theorem nyS_X6_isBox : yX6_isBox.cls ≠ "java/lang/invoke/MethodHandle" ∧ yX6_isBox.cls ≠ "java/lang/invoke/VarHandle" ∧ (parseMethodDescriptor yX6_isBox.desc).map (fun d => d.parameters.length) = some 1 := by decide +kernel
theorem nyV_X6_isBox : yX6_isBox.cls = RX6 ∧ yX6_isBox.cls ≠ "java/lang/invoke/MethodHandle" ∧ yX6_isBox.cls ≠ "java/lang/invoke/VarHandle" ∧ (parseMethodDescriptor yX6_isBox.desc).map (fun d => d.parameters.length) = some 1 := by decide +kernel
set_option maxHeartbeats 4000000 in
set_option maxRecDepth 100000 in
theorem c_X6_isBox (G : xG) (l : Launch) (fu : Nat) (S S' : xS) (p0 : Nat) (i0 : Int) (r : Int) (hf : f_X6_isBox fu S p0 i0 = some (r, S')) : Met l yX6_isBox vsX6_isBox rm_X6_isBox (va_Pc [.ref (xB G + p0), .int (iI i0)] (xPre G S)) (xQi G r S') 0 0 (xA G) := by
  refine kx_met (ret := (some .boolean)) RX6 [(0, .ref (xB G + p0)), (1, .int (iI i0))] (by decide) rfl rfl (Nat.le_of_ble_eq_true rfl) rfl (fun p e s m below meth c ls C hin I hl => ?_)
  unfold f_X6_isBox at hf
  refine kx_iload_n 0 C dX6_isBox_0 (lv_at hl 1 rfl) ?_
  refine kx_i2l 1 C dX6_isBox_1 ?_
  refine kx_lconst 2 C (z := 0) dX6_isBox_2 rfl ?_
  refine kx_aload_n 3 C dX6_isBox_3 (lv_at hl 0 rfl) ?_
  obtain ⟨h4, hf⟩ := ift hf
  obtain ⟨x3, S1, h2, hf⟩ := ob2 hf
  refine kx_callVi 4 C hl I (ci := 5) (As := []) (rest := [.long (lI 0), .long (lI (wI i0))]) (c_X6_n G l fu _ _ _ _ h2) (cwV 0 C.ts gX6_isBox_X6_n rfl rfl rfl nyV_X6_n ⟨Nat.le_of_ble_eq_true rfl, Nat.le_of_ble_eq_true rfl⟩) rfl h4 rfl rfl (Nat.le_of_ble_eq_true rfl) dX6_isBox_4 ⟨Nat.le_of_ble_eq_true rfl, Nat.le_of_ble_eq_true rfl⟩ (fun H locs I => ?_)
  refine kx_iconst 7 C dX6_isBox_7 ?_
  refine kx_isub 8 C dX6_isBox_8 ?_
  refine kx_i2l 9 C dX6_isBox_9 ?_
  obtain ⟨x7, S5, h6, hf⟩ := ob2 hf
  refine kx_callSi 10 C hl I (As := [.long (lI (wI i0)), .long (lI 0), .long (lI (wI (x3 - 1)))]) (rest := []) (c_X6_in G l fu _ _ _ _ _ _ h6) (va_cwS 3 C.ts gX6_isBox_X6_in rfl rfl rfl nyS_X6_in ⟨Nat.le_of_ble_eq_true rfl, Nat.le_of_ble_eq_true rfl⟩) rfl rfl (Nat.le_of_ble_eq_true rfl) dX6_isBox_10 ⟨Nat.le_of_ble_eq_true rfl, Nat.le_of_ble_eq_true rfl⟩ (fun H locs I => ?_)
  obtain ⟨h8, hf⟩ := ift hf
  exact kx_zret 13 C I h8 hf dX6_isBox_13
def rm_X6_boxes : Room := { frames := 1, cells := 0, slots := 0, locals := 25 }
theorem hin_X6_boxes_RX6 : ∀ w ∈ wsX60, w ∈ vsX6_boxes := fun w h => inM (inlX6 w h)
theorem fl_X6_boxes_7 : xFl vsX6_boxes RX6 7 5 0 := ⟨RX6, TX6, 30, rfl, by decide, hin_X6_boxes_RX6, inM mq_4_16, rfl⟩
theorem mw_X6_boxes_0 : Cond.constantLong RX6 81 (2) ∈ vsX6_boxes := inM mq_6_5
theorem mw_X6_boxes_1 : Cond.constantLong RX6 83 (7) ∈ vsX6_boxes := inM mq_6_6
theorem nyS_X6_boxes : yX6_boxes.cls ≠ "java/lang/invoke/MethodHandle" ∧ yX6_boxes.cls ≠ "java/lang/invoke/VarHandle" ∧ (parseMethodDescriptor yX6_boxes.desc).map (fun d => d.parameters.length) = some 1 := by decide +kernel
theorem nyV_X6_boxes : yX6_boxes.cls = RX6 ∧ yX6_boxes.cls ≠ "java/lang/invoke/MethodHandle" ∧ yX6_boxes.cls ≠ "java/lang/invoke/VarHandle" ∧ (parseMethodDescriptor yX6_boxes.desc).map (fun d => d.parameters.length) = some 1 := by decide +kernel
set_option maxHeartbeats 4000000 in
set_option maxRecDepth 100000 in
theorem c_X6_boxes (G : xG) (l : Launch) (fu : Nat) (S S' : xS) (p0 : Nat) (i0 : Int) (r : Int) (hf : f_X6_boxes fu S p0 i0 = some (r, S')) : Met l yX6_boxes vsX6_boxes rm_X6_boxes (va_Pc [.ref (xB G + p0), .int (iI i0)] (xPre G S)) (xQi G r S') 0 0 (xA G) := by
  refine kx_met (ret := (some .int)) RX6 [(0, .ref (xB G + p0)), (1, .int (iI i0))] (by decide) rfl rfl (Nat.le_of_ble_eq_true rfl) rfl (fun p e s m below meth c ls C hin I hl => ?_)
  unfold f_X6_boxes at hf
  refine kx_iload_n 0 C dX6_boxes_0 (lv_at hl 1 rfl) ?_
  refine kx_i2l 1 C dX6_boxes_1 ?_
  refine kx_ldc2 2 C (z := 2) mw_X6_boxes_0 dX6_boxes_2 (by decide) ?_
  refine kx_ldc2 5 C (z := 7) mw_X6_boxes_1 dX6_boxes_5 (by decide) ?_
  obtain ⟨x3, S1, h2, hf⟩ := ob2 hf
  refine kx_callSi 8 C hl I (As := [.long (lI (wI i0)), .long (lI 2), .long (lI 7)]) (rest := []) (c_X6_in G l fu _ _ _ _ _ _ h2) (va_cwS 3 C.ts gX6_boxes_X6_in rfl rfl rfl nyS_X6_in ⟨Nat.le_of_ble_eq_true rfl, Nat.le_of_ble_eq_true rfl⟩) rfl rfl (Nat.le_of_ble_eq_true rfl) dX6_boxes_8 ⟨Nat.le_of_ble_eq_true rfl, Nat.le_of_ble_eq_true rfl⟩ (fun H locs I => ?_)
  refine kx_if_ne 11 21 C dX6_boxes_11 (by decide) (fun c4 => ?_) (fun c4 => ?_)
  · have hf := ifn c4 hf
    refine kx_aload_n 21 C dX6_boxes_21 (lv_at hl 0 rfl) ?_
    obtain ⟨h8, hf⟩ := ift hf
    obtain ⟨x7, S5, h6, hf⟩ := ob2 hf
    refine kx_callVi 22 C hl I (ci := 5) (As := []) (rest := []) (c_X6_n G l fu _ _ _ _ h6) (cwV 0 C.ts gX6_boxes_X6_n rfl rfl rfl nyV_X6_n ⟨Nat.le_of_ble_eq_true rfl, Nat.le_of_ble_eq_true rfl⟩) rfl h8 rfl rfl (Nat.le_of_ble_eq_true rfl) dX6_boxes_22 ⟨Nat.le_of_ble_eq_true rfl, Nat.le_of_ble_eq_true rfl⟩ (fun H locs I => ?_)
    refine kx_istore_n 25 C (lv' := [(2, .int (iI x7)), (0, .ref (xB G + p0)), (1, .int (iI i0))]) dX6_boxes_25 hl (by decide) rfl rfl (fun ls hl => ?_)
    refine kx_aload_n 26 C dX6_boxes_26 (lv_at hl 1 rfl) ?_
    obtain ⟨q10, h9, hf⟩ := ob hf
    refine kx_getp 27 C I fl_X6_boxes_7 h9 dX6_boxes_27 ?_
    refine kx_iload_n 30 C dX6_boxes_30 (lv_at hl 2 rfl) ?_
    obtain ⟨z13, S11, h12, hf⟩ := ob2 hf
    refine kx_callSv 31 C hl I (As := [.ref (xB G + q10), .int (iI i0)]) (rest := []) (c_X6_begin G l fu _ _ _ _ _ h12) (va_cwS 2 C.ts gX6_boxes_X6_begin rfl rfl rfl nyS_X6_begin ⟨Nat.le_of_ble_eq_true rfl, Nat.le_of_ble_eq_true rfl⟩) rfl rfl (Nat.le_of_ble_eq_true rfl) dX6_boxes_31 ⟨Nat.le_of_ble_eq_true rfl, Nat.le_of_ble_eq_true rfl⟩ (fun H locs I => ?_)
    refine kx_iload_n 34 C dX6_boxes_34 (lv_at hl 0 rfl) ?_
    exact kx_iret 35 C I hf dX6_boxes_35
  · have hf := ifp c4 hf
    refine kx_aload_n 14 C dX6_boxes_14 (lv_at hl 0 rfl) ?_
    refine kx_bipush 15 C dX6_boxes_15 (by decide) ?_
    obtain ⟨h17, hf⟩ := ift hf
    obtain ⟨x16, S14, h15, hf⟩ := ob2 hf
    refine kx_callVi 17 C hl I (ci := 5) (As := [.int (iI ((-2)))]) (rest := []) (c_X6_bad G l fu _ _ _ _ _ h15) (cwV 1 C.ts gX6_boxes_X6_bad rfl rfl rfl nyV_X6_bad ⟨Nat.le_of_ble_eq_true rfl, Nat.le_of_ble_eq_true rfl⟩) rfl h17 rfl rfl (Nat.le_of_ble_eq_true rfl) dX6_boxes_17 ⟨Nat.le_of_ble_eq_true rfl, Nat.le_of_ble_eq_true rfl⟩ (fun H locs I => ?_)
    exact kx_iret 20 C I hf dX6_boxes_20
def rm_X6_put : Room := { frames := 1, cells := 0, slots := 0, locals := 25 }
theorem hin_X6_put_RX6 : ∀ w ∈ wsX60, w ∈ vsX6_put := fun w h => inM (inlX6 w h)
theorem fl_X6_put_7 : xFl vsX6_put RX6 7 5 0 := ⟨RX6, TX6, 30, rfl, by decide, hin_X6_put_RX6, inM mq_4_16, rfl⟩
theorem mw_X6_put_0 : Cond.constantLong RX6 89 (6) ∈ vsX6_put := inM mq_7_8
theorem nyS_X6_put : yX6_put.cls ≠ "java/lang/invoke/MethodHandle" ∧ yX6_put.cls ≠ "java/lang/invoke/VarHandle" ∧ (parseMethodDescriptor yX6_put.desc).map (fun d => d.parameters.length) = some 2 := by decide +kernel
theorem nyV_X6_put : yX6_put.cls = RX6 ∧ yX6_put.cls ≠ "java/lang/invoke/MethodHandle" ∧ yX6_put.cls ≠ "java/lang/invoke/VarHandle" ∧ (parseMethodDescriptor yX6_put.desc).map (fun d => d.parameters.length) = some 2 := by decide +kernel
set_option maxHeartbeats 4000000 in
set_option maxRecDepth 100000 in
theorem w_X6_put {G : xG} {p : Program} {l : Launch} {e : Env} {s : State} {m : MethodId} {args : Array Value} {below : List Frame} {meth : Method} {c : Code} (C : xK G p s m args meth c cX6_put 5 vsX6_put RX6 (some .int)) (r : Int) (S' : xS) : ∀ k : Nat,
  (∀ (S : xS) (p0 : Nat) (i0 i1 i2 : Int) (H : Heap) (locs : List Loc) (ls : Array Slot), g_X6_put k 0 S p0 i0 i1 i2 = some (r, S') → xI G S s H locs → lv_has ls 5 [(0, .ref (xB G + p0)), (1, .int (iI i0)), (2, .int (iI i1))] → W p l e rm_X6_put s m args below meth c H locs 0 0 (MQ below (xQi G r S') args s 0 0 (xA G)) (F0 m 0 ls [])) ∧
  (∀ (S : xS) (p0 : Nat) (i0 i1 i2 : Int) (H : Heap) (locs : List Loc) (ls : Array Slot), g_X6_put k 1 S p0 i0 i1 i2 = some (r, S') → xI G S s H locs → lv_has ls 5 [(0, .ref (xB G + p0)), (1, .int (iI i0)), (2, .int (iI i1))] → W p l e rm_X6_put s m args below meth c H locs 0 0 (MQ below (xQi G r S') args s 0 0 (xA G)) (F0 m 39 ls [])) ∧
  (∀ (S : xS) (p0 : Nat) (i0 i1 i2 : Int) (H : Heap) (locs : List Loc) (ls : Array Slot), g_X6_put k 2 S p0 i0 i1 i2 = some (r, S') → xI G S s H locs → lv_has ls 5 [(0, .ref (xB G + p0)), (1, .int (iI i0)), (2, .int (iI i1))] → W p l e rm_X6_put s m args below meth c H locs 0 0 (MQ below (xQi G r S') args s 0 0 (xA G)) (F0 m 40 ls [.int (iI i2)])) := by
  intro k
  induction k with
  | zero => exact ⟨fun _ _ _ _ _ _ _ _ hf => (by cases hf), fun _ _ _ _ _ _ _ _ hf => (by cases hf), fun _ _ _ _ _ _ _ _ hf => (by cases hf)⟩
  | succ fu ih =>
    obtain ⟨ih0, ih1, ih2⟩ := ih
    refine ⟨?_, ?_, ?_⟩
    · intro S p0 i0 i1 i2 H locs ls hf I hl
      replace hf : b_X6_put_0 (g_X6_put fu) fu S p0 i0 i1 i2 = some (r, S') := hf
      unfold b_X6_put_0 at hf
      refine kx_iload_n 0 C dX6_put_0 (lv_at hl 1 rfl) ?_
      refine kx_if_ne 1 18 C dX6_put_1 (by decide) (fun c1 => ?_) (fun c1 => ?_)
      · have hf := ifn c1 hf
        refine kx_iload_n 18 C dX6_put_18 (lv_at hl 1 rfl) ?_
        refine kx_iconst 19 C dX6_put_19 ?_
        refine kx_icmp_ne 20 39 C dX6_put_20 (by decide) (fun c2 => ?_) (fun c2 => ?_)
        · have hf := ifn c2 hf
          exact ih1 _ _ _ _ _ _ _ _ hf I (lv_sub hl [0, 1, 2] rfl)
        · have hf := ifp c2 hf
          refine kx_iload_n 23 C dX6_put_23 (lv_at hl 2 rfl) ?_
          refine kx_i2l 24 C dX6_put_24 ?_
          refine kx_lconst 25 C (z := 0) dX6_put_25 rfl ?_
          refine kx_ldc2 26 C (z := 6) mw_X6_put_0 dX6_put_26 (by decide) ?_
          obtain ⟨x5, S3, h4, hf⟩ := ob2 hf
          refine kx_callSi 29 C hl I (As := [.long (lI (wI i1)), .long (lI 0), .long (lI 6)]) (rest := []) (c_X6_in G l fu _ _ _ _ _ _ h4) (va_cwS 3 C.ts gX6_put_X6_in rfl rfl rfl nyS_X6_in ⟨Nat.le_of_ble_eq_true rfl, Nat.le_of_ble_eq_true rfl⟩) rfl rfl (Nat.le_of_ble_eq_true rfl) dX6_put_29 ⟨Nat.le_of_ble_eq_true rfl, Nat.le_of_ble_eq_true rfl⟩ (fun H locs I => ?_)
          refine kx_if_eq 32 39 C dX6_put_32 (by decide) (fun c6 => ?_) (fun c6 => ?_)
          · have hf := ifp c6 hf
            exact ih1 _ _ _ _ _ _ _ _ hf I (lv_sub hl [0, 1, 2] rfl)
          · have hf := ifn c6 hf
            refine kx_iconst 35 C dX6_put_35 ?_
            refine kx_goto 36 40 C dX6_put_36 (by decide) ?_
            exact ih2 _ _ _ _ _ _ _ _ hf I (lv_sub hl [0, 1, 2] rfl)
      · have hf := ifp c1 hf
        refine kx_iload_n 4 C dX6_put_4 (lv_at hl 2 rfl) ?_
        refine kx_i2l 5 C dX6_put_5 ?_
        refine kx_lconst 6 C (z := 1) dX6_put_6 rfl ?_
        refine kx_aload_n 7 C dX6_put_7 (lv_at hl 0 rfl) ?_
        obtain ⟨h10, hf⟩ := ift hf
        obtain ⟨x9, S7, h8, hf⟩ := ob2 hf
        refine kx_callVi 8 C hl I (ci := 5) (As := []) (rest := [.long (lI 1), .long (lI (wI i1))]) (c_X6_n G l fu _ _ _ _ h8) (cwV 0 C.ts gX6_put_X6_n rfl rfl rfl nyV_X6_n ⟨Nat.le_of_ble_eq_true rfl, Nat.le_of_ble_eq_true rfl⟩) rfl h10 rfl rfl (Nat.le_of_ble_eq_true rfl) dX6_put_8 ⟨Nat.le_of_ble_eq_true rfl, Nat.le_of_ble_eq_true rfl⟩ (fun H locs I => ?_)
        refine kx_i2l 11 C dX6_put_11 ?_
        obtain ⟨x13, S11, h12, hf⟩ := ob2 hf
        refine kx_callSi 12 C hl I (As := [.long (lI (wI i1)), .long (lI 1), .long (lI (wI x9))]) (rest := []) (c_X6_in G l fu _ _ _ _ _ _ h12) (va_cwS 3 C.ts gX6_put_X6_in rfl rfl rfl nyS_X6_in ⟨Nat.le_of_ble_eq_true rfl, Nat.le_of_ble_eq_true rfl⟩) rfl rfl (Nat.le_of_ble_eq_true rfl) dX6_put_12 ⟨Nat.le_of_ble_eq_true rfl, Nat.le_of_ble_eq_true rfl⟩ (fun H locs I => ?_)
        refine kx_goto 15 40 C dX6_put_15 (by decide) ?_
        exact ih2 _ _ _ _ _ _ _ _ hf I (lv_sub hl [0, 1, 2] rfl)
    · intro S p0 i0 i1 i2 H locs ls hf I hl
      replace hf : b_X6_put_1 (g_X6_put fu) fu S p0 i0 i1 i2 = some (r, S') := hf
      unfold b_X6_put_1 at hf
      refine kx_iconst 39 C dX6_put_39 ?_
      exact ih2 _ _ _ _ _ _ _ _ hf I (lv_sub hl [0, 1, 2] rfl)
    · intro S p0 i0 i1 i2 H locs ls hf I hl
      replace hf : b_X6_put_2 (g_X6_put fu) fu S p0 i0 i1 i2 = some (r, S') := hf
      unfold b_X6_put_2 at hf
      refine kx_istore_n 40 C (lv' := [(3, .int (iI i2)), (0, .ref (xB G + p0)), (1, .int (iI i0)), (2, .int (iI i1))]) dX6_put_40 hl (by decide) rfl rfl (fun ls hl => ?_)
      refine kx_iload_n 41 C dX6_put_41 (lv_at hl 0 rfl) ?_
      refine kx_if_ne 42 52 C dX6_put_42 (by decide) (fun c14 => ?_) (fun c14 => ?_)
      · have hf := ifn c14 hf
        refine kx_aload_n 52 C dX6_put_52 (lv_at hl 1 rfl) ?_
        obtain ⟨q16, h15, hf⟩ := ob hf
        refine kx_getp 53 C I fl_X6_put_7 h15 dX6_put_53 ?_
        refine kx_iconst 56 C dX6_put_56 ?_
        refine kx_iload_n 57 C dX6_put_57 (lv_at hl 2 rfl) ?_
        refine kx_iadd 58 C dX6_put_58 ?_
        obtain ⟨x17, h18, hf⟩ := ob hf
        refine kx_iald 59 C I h18 dX6_put_59 ?_
        refine kx_istore 60 C (lv' := [(4, .int (iI x17)), (3, .int (iI i2)), (0, .ref (xB G + p0)), (1, .int (iI i0)), (2, .int (iI i1))]) dX6_put_60 hl (by decide) rfl rfl (fun ls hl => ?_)
        refine kx_aload_n 62 C dX6_put_62 (lv_at hl 2 rfl) ?_
        obtain ⟨q20, h19, hf⟩ := ob hf
        refine kx_getp 63 C I fl_X6_put_7 h19 dX6_put_63 ?_
        refine kx_iconst 66 C dX6_put_66 ?_
        refine kx_iload_n 67 C dX6_put_67 (lv_at hl 3 rfl) ?_
        refine kx_iadd 68 C dX6_put_68 ?_
        refine kx_iload_n 69 C dX6_put_69 (lv_at hl 4 rfl) ?_
        obtain ⟨S22, h21, hf⟩ := ob hf
        refine kx_iast 70 C I h21 dX6_put_70 (fun H locs I => ?_)
        refine kx_iload 71 C dX6_put_71 (lv_at hl 0 rfl) ?_
        exact kx_iret 73 C I hf dX6_put_73
      · have hf := ifp c14 hf
        refine kx_aload_n 45 C dX6_put_45 (lv_at hl 1 rfl) ?_
        refine kx_bipush 46 C dX6_put_46 (by decide) ?_
        obtain ⟨h26, hf⟩ := ift hf
        obtain ⟨x25, S23, h24, hf⟩ := ob2 hf
        refine kx_callVi 48 C hl I (ci := 5) (As := [.int (iI ((-2)))]) (rest := []) (c_X6_bad G l fu _ _ _ _ _ h24) (cwV 1 C.ts gX6_put_X6_bad rfl rfl rfl nyV_X6_bad ⟨Nat.le_of_ble_eq_true rfl, Nat.le_of_ble_eq_true rfl⟩) rfl h26 rfl rfl (Nat.le_of_ble_eq_true rfl) dX6_put_48 ⟨Nat.le_of_ble_eq_true rfl, Nat.le_of_ble_eq_true rfl⟩ (fun H locs I => ?_)
        exact kx_iret 51 C I hf dX6_put_51
set_option maxHeartbeats 4000000 in
set_option maxRecDepth 100000 in
theorem c_X6_put (G : xG) (l : Launch) (fu : Nat) (S S' : xS) (p0 : Nat) (i0 : Int) (i1 : Int) (r : Int) (hf : f_X6_put fu S p0 i0 i1 = some (r, S')) : Met l yX6_put vsX6_put rm_X6_put (va_Pc [.ref (xB G + p0), .int (iI i0), .int (iI i1)] (xPre G S)) (xQi G r S') 0 0 (xA G) := by
  refine kx_met (ret := (some .int)) RX6 [(0, .ref (xB G + p0)), (1, .int (iI i0)), (2, .int (iI i1))] (by decide) rfl rfl (Nat.le_of_ble_eq_true rfl) rfl (fun p e s m below meth c ls C hin I hl => ?_)
  exact (w_X6_put C r S' fu).1 S _ _ _ _ _ _ _ hf I hl
def rm_X6_rule : Room := { frames := 2, cells := 0, slots := 0, locals := 46 }
theorem hin_X6_rule_RX6 : ∀ w ∈ wsX60, w ∈ vsX6_rule := fun w h => inM (inlX6 w h)
theorem fl_X6_rule_7 : xFl vsX6_rule RX6 7 5 0 := ⟨RX6, TX6, 30, rfl, by decide, hin_X6_rule_RX6, inM mq_4_16, rfl⟩
theorem mw_X6_rule_0 : Cond.constantLong RX6 95 (5) ∈ vsX6_rule := inM mq_7_22
theorem nyS_X6_rule : yX6_rule.cls ≠ "java/lang/invoke/MethodHandle" ∧ yX6_rule.cls ≠ "java/lang/invoke/VarHandle" ∧ (parseMethodDescriptor yX6_rule.desc).map (fun d => d.parameters.length) = some 2 := by decide +kernel
theorem nyV_X6_rule : yX6_rule.cls = RX6 ∧ yX6_rule.cls ≠ "java/lang/invoke/MethodHandle" ∧ yX6_rule.cls ≠ "java/lang/invoke/VarHandle" ∧ (parseMethodDescriptor yX6_rule.desc).map (fun d => d.parameters.length) = some 2 := by decide +kernel
set_option maxHeartbeats 4000000 in
set_option maxRecDepth 100000 in
theorem w_X6_rule {G : xG} {p : Program} {l : Launch} {e : Env} {s : State} {m : MethodId} {args : Array Value} {below : List Frame} {meth : Method} {c : Code} (C : xK G p s m args meth c cX6_rule 4 vsX6_rule RX6 (some .int)) (r : Int) (S' : xS) : ∀ k : Nat,
  (∀ (S : xS) (p0 : Nat) (i0 i1 : Int) (H : Heap) (locs : List Loc) (ls : Array Slot), g_X6_rule k 0 S p0 i0 i1 = some (r, S') → xI G S s H locs → lv_has ls 4 [(0, .ref (xB G + p0)), (1, .int (iI i0)), (2, .int (iI i1))] → W p l e rm_X6_rule s m args below meth c H locs 0 0 (MQ below (xQi G r S') args s 0 0 (xA G)) (F0 m 0 ls [])) ∧
  (∀ (S : xS) (p0 : Nat) (i0 i1 : Int) (H : Heap) (locs : List Loc) (ls : Array Slot), g_X6_rule k 1 S p0 i0 i1 = some (r, S') → xI G S s H locs → lv_has ls 4 [(0, .ref (xB G + p0))] → W p l e rm_X6_rule s m args below meth c H locs 0 0 (MQ below (xQi G r S') args s 0 0 (xA G)) (F0 m 20 ls [])) := by
  intro k
  induction k with
  | zero => exact ⟨fun _ _ _ _ _ _ _ hf => (by cases hf), fun _ _ _ _ _ _ _ hf => (by cases hf)⟩
  | succ fu ih =>
    obtain ⟨ih0, ih1⟩ := ih
    refine ⟨?_, ?_⟩
    · intro S p0 i0 i1 H locs ls hf I hl
      replace hf : b_X6_rule_0 (g_X6_rule fu) fu S p0 i0 i1 = some (r, S') := hf
      unfold b_X6_rule_0 at hf
      refine kx_aload_n 0 C dX6_rule_0 (lv_at hl 0 rfl) ?_
      refine kx_iload_n 1 C dX6_rule_1 (lv_at hl 1 rfl) ?_
      obtain ⟨h4, hf⟩ := ift hf
      obtain ⟨x3, S1, h2, hf⟩ := ob2 hf
      refine kx_callVi 2 C hl I (ci := 5) (As := [.int (iI i0)]) (rest := []) (c_X6_isBox G l fu _ _ _ _ _ h2) (cwV 1 C.ts gX6_rule_X6_isBox rfl rfl rfl nyV_X6_isBox ⟨Nat.le_of_ble_eq_true rfl, Nat.le_of_ble_eq_true rfl⟩) rfl h4 rfl rfl (Nat.le_of_ble_eq_true rfl) dX6_rule_2 ⟨Nat.le_of_ble_eq_true rfl, Nat.le_of_ble_eq_true rfl⟩ (fun H locs I => ?_)
      refine kx_if_eq 5 20 C dX6_rule_5 (by decide) (fun c5 => ?_) (fun c5 => ?_)
      · have hf := ifp c5 hf
        exact ih1 _ _ _ _ _ _ _ hf I (lv_sub hl [0] rfl)
      · have hf := ifn c5 hf
        refine kx_iload_n 8 C dX6_rule_8 (lv_at hl 2 rfl) ?_
        refine kx_i2l 9 C dX6_rule_9 ?_
        refine kx_lconst 10 C (z := 0) dX6_rule_10 rfl ?_
        refine kx_ldc2 11 C (z := 5) mw_X6_rule_0 dX6_rule_11 (by decide) ?_
        obtain ⟨x8, S6, h7, hf⟩ := ob2 hf
        refine kx_callSi 14 C hl I (As := [.long (lI (wI i1)), .long (lI 0), .long (lI 5)]) (rest := []) (c_X6_in G l fu _ _ _ _ _ _ h7) (va_cwS 3 C.ts gX6_rule_X6_in rfl rfl rfl nyS_X6_in ⟨Nat.le_of_ble_eq_true rfl, Nat.le_of_ble_eq_true rfl⟩) rfl rfl (Nat.le_of_ble_eq_true rfl) dX6_rule_14 ⟨Nat.le_of_ble_eq_true rfl, Nat.le_of_ble_eq_true rfl⟩ (fun H locs I => ?_)
        refine kx_if_ne 17 27 C dX6_rule_17 (by decide) (fun c9 => ?_) (fun c9 => ?_)
        · have hf := ifn c9 hf
          refine kx_aload_n 27 C dX6_rule_27 (lv_at hl 0 rfl) ?_
          obtain ⟨q11, h10, hf⟩ := ob hf
          refine kx_getp 28 C I fl_X6_rule_7 h10 dX6_rule_28 ?_
          refine kx_bipush 31 C dX6_rule_31 (by decide) ?_
          refine kx_iload_n 33 C dX6_rule_33 (lv_at hl 1 rfl) ?_
          refine kx_iadd 34 C dX6_rule_34 ?_
          obtain ⟨x12, h13, hf⟩ := ob hf
          refine kx_iald 35 C I h13 dX6_rule_35 ?_
          refine kx_istore_n 36 C (lv' := [(3, .int (iI x12)), (0, .ref (xB G + p0)), (1, .int (iI i0)), (2, .int (iI i1))]) dX6_rule_36 hl (by decide) rfl rfl (fun ls hl => ?_)
          refine kx_aload_n 37 C dX6_rule_37 (lv_at hl 1 rfl) ?_
          obtain ⟨q15, h14, hf⟩ := ob hf
          refine kx_getp 38 C I fl_X6_rule_7 h14 dX6_rule_38 ?_
          refine kx_bipush 41 C dX6_rule_41 (by decide) ?_
          refine kx_iload_n 43 C dX6_rule_43 (lv_at hl 2 rfl) ?_
          refine kx_iadd 44 C dX6_rule_44 ?_
          refine kx_iload_n 45 C dX6_rule_45 (lv_at hl 3 rfl) ?_
          obtain ⟨S17, h16, hf⟩ := ob hf
          refine kx_iast 46 C I h16 dX6_rule_46 (fun H locs I => ?_)
          refine kx_iload_n 47 C dX6_rule_47 (lv_at hl 0 rfl) ?_
          exact kx_iret 48 C I hf dX6_rule_48
        · have hf := ifp c9 hf
          exact ih1 _ _ _ _ _ _ _ hf I (lv_sub hl [0] rfl)
    · intro S p0 i0 i1 H locs ls hf I hl
      replace hf : b_X6_rule_1 (g_X6_rule fu) fu S p0 i0 i1 = some (r, S') := hf
      unfold b_X6_rule_1 at hf
      refine kx_aload_n 20 C dX6_rule_20 (lv_at hl 0 rfl) ?_
      refine kx_bipush 21 C dX6_rule_21 (by decide) ?_
      obtain ⟨h21, hf⟩ := ift hf
      obtain ⟨x20, S18, h19, hf⟩ := ob2 hf
      refine kx_callVi 23 C hl I (ci := 5) (As := [.int (iI ((-2)))]) (rest := []) (c_X6_bad G l fu _ _ _ _ _ h19) (cwV 1 C.ts gX6_rule_X6_bad rfl rfl rfl nyV_X6_bad ⟨Nat.le_of_ble_eq_true rfl, Nat.le_of_ble_eq_true rfl⟩) rfl h21 rfl rfl (Nat.le_of_ble_eq_true rfl) dX6_rule_23 ⟨Nat.le_of_ble_eq_true rfl, Nat.le_of_ble_eq_true rfl⟩ (fun H locs I => ?_)
      exact kx_iret 26 C I hf dX6_rule_26
set_option maxHeartbeats 4000000 in
set_option maxRecDepth 100000 in
theorem c_X6_rule (G : xG) (l : Launch) (fu : Nat) (S S' : xS) (p0 : Nat) (i0 : Int) (i1 : Int) (r : Int) (hf : f_X6_rule fu S p0 i0 i1 = some (r, S')) : Met l yX6_rule vsX6_rule rm_X6_rule (va_Pc [.ref (xB G + p0), .int (iI i0), .int (iI i1)] (xPre G S)) (xQi G r S') 0 0 (xA G) := by
  refine kx_met (ret := (some .int)) RX6 [(0, .ref (xB G + p0)), (1, .int (iI i0)), (2, .int (iI i1))] (by decide) rfl rfl (Nat.le_of_ble_eq_true rfl) rfl (fun p e s m below meth c ls C hin I hl => ?_)
  exact (w_X6_rule C r S' fu).1 S _ _ _ _ _ _ hf I hl
def rm_X6_takeNow : Room := { frames := 1, cells := 0, slots := 0, locals := 20 }
theorem hin_X6_takeNow_RX6 : ∀ w ∈ wsX60, w ∈ vsX6_takeNow := fun w h => inM (inlX6 w h)
theorem fl_X6_takeNow_7 : xFl vsX6_takeNow RX6 7 5 0 := ⟨RX6, TX6, 30, rfl, by decide, hin_X6_takeNow_RX6, inM mq_4_16, rfl⟩
theorem fl_X6_takeNow_27 : xFl vsX6_takeNow RX6 27 5 6 := ⟨RX6, TX6, 30, rfl, by decide, hin_X6_takeNow_RX6, inM mq_4_22, rfl⟩
theorem nyS_X6_takeNow : yX6_takeNow.cls ≠ "java/lang/invoke/MethodHandle" ∧ yX6_takeNow.cls ≠ "java/lang/invoke/VarHandle" ∧ (parseMethodDescriptor yX6_takeNow.desc).map (fun d => d.parameters.length) = some 0 := by decide +kernel
theorem nyV_X6_takeNow : yX6_takeNow.cls = RX6 ∧ yX6_takeNow.cls ≠ "java/lang/invoke/MethodHandle" ∧ yX6_takeNow.cls ≠ "java/lang/invoke/VarHandle" ∧ (parseMethodDescriptor yX6_takeNow.desc).map (fun d => d.parameters.length) = some 0 := by decide +kernel
set_option maxHeartbeats 4000000 in
set_option maxRecDepth 100000 in
theorem w_X6_takeNow {G : xG} {p : Program} {l : Launch} {e : Env} {s : State} {m : MethodId} {args : Array Value} {below : List Frame} {meth : Method} {c : Code} (C : xK G p s m args meth c cX6_takeNow 2 vsX6_takeNow RX6 none) (r : Int) (S' : xS) : ∀ k : Nat,
  (∀ (S : xS) (p0 : Nat) (i0 : Int) (H : Heap) (locs : List Loc) (ls : Array Slot), g_X6_takeNow k 0 S p0 i0 = some (r, S') → xI G S s H locs → lv_has ls 2 [(0, .ref (xB G + p0))] → W p l e rm_X6_takeNow s m args below meth c H locs 0 0 (MQ below (xQv G S') args s 0 0 (xA G)) (F0 m 0 ls [])) ∧
  (∀ (S : xS) (p0 : Nat) (i0 : Int) (H : Heap) (locs : List Loc) (ls : Array Slot), g_X6_takeNow k 1 S p0 i0 = some (r, S') → xI G S s H locs → lv_has ls 2 [(0, .ref (xB G + p0)), (1, .int (iI i0))] → W p l e rm_X6_takeNow s m args below meth c H locs 0 0 (MQ below (xQv G S') args s 0 0 (xA G)) (F0 m 2 ls [])) := by
  intro k
  induction k with
  | zero => exact ⟨fun _ _ _ _ _ _ hf => (by cases hf), fun _ _ _ _ _ _ hf => (by cases hf)⟩
  | succ fu ih =>
    obtain ⟨ih0, ih1⟩ := ih
    refine ⟨?_, ?_⟩
    · intro S p0 i0 H locs ls hf I hl
      replace hf : b_X6_takeNow_0 (g_X6_takeNow fu) fu S p0 i0 = some (r, S') := hf
      unfold b_X6_takeNow_0 at hf
      refine kx_iconst 0 C dX6_takeNow_0 ?_
      refine kx_istore_n 1 C (lv' := [(1, .int (iI 0)), (0, .ref (xB G + p0))]) dX6_takeNow_1 hl (by decide) rfl rfl (fun ls hl => ?_)
      exact ih1 _ _ _ _ _ _ hf I (lv_sub hl [1, 0] rfl)
    · intro S p0 i0 H locs ls hf I hl
      replace hf : b_X6_takeNow_1 (g_X6_takeNow fu) fu S p0 i0 = some (r, S') := hf
      unfold b_X6_takeNow_1 at hf
      refine kx_iload_n 2 C dX6_takeNow_2 (lv_at hl 1 rfl) ?_
      refine kx_aload_n 3 C dX6_takeNow_3 (lv_at hl 0 rfl) ?_
      obtain ⟨h4, hf⟩ := ift hf
      obtain ⟨x3, S1, h2, hf⟩ := ob2 hf
      refine kx_callVi 4 C hl I (ci := 5) (As := []) (rest := [.int (iI i0)]) (c_X6_n G l fu _ _ _ _ h2) (cwV 0 C.ts gX6_takeNow_X6_n rfl rfl rfl nyV_X6_n ⟨Nat.le_of_ble_eq_true rfl, Nat.le_of_ble_eq_true rfl⟩) rfl h4 rfl rfl (Nat.le_of_ble_eq_true rfl) dX6_takeNow_4 ⟨Nat.le_of_ble_eq_true rfl, Nat.le_of_ble_eq_true rfl⟩ (fun H locs I => ?_)
      refine kx_icmp_ge 7 30 C dX6_takeNow_7 (by decide) (fun c5 => ?_) (fun c5 => ?_)
      · have hf := ifp c5 hf
        exact kx_vret 30 C I hf dX6_takeNow_30
      · have hf := ifn c5 hf
        refine kx_aload_n 10 C dX6_takeNow_10 (lv_at hl 0 rfl) ?_
        obtain ⟨q7, h6, hf⟩ := ob hf
        refine kx_getp 11 C I fl_X6_takeNow_27 h6 dX6_takeNow_11 ?_
        refine kx_iload_n 14 C dX6_takeNow_14 (lv_at hl 1 rfl) ?_
        refine kx_aload_n 15 C dX6_takeNow_15 (lv_at hl 0 rfl) ?_
        obtain ⟨q9, h8, hf⟩ := ob hf
        refine kx_getp 16 C I fl_X6_takeNow_7 h8 dX6_takeNow_16 ?_
        refine kx_iconst 19 C dX6_takeNow_19 ?_
        refine kx_iload_n 20 C dX6_takeNow_20 (lv_at hl 1 rfl) ?_
        refine kx_iadd 21 C dX6_takeNow_21 ?_
        obtain ⟨x10, h11, hf⟩ := ob hf
        refine kx_iald 22 C I h11 dX6_takeNow_22 ?_
        obtain ⟨S13, h12, hf⟩ := ob hf
        refine kx_iast 23 C I h12 dX6_takeNow_23 (fun H locs I => ?_)
        obtain ⟨x14, e15, hf⟩ := nmx_e hf
        refine kx_iinc 24 C (lv' := [(1, .int (iI x14)), (0, .ref (xB G + p0))]) dX6_takeNow_24 hl 1 rfl e15 (by decide) rfl (fun ls hl => ?_)
        refine kx_goto 27 2 C dX6_takeNow_27 (by decide) ?_
        exact ih1 _ _ _ _ _ _ hf I (lv_sub hl [1, 0] rfl)
set_option maxHeartbeats 4000000 in
set_option maxRecDepth 100000 in
theorem c_X6_takeNow (G : xG) (l : Launch) (fu : Nat) (S S' : xS) (p0 : Nat) (r : Int) (hf : f_X6_takeNow fu S p0 = some (r, S')) : Met l yX6_takeNow vsX6_takeNow rm_X6_takeNow (va_Pc [.ref (xB G + p0)] (xPre G S)) (xQv G S') 0 0 (xA G) := by
  refine kx_met (ret := none) RX6 [(0, .ref (xB G + p0))] (by decide) rfl rfl (Nat.le_of_ble_eq_true rfl) rfl (fun p e s m below meth c ls C hin I hl => ?_)
  exact (w_X6_takeNow C r S' fu).1 S _ _ _ _ _ hf I hl
def rm_X6_factorial : Room := { frames := 0, cells := 0, slots := 0, locals := 0 }
theorem nyS_X6_factorial : yX6_factorial.cls ≠ "java/lang/invoke/MethodHandle" ∧ yX6_factorial.cls ≠ "java/lang/invoke/VarHandle" ∧ (parseMethodDescriptor yX6_factorial.desc).map (fun d => d.parameters.length) = some 1 := by decide +kernel
set_option maxHeartbeats 4000000 in
set_option maxRecDepth 100000 in
theorem w_X6_factorial {G : xG} {p : Program} {l : Launch} {e : Env} {s : State} {m : MethodId} {args : Array Value} {below : List Frame} {meth : Method} {c : Code} (C : xK G p s m args meth c cX6_factorial 3 vsX6_factorial RX6 (some .int)) (r : Int) (S' : xS) : ∀ k : Nat,
  (∀ (S : xS) (i0 i1 i2 : Int) (H : Heap) (locs : List Loc) (ls : Array Slot), g_X6_factorial k 0 S i0 i1 i2 = some (r, S') → xI G S s H locs → lv_has ls 3 [(0, .int (iI i0))] → W p l e rm_X6_factorial s m args below meth c H locs 0 0 (MQ below (xQi G r S') args s 0 0 (xA G)) (F0 m 0 ls [])) ∧
  (∀ (S : xS) (i0 i1 i2 : Int) (H : Heap) (locs : List Loc) (ls : Array Slot), g_X6_factorial k 1 S i0 i1 i2 = some (r, S') → xI G S s H locs → lv_has ls 3 [(0, .int (iI i0)), (1, .int (iI i1)), (2, .int (iI i2))] → W p l e rm_X6_factorial s m args below meth c H locs 0 0 (MQ below (xQi G r S') args s 0 0 (xA G)) (F0 m 4 ls [])) := by
  intro k
  induction k with
  | zero => exact ⟨fun _ _ _ _ _ _ _ hf => (by cases hf), fun _ _ _ _ _ _ _ hf => (by cases hf)⟩
  | succ fu ih =>
    obtain ⟨ih0, ih1⟩ := ih
    refine ⟨?_, ?_⟩
    · intro S i0 i1 i2 H locs ls hf I hl
      replace hf : b_X6_factorial_0 (g_X6_factorial fu) fu S i0 i1 i2 = some (r, S') := hf
      unfold b_X6_factorial_0 at hf
      refine kx_iconst 0 C dX6_factorial_0 ?_
      refine kx_istore_n 1 C (lv' := [(1, .int (iI 1)), (0, .int (iI i0))]) dX6_factorial_1 hl (by decide) rfl rfl (fun ls hl => ?_)
      refine kx_iconst 2 C dX6_factorial_2 ?_
      refine kx_istore_n 3 C (lv' := [(2, .int (iI 2)), (1, .int (iI 1)), (0, .int (iI i0))]) dX6_factorial_3 hl (by decide) rfl rfl (fun ls hl => ?_)
      exact ih1 _ _ _ _ _ _ _ hf I (lv_sub hl [2, 1, 0] rfl)
    · intro S i0 i1 i2 H locs ls hf I hl
      replace hf : b_X6_factorial_1 (g_X6_factorial fu) fu S i0 i1 i2 = some (r, S') := hf
      unfold b_X6_factorial_1 at hf
      refine kx_iload_n 4 C dX6_factorial_4 (lv_at hl 2 rfl) ?_
      refine kx_iload_n 5 C dX6_factorial_5 (lv_at hl 0 rfl) ?_
      refine kx_icmp_gt 6 19 C dX6_factorial_6 (by decide) (fun c1 => ?_) (fun c1 => ?_)
      · have hf := ifp c1 hf
        refine kx_iload_n 19 C dX6_factorial_19 (lv_at hl 1 rfl) ?_
        exact kx_iret 20 C I hf dX6_factorial_20
      · have hf := ifn c1 hf
        refine kx_iload_n 9 C dX6_factorial_9 (lv_at hl 1 rfl) ?_
        refine kx_iload_n 10 C dX6_factorial_10 (lv_at hl 2 rfl) ?_
        refine kx_imul 11 C dX6_factorial_11 ?_
        obtain ⟨x2, e3, hf⟩ := nmx_e hf
        refine kx_istore_n 12 C (lv' := [(1, .int (iI x2)), (0, .int (iI i0)), (2, .int (iI i2))]) dX6_factorial_12 hl (by decide) e3 rfl (fun ls hl => ?_)
        obtain ⟨x4, e5, hf⟩ := nmx_e hf
        refine kx_iinc 13 C (lv' := [(2, .int (iI x4)), (1, .int (iI x2)), (0, .int (iI i0))]) dX6_factorial_13 hl 2 rfl e5 (by decide) rfl (fun ls hl => ?_)
        refine kx_goto 16 4 C dX6_factorial_16 (by decide) ?_
        exact ih1 _ _ _ _ _ _ _ hf I (lv_sub hl [2, 1, 0] rfl)
set_option maxHeartbeats 4000000 in
set_option maxRecDepth 100000 in
theorem c_X6_factorial (G : xG) (l : Launch) (fu : Nat) (S S' : xS) (i0 : Int) (r : Int) (hf : f_X6_factorial fu S i0 = some (r, S')) : Met l yX6_factorial vsX6_factorial rm_X6_factorial (va_Pc [.int (iI i0)] (xPre G S)) (xQi G r S') 0 0 (xA G) := by
  refine kx_met (ret := (some .int)) RX6 [(0, .int (iI i0))] (by decide) rfl rfl (Nat.le_of_ble_eq_true rfl) rfl (fun p e s m below meth c ls C hin I hl => ?_)
  exact (w_X6_factorial C r S' fu).1 S _ _ _ _ _ _ hf I hl
def rm_X6_ways : Room := { frames := 1, cells := 0, slots := 0, locals := 22 }
theorem nyS_X6_ways : yX6_ways.cls ≠ "java/lang/invoke/MethodHandle" ∧ yX6_ways.cls ≠ "java/lang/invoke/VarHandle" ∧ (parseMethodDescriptor yX6_ways.desc).map (fun d => d.parameters.length) = some 0 := by decide +kernel
theorem nyV_X6_ways : yX6_ways.cls = RX6 ∧ yX6_ways.cls ≠ "java/lang/invoke/MethodHandle" ∧ yX6_ways.cls ≠ "java/lang/invoke/VarHandle" ∧ (parseMethodDescriptor yX6_ways.desc).map (fun d => d.parameters.length) = some 0 := by decide +kernel
set_option maxHeartbeats 4000000 in
set_option maxRecDepth 100000 in
theorem c_X6_ways (G : xG) (l : Launch) (fu : Nat) (S S' : xS) (p0 : Nat) (r : Int) (hf : f_X6_ways fu S p0 = some (r, S')) : Met l yX6_ways vsX6_ways rm_X6_ways (va_Pc [.ref (xB G + p0)] (xPre G S)) (xQi G r S') 0 0 (xA G) := by
  refine kx_met (ret := (some .int)) RX6 [(0, .ref (xB G + p0))] (by decide) rfl rfl (Nat.le_of_ble_eq_true rfl) rfl (fun p e s m below meth c ls C hin I hl => ?_)
  unfold f_X6_ways at hf
  refine kx_aload_n 0 C dX6_ways_0 (lv_at hl 0 rfl) ?_
  obtain ⟨h4, hf⟩ := ift hf
  obtain ⟨x3, S1, h2, hf⟩ := ob2 hf
  refine kx_callVi 1 C hl I (ci := 5) (As := []) (rest := []) (c_X6_n G l fu _ _ _ _ h2) (cwV 0 C.ts gX6_ways_X6_n rfl rfl rfl nyV_X6_n ⟨Nat.le_of_ble_eq_true rfl, Nat.le_of_ble_eq_true rfl⟩) rfl h4 rfl rfl (Nat.le_of_ble_eq_true rfl) dX6_ways_1 ⟨Nat.le_of_ble_eq_true rfl, Nat.le_of_ble_eq_true rfl⟩ (fun H locs I => ?_)
  obtain ⟨x7, S5, h6, hf⟩ := ob2 hf
  refine kx_callSi 4 C hl I (As := [.int (iI x3)]) (rest := []) (c_X6_factorial G l fu _ _ _ _ h6) (va_cwS 1 C.ts gX6_ways_X6_factorial rfl rfl rfl nyS_X6_factorial ⟨Nat.le_of_ble_eq_true rfl, Nat.le_of_ble_eq_true rfl⟩) rfl rfl (Nat.le_of_ble_eq_true rfl) dX6_ways_4 ⟨Nat.le_of_ble_eq_true rfl, Nat.le_of_ble_eq_true rfl⟩ (fun H locs I => ?_)
  exact kx_iret 7 C I hf dX6_ways_7
def rm_X6_rankOf : Room := { frames := 1, cells := 0, slots := 0, locals := 22 }
theorem hin_X6_rankOf_RX6 : ∀ w ∈ wsX60, w ∈ vsX6_rankOf := fun w h => inM (inlX6 w h)
theorem fl_X6_rankOf_27 : xFl vsX6_rankOf RX6 27 5 6 := ⟨RX6, TX6, 30, rfl, by decide, hin_X6_rankOf_RX6, inM mq_4_22, rfl⟩
theorem nyS_X6_rankOf : yX6_rankOf.cls ≠ "java/lang/invoke/MethodHandle" ∧ yX6_rankOf.cls ≠ "java/lang/invoke/VarHandle" ∧ (parseMethodDescriptor yX6_rankOf.desc).map (fun d => d.parameters.length) = some 0 := by decide +kernel
theorem nyV_X6_rankOf : yX6_rankOf.cls = RX6 ∧ yX6_rankOf.cls ≠ "java/lang/invoke/MethodHandle" ∧ yX6_rankOf.cls ≠ "java/lang/invoke/VarHandle" ∧ (parseMethodDescriptor yX6_rankOf.desc).map (fun d => d.parameters.length) = some 0 := by decide +kernel
set_option maxHeartbeats 4000000 in
set_option maxRecDepth 100000 in
theorem w_X6_rankOf {G : xG} {p : Program} {l : Launch} {e : Env} {s : State} {m : MethodId} {args : Array Value} {below : List Frame} {meth : Method} {c : Code} (C : xK G p s m args meth c cX6_rankOf 5 vsX6_rankOf RX6 (some .int)) (r : Int) (S' : xS) : ∀ k : Nat,
  (∀ (S : xS) (p0 : Nat) (i0 i1 i2 i3 i4 : Int) (H : Heap) (locs : List Loc) (ls : Array Slot), g_X6_rankOf k 0 S p0 i0 i1 i2 i3 i4 = some (r, S') → xI G S s H locs → lv_has ls 5 [(0, .ref (xB G + p0))] → W p l e rm_X6_rankOf s m args below meth c H locs 0 0 (MQ below (xQi G r S') args s 0 0 (xA G)) (F0 m 0 ls [])) ∧
  (∀ (S : xS) (p0 : Nat) (i0 i1 i2 i3 i4 : Int) (H : Heap) (locs : List Loc) (ls : Array Slot), g_X6_rankOf k 1 S p0 i0 i1 i2 i3 i4 = some (r, S') → xI G S s H locs → lv_has ls 5 [(0, .ref (xB G + p0)), (1, .int (iI i0)), (2, .int (iI i1))] → W p l e rm_X6_rankOf s m args below meth c H locs 0 0 (MQ below (xQi G r S') args s 0 0 (xA G)) (F0 m 4 ls [])) ∧
  (∀ (S : xS) (p0 : Nat) (i0 i1 i2 i3 i4 : Int) (H : Heap) (locs : List Loc) (ls : Array Slot), g_X6_rankOf k 2 S p0 i0 i1 i2 i3 i4 = some (r, S') → xI G S s H locs → lv_has ls 5 [(0, .ref (xB G + p0)), (1, .int (iI i0)), (2, .int (iI i1)), (3, .int (iI i2)), (4, .int (iI i3))] → W p l e rm_X6_rankOf s m args below meth c H locs 0 0 (MQ below (xQi G r S') args s 0 0 (xA G)) (F0 m 19 ls [])) ∧
  (∀ (S : xS) (p0 : Nat) (i0 i1 i2 i3 i4 : Int) (H : Heap) (locs : List Loc) (ls : Array Slot), g_X6_rankOf k 3 S p0 i0 i1 i2 i3 i4 = some (r, S') → xI G S s H locs → lv_has ls 5 [(0, .ref (xB G + p0)), (1, .int (iI i0)), (2, .int (iI i1)), (4, .int (iI i2))] → W p l e rm_X6_rankOf s m args below meth c H locs 0 0 (MQ below (xQi G r S') args s 0 0 (xA G)) (F0 m 50 ls [.int (iI i4), .int (iI i3)])) := by
  intro k
  induction k with
  | zero => exact ⟨fun _ _ _ _ _ _ _ _ _ _ hf => (by cases hf), fun _ _ _ _ _ _ _ _ _ _ hf => (by cases hf), fun _ _ _ _ _ _ _ _ _ _ hf => (by cases hf), fun _ _ _ _ _ _ _ _ _ _ hf => (by cases hf)⟩
  | succ fu ih =>
    obtain ⟨ih0, ih1, ih2, ih3⟩ := ih
    refine ⟨?_, ?_, ?_, ?_⟩
    · intro S p0 i0 i1 i2 i3 i4 H locs ls hf I hl
      replace hf : b_X6_rankOf_0 (g_X6_rankOf fu) fu S p0 i0 i1 i2 i3 i4 = some (r, S') := hf
      unfold b_X6_rankOf_0 at hf
      refine kx_iconst 0 C dX6_rankOf_0 ?_
      refine kx_istore_n 1 C (lv' := [(1, .int (iI 0)), (0, .ref (xB G + p0))]) dX6_rankOf_1 hl (by decide) rfl rfl (fun ls hl => ?_)
      refine kx_iconst 2 C dX6_rankOf_2 ?_
      refine kx_istore_n 3 C (lv' := [(2, .int (iI 0)), (1, .int (iI 0)), (0, .ref (xB G + p0))]) dX6_rankOf_3 hl (by decide) rfl rfl (fun ls hl => ?_)
      exact ih1 _ _ _ _ _ _ _ _ _ _ hf I (lv_sub hl [2, 1, 0] rfl)
    · intro S p0 i0 i1 i2 i3 i4 H locs ls hf I hl
      replace hf : b_X6_rankOf_1 (g_X6_rankOf fu) fu S p0 i0 i1 i2 i3 i4 = some (r, S') := hf
      unfold b_X6_rankOf_1 at hf
      refine kx_iload_n 4 C dX6_rankOf_4 (lv_at hl 2 rfl) ?_
      refine kx_aload_n 5 C dX6_rankOf_5 (lv_at hl 0 rfl) ?_
      obtain ⟨h4, hf⟩ := ift hf
      obtain ⟨x3, S1, h2, hf⟩ := ob2 hf
      refine kx_callVi 6 C hl I (ci := 5) (As := []) (rest := [.int (iI i1)]) (c_X6_n G l fu _ _ _ _ h2) (cwV 0 C.ts gX6_rankOf_X6_n rfl rfl rfl nyV_X6_n ⟨Nat.le_of_ble_eq_true rfl, Nat.le_of_ble_eq_true rfl⟩) rfl h4 rfl rfl (Nat.le_of_ble_eq_true rfl) dX6_rankOf_6 ⟨Nat.le_of_ble_eq_true rfl, Nat.le_of_ble_eq_true rfl⟩ (fun H locs I => ?_)
      refine kx_icmp_ge 9 80 C dX6_rankOf_9 (by decide) (fun c5 => ?_) (fun c5 => ?_)
      · have hf := ifp c5 hf
        refine kx_iload_n 80 C dX6_rankOf_80 (lv_at hl 1 rfl) ?_
        exact kx_iret 81 C I hf dX6_rankOf_81
      · have hf := ifn c5 hf
        refine kx_iconst 12 C dX6_rankOf_12 ?_
        refine kx_istore_n 13 C (lv' := [(3, .int (iI 0)), (0, .ref (xB G + p0)), (1, .int (iI i0)), (2, .int (iI i1))]) dX6_rankOf_13 hl (by decide) rfl rfl (fun ls hl => ?_)
        refine kx_iload_n 14 C dX6_rankOf_14 (lv_at hl 3 rfl) ?_
        refine kx_iconst 15 C dX6_rankOf_15 ?_
        refine kx_iadd 16 C dX6_rankOf_16 ?_
        obtain ⟨x6, e7, hf⟩ := nmx_e hf
        refine kx_istore 17 C (lv' := [(4, .int (iI x6)), (3, .int (iI 0)), (0, .ref (xB G + p0)), (1, .int (iI i0)), (2, .int (iI i1))]) dX6_rankOf_17 hl (by decide) e7 rfl (fun ls hl => ?_)
        exact ih2 _ _ _ _ _ _ _ _ _ _ hf I (lv_sub hl [2, 3, 4, 1, 0] rfl)
    · intro S p0 i0 i1 i2 i3 i4 H locs ls hf I hl
      replace hf : b_X6_rankOf_2 (g_X6_rankOf fu) fu S p0 i0 i1 i2 i3 i4 = some (r, S') := hf
      unfold b_X6_rankOf_2 at hf
      refine kx_iload 19 C dX6_rankOf_19 (lv_at hl 4 rfl) ?_
      refine kx_aload_n 21 C dX6_rankOf_21 (lv_at hl 0 rfl) ?_
      obtain ⟨h11, hf⟩ := ift hf
      obtain ⟨x10, S8, h9, hf⟩ := ob2 hf
      refine kx_callVi 22 C hl I (ci := 5) (As := []) (rest := [.int (iI i3)]) (c_X6_n G l fu _ _ _ _ h9) (cwV 0 C.ts gX6_rankOf_X6_n rfl rfl rfl nyV_X6_n ⟨Nat.le_of_ble_eq_true rfl, Nat.le_of_ble_eq_true rfl⟩) rfl h11 rfl rfl (Nat.le_of_ble_eq_true rfl) dX6_rankOf_22 ⟨Nat.le_of_ble_eq_true rfl, Nat.le_of_ble_eq_true rfl⟩ (fun H locs I => ?_)
      refine kx_icmp_ge 25 58 C dX6_rankOf_25 (by decide) (fun c12 => ?_) (fun c12 => ?_)
      · have hf := ifp c12 hf
        refine kx_iload_n 58 C dX6_rankOf_58 (lv_at hl 1 rfl) ?_
        refine kx_iload_n 59 C dX6_rankOf_59 (lv_at hl 3 rfl) ?_
        refine kx_aload_n 60 C dX6_rankOf_60 (lv_at hl 0 rfl) ?_
        obtain ⟨h16, hf⟩ := ift hf
        obtain ⟨x15, S13, h14, hf⟩ := ob2 hf
        refine kx_callVi 61 C hl I (ci := 5) (As := []) (rest := [.int (iI i2), .int (iI i0)]) (c_X6_n G l fu _ _ _ _ h14) (cwV 0 C.ts gX6_rankOf_X6_n rfl rfl rfl nyV_X6_n ⟨Nat.le_of_ble_eq_true rfl, Nat.le_of_ble_eq_true rfl⟩) rfl h16 rfl rfl (Nat.le_of_ble_eq_true rfl) dX6_rankOf_61 ⟨Nat.le_of_ble_eq_true rfl, Nat.le_of_ble_eq_true rfl⟩ (fun H locs I => ?_)
        refine kx_iconst 64 C dX6_rankOf_64 ?_
        refine kx_isub 65 C dX6_rankOf_65 ?_
        refine kx_iload_n 66 C dX6_rankOf_66 (lv_at hl 2 rfl) ?_
        refine kx_isub 67 C dX6_rankOf_67 ?_
        obtain ⟨x19, S17, h18, hf⟩ := ob2 hf
        refine kx_callSi 68 C hl I (As := [.int (iI ((x15 - 1) - i1))]) (rest := [.int (iI i2), .int (iI i0)]) (c_X6_factorial G l fu _ _ _ _ h18) (va_cwS 1 C.ts gX6_rankOf_X6_factorial rfl rfl rfl nyS_X6_factorial ⟨Nat.le_of_ble_eq_true rfl, Nat.le_of_ble_eq_true rfl⟩) rfl rfl (Nat.le_of_ble_eq_true rfl) dX6_rankOf_68 ⟨Nat.le_of_ble_eq_true rfl, Nat.le_of_ble_eq_true rfl⟩ (fun H locs I => ?_)
        refine kx_imul 71 C dX6_rankOf_71 ?_
        refine kx_iadd 72 C dX6_rankOf_72 ?_
        obtain ⟨x20, e21, hf⟩ := nmx_e hf
        refine kx_istore_n 73 C (lv' := [(1, .int (iI x20)), (0, .ref (xB G + p0)), (2, .int (iI i1)), (3, .int (iI i2)), (4, .int (iI i3))]) dX6_rankOf_73 hl (by decide) e21 rfl (fun ls hl => ?_)
        obtain ⟨x22, e23, hf⟩ := nmx_e hf
        refine kx_iinc 74 C (lv' := [(2, .int (iI x22)), (1, .int (iI x20)), (0, .ref (xB G + p0)), (3, .int (iI i2)), (4, .int (iI i3))]) dX6_rankOf_74 hl 2 rfl e23 (by decide) rfl (fun ls hl => ?_)
        refine kx_goto 77 4 C dX6_rankOf_77 (by decide) ?_
        exact ih1 _ _ _ _ _ _ _ _ _ _ hf I (lv_sub hl [2, 1, 0] rfl)
      · have hf := ifn c12 hf
        refine kx_iload_n 28 C dX6_rankOf_28 (lv_at hl 3 rfl) ?_
        refine kx_aload_n 29 C dX6_rankOf_29 (lv_at hl 0 rfl) ?_
        obtain ⟨q25, h24, hf⟩ := ob hf
        refine kx_getp 30 C I fl_X6_rankOf_27 h24 dX6_rankOf_30 ?_
        refine kx_iload 33 C dX6_rankOf_33 (lv_at hl 4 rfl) ?_
        obtain ⟨x26, h27, hf⟩ := ob hf
        refine kx_iald 35 C I h27 dX6_rankOf_35 ?_
        refine kx_aload_n 36 C dX6_rankOf_36 (lv_at hl 0 rfl) ?_
        obtain ⟨q29, h28, hf⟩ := ob hf
        refine kx_getp 37 C I fl_X6_rankOf_27 h28 dX6_rankOf_37 ?_
        refine kx_iload_n 40 C dX6_rankOf_40 (lv_at hl 2 rfl) ?_
        obtain ⟨x30, h31, hf⟩ := ob hf
        refine kx_iald 41 C I h31 dX6_rankOf_41 ?_
        refine kx_icmp_ge 42 49 C dX6_rankOf_42 (by decide) (fun c32 => ?_) (fun c32 => ?_)
        · have hf := ifp c32 hf
          refine kx_iconst 49 C dX6_rankOf_49 ?_
          exact ih3 _ _ _ _ _ _ _ _ _ _ hf I (lv_sub hl [0, 1, 2, 4] rfl)
        · have hf := ifn c32 hf
          refine kx_iconst 45 C dX6_rankOf_45 ?_
          refine kx_goto 46 50 C dX6_rankOf_46 (by decide) ?_
          exact ih3 _ _ _ _ _ _ _ _ _ _ hf I (lv_sub hl [0, 1, 2, 4] rfl)
    · intro S p0 i0 i1 i2 i3 i4 H locs ls hf I hl
      replace hf : b_X6_rankOf_3 (g_X6_rankOf fu) fu S p0 i0 i1 i2 i3 i4 = some (r, S') := hf
      unfold b_X6_rankOf_3 at hf
      refine kx_iadd 50 C dX6_rankOf_50 ?_
      obtain ⟨x33, e34, hf⟩ := nmx_e hf
      refine kx_istore_n 51 C (lv' := [(3, .int (iI x33)), (0, .ref (xB G + p0)), (1, .int (iI i0)), (2, .int (iI i1)), (4, .int (iI i2))]) dX6_rankOf_51 hl (by decide) e34 rfl (fun ls hl => ?_)
      obtain ⟨x35, e36, hf⟩ := nmx_e hf
      refine kx_iinc 52 C (lv' := [(4, .int (iI x35)), (3, .int (iI x33)), (0, .ref (xB G + p0)), (1, .int (iI i0)), (2, .int (iI i1))]) dX6_rankOf_52 hl 4 rfl e36 (by decide) rfl (fun ls hl => ?_)
      refine kx_goto 55 19 C dX6_rankOf_55 (by decide) ?_
      exact ih2 _ _ _ _ _ _ _ _ _ _ hf I (lv_sub hl [2, 3, 4, 1, 0] rfl)
set_option maxHeartbeats 4000000 in
set_option maxRecDepth 100000 in
theorem c_X6_rankOf (G : xG) (l : Launch) (fu : Nat) (S S' : xS) (p0 : Nat) (r : Int) (hf : f_X6_rankOf fu S p0 = some (r, S')) : Met l yX6_rankOf vsX6_rankOf rm_X6_rankOf (va_Pc [.ref (xB G + p0)] (xPre G S)) (xQi G r S') 0 0 (xA G) := by
  refine kx_met (ret := (some .int)) RX6 [(0, .ref (xB G + p0))] (by decide) rfl rfl (Nat.le_of_ble_eq_true rfl) rfl (fun p e s m below meth c ls C hin I hl => ?_)
  exact (w_X6_rankOf C r S' fu).1 S _ _ _ _ _ _ _ _ _ hf I hl
def rm_X6_takeRank : Room := { frames := 1, cells := 0, slots := 0, locals := 22 }
theorem hin_X6_takeRank_RX6 : ∀ w ∈ wsX60, w ∈ vsX6_takeRank := fun w h => inM (inlX6 w h)
theorem fl_X6_takeRank_27 : xFl vsX6_takeRank RX6 27 5 6 := ⟨RX6, TX6, 30, rfl, by decide, hin_X6_takeRank_RX6, inM mq_4_22, rfl⟩
theorem nyS_X6_takeRank : yX6_takeRank.cls ≠ "java/lang/invoke/MethodHandle" ∧ yX6_takeRank.cls ≠ "java/lang/invoke/VarHandle" ∧ (parseMethodDescriptor yX6_takeRank.desc).map (fun d => d.parameters.length) = some 1 := by decide +kernel
theorem nyV_X6_takeRank : yX6_takeRank.cls = RX6 ∧ yX6_takeRank.cls ≠ "java/lang/invoke/MethodHandle" ∧ yX6_takeRank.cls ≠ "java/lang/invoke/VarHandle" ∧ (parseMethodDescriptor yX6_takeRank.desc).map (fun d => d.parameters.length) = some 1 := by decide +kernel
set_option maxHeartbeats 4000000 in
set_option maxRecDepth 100000 in
theorem w_X6_takeRank {G : xG} {p : Program} {l : Launch} {e : Env} {s : State} {m : MethodId} {args : Array Value} {below : List Frame} {meth : Method} {c : Code} (C : xK G p s m args meth c cX6_takeRank 8 vsX6_takeRank RX6 none) (r : Int) (S' : xS) : ∀ k : Nat,
  (∀ (S : xS) (p0 : Nat) (i0 i1 i2 i3 i4 i5 : Int) (H : Heap) (locs : List Loc) (ls : Array Slot), g_X6_takeRank k 0 S p0 i0 i1 i2 i3 i4 i5 = some (r, S') → xI G S s H locs → lv_has ls 8 [(0, .ref (xB G + p0)), (1, .int (iI i0))] → W p l e rm_X6_takeRank s m args below meth c H locs 0 0 (MQ below (xQv G S') args s 0 0 (xA G)) (F0 m 0 ls [])) ∧
  (∀ (S : xS) (p0 : Nat) (i0 i1 i2 i3 i4 i5 : Int) (H : Heap) (locs : List Loc) (ls : Array Slot), g_X6_takeRank k 1 S p0 i0 i1 i2 i3 i4 i5 = some (r, S') → xI G S s H locs → lv_has ls 8 [(0, .ref (xB G + p0)), (2, .int (iI i0)), (3, .int (iI i1)), (4, .int (iI i2))] → W p l e rm_X6_takeRank s m args below meth c H locs 0 0 (MQ below (xQv G S') args s 0 0 (xA G)) (F0 m 7 ls [])) ∧
  (∀ (S : xS) (p0 : Nat) (i0 i1 i2 i3 i4 i5 : Int) (H : Heap) (locs : List Loc) (ls : Array Slot), g_X6_takeRank k 2 S p0 i0 i1 i2 i3 i4 i5 = some (r, S') → xI G S s H locs → lv_has ls 8 [(0, .ref (xB G + p0)), (2, .int (iI i0)), (3, .int (iI i1)), (4, .int (iI i2)), (6, .int (iI i3)), (7, .int (iI i4))] → W p l e rm_X6_takeRank s m args below meth c H locs 0 0 (MQ below (xQv G S') args s 0 0 (xA G)) (F0 m 44 ls [])) ∧
  (∀ (S : xS) (p0 : Nat) (i0 i1 i2 i3 i4 i5 : Int) (H : Heap) (locs : List Loc) (ls : Array Slot), g_X6_takeRank k 3 S p0 i0 i1 i2 i3 i4 i5 = some (r, S') → xI G S s H locs → lv_has ls 8 [(0, .ref (xB G + p0)), (2, .int (iI i0)), (3, .int (iI i1)), (4, .int (iI i2)), (6, .int (iI i3)), (7, .int (iI i4))] → W p l e rm_X6_takeRank s m args below meth c H locs 0 0 (MQ below (xQv G S') args s 0 0 (xA G)) (F0 m 59 ls [])) ∧
  (∀ (S : xS) (p0 : Nat) (i0 i1 i2 i3 i4 i5 : Int) (H : Heap) (locs : List Loc) (ls : Array Slot), g_X6_takeRank k 4 S p0 i0 i1 i2 i3 i4 i5 = some (r, S') → xI G S s H locs → lv_has ls 8 [(0, .ref (xB G + p0)), (2, .int (iI i0)), (3, .int (iI i1)), (4, .int (iI i2)), (7, .int (iI i3))] → W p l e rm_X6_takeRank s m args below meth c H locs 0 0 (MQ below (xQv G S') args s 0 0 (xA G)) (F0 m 75 ls [.int (iI i5), .int (iI i4)])) := by
  intro k
  induction k with
  | zero => exact ⟨fun _ _ _ _ _ _ _ _ _ _ _ hf => (by cases hf), fun _ _ _ _ _ _ _ _ _ _ _ hf => (by cases hf), fun _ _ _ _ _ _ _ _ _ _ _ hf => (by cases hf), fun _ _ _ _ _ _ _ _ _ _ _ hf => (by cases hf), fun _ _ _ _ _ _ _ _ _ _ _ hf => (by cases hf)⟩
  | succ fu ih =>
    obtain ⟨ih0, ih1, ih2, ih3, ih4⟩ := ih
    refine ⟨?_, ?_, ?_, ?_, ?_⟩
    · intro S p0 i0 i1 i2 i3 i4 i5 H locs ls hf I hl
      replace hf : b_X6_takeRank_0 (g_X6_takeRank fu) fu S p0 i0 i1 i2 i3 i4 i5 = some (r, S') := hf
      unfold b_X6_takeRank_0 at hf
      refine kx_iconst 0 C dX6_takeRank_0 ?_
      refine kx_istore_n 1 C (lv' := [(2, .int (iI 0)), (0, .ref (xB G + p0)), (1, .int (iI i0))]) dX6_takeRank_1 hl (by decide) rfl rfl (fun ls hl => ?_)
      refine kx_iload_n 2 C dX6_takeRank_2 (lv_at hl 2 rfl) ?_
      refine kx_istore_n 3 C (lv' := [(3, .int (iI i0)), (2, .int (iI 0)), (0, .ref (xB G + p0)), (1, .int (iI i0))]) dX6_takeRank_3 hl (by decide) rfl rfl (fun ls hl => ?_)
      refine kx_iconst 4 C dX6_takeRank_4 ?_
      refine kx_istore 5 C (lv' := [(4, .int (iI 0)), (3, .int (iI i0)), (2, .int (iI 0)), (0, .ref (xB G + p0)), (1, .int (iI i0))]) dX6_takeRank_5 hl (by decide) rfl rfl (fun ls hl => ?_)
      exact ih1 _ _ _ _ _ _ _ _ _ _ _ hf I (lv_sub hl [3, 2, 1, 0] rfl)
    · intro S p0 i0 i1 i2 i3 i4 i5 H locs ls hf I hl
      replace hf : b_X6_takeRank_1 (g_X6_takeRank fu) fu S p0 i0 i1 i2 i3 i4 i5 = some (r, S') := hf
      unfold b_X6_takeRank_1 at hf
      refine kx_iload 7 C dX6_takeRank_7 (lv_at hl 3 rfl) ?_
      refine kx_aload_n 9 C dX6_takeRank_9 (lv_at hl 0 rfl) ?_
      obtain ⟨h4, hf⟩ := ift hf
      obtain ⟨x3, S1, h2, hf⟩ := ob2 hf
      refine kx_callVi 10 C hl I (ci := 5) (As := []) (rest := [.int (iI i2)]) (c_X6_n G l fu _ _ _ _ h2) (cwV 0 C.ts gX6_takeRank_X6_n rfl rfl rfl nyV_X6_n ⟨Nat.le_of_ble_eq_true rfl, Nat.le_of_ble_eq_true rfl⟩) rfl h4 rfl rfl (Nat.le_of_ble_eq_true rfl) dX6_takeRank_10 ⟨Nat.le_of_ble_eq_true rfl, Nat.le_of_ble_eq_true rfl⟩ (fun H locs I => ?_)
      refine kx_icmp_ge 13 106 C dX6_takeRank_13 (by decide) (fun c5 => ?_) (fun c5 => ?_)
      · have hf := ifp c5 hf
        exact kx_vret 106 C I hf dX6_takeRank_106
      · have hf := ifn c5 hf
        refine kx_aload_n 16 C dX6_takeRank_16 (lv_at hl 0 rfl) ?_
        obtain ⟨h9, hf⟩ := ift hf
        obtain ⟨x8, S6, h7, hf⟩ := ob2 hf
        refine kx_callVi 17 C hl I (ci := 5) (As := []) (rest := []) (c_X6_n G l fu _ _ _ _ h7) (cwV 0 C.ts gX6_takeRank_X6_n rfl rfl rfl nyV_X6_n ⟨Nat.le_of_ble_eq_true rfl, Nat.le_of_ble_eq_true rfl⟩) rfl h9 rfl rfl (Nat.le_of_ble_eq_true rfl) dX6_takeRank_17 ⟨Nat.le_of_ble_eq_true rfl, Nat.le_of_ble_eq_true rfl⟩ (fun H locs I => ?_)
        refine kx_iconst 20 C dX6_takeRank_20 ?_
        refine kx_isub 21 C dX6_takeRank_21 ?_
        refine kx_iload 22 C dX6_takeRank_22 (lv_at hl 3 rfl) ?_
        refine kx_isub 24 C dX6_takeRank_24 ?_
        obtain ⟨x12, S10, h11, hf⟩ := ob2 hf
        refine kx_callSi 25 C hl I (As := [.int (iI ((x8 - 1) - i2))]) (rest := []) (c_X6_factorial G l fu _ _ _ _ h11) (va_cwS 1 C.ts gX6_takeRank_X6_factorial rfl rfl rfl nyS_X6_factorial ⟨Nat.le_of_ble_eq_true rfl, Nat.le_of_ble_eq_true rfl⟩) rfl rfl (Nat.le_of_ble_eq_true rfl) dX6_takeRank_25 ⟨Nat.le_of_ble_eq_true rfl, Nat.le_of_ble_eq_true rfl⟩ (fun H locs I => ?_)
        refine kx_istore 28 C (lv' := [(5, .int (iI x12)), (0, .ref (xB G + p0)), (2, .int (iI i0)), (3, .int (iI i1)), (4, .int (iI i2))]) dX6_takeRank_28 hl (by decide) rfl rfl (fun ls hl => ?_)
        refine kx_iload_n 30 C dX6_takeRank_30 (lv_at hl 3 rfl) ?_
        refine kx_iload 31 C dX6_takeRank_31 (lv_at hl 0 rfl) ?_
        obtain ⟨h13, hf⟩ := ifz hf
        refine kx_idiv 33 C dX6_takeRank_33 h13 ?_
        obtain ⟨x14, e15, hf⟩ := nmx_e hf
        refine kx_istore 34 C (lv' := [(6, .int (iI x14)), (5, .int (iI x12)), (0, .ref (xB G + p0)), (2, .int (iI i0)), (3, .int (iI i1)), (4, .int (iI i2))]) dX6_takeRank_34 hl (by decide) e15 rfl (fun ls hl => ?_)
        refine kx_iload_n 36 C dX6_takeRank_36 (lv_at hl 4 rfl) ?_
        refine kx_iload 37 C dX6_takeRank_37 (lv_at hl 1 rfl) ?_
        obtain ⟨h16, hf⟩ := ifz hf
        refine kx_irem 39 C dX6_takeRank_39 h16 ?_
        obtain ⟨x17, e18, hf⟩ := nmx_e hf
        refine kx_istore_n 40 C (lv' := [(3, .int (iI x17)), (6, .int (iI x14)), (5, .int (iI x12)), (0, .ref (xB G + p0)), (2, .int (iI i0)), (4, .int (iI i2))]) dX6_takeRank_40 hl (by decide) e18 rfl (fun ls hl => ?_)
        refine kx_iconst 41 C dX6_takeRank_41 ?_
        refine kx_istore 42 C (lv' := [(7, .int (iI 0)), (3, .int (iI x17)), (6, .int (iI x14)), (5, .int (iI x12)), (0, .ref (xB G + p0)), (2, .int (iI i0)), (4, .int (iI i2))]) dX6_takeRank_42 hl (by decide) rfl rfl (fun ls hl => ?_)
        exact ih2 _ _ _ _ _ _ _ _ _ _ _ hf I (lv_sub hl [4, 5, 1, 6, 2, 0] rfl)
    · intro S p0 i0 i1 i2 i3 i4 i5 H locs ls hf I hl
      replace hf : b_X6_takeRank_2 (g_X6_takeRank fu) fu S p0 i0 i1 i2 i3 i4 i5 = some (r, S') := hf
      unfold b_X6_takeRank_2 at hf
      refine kx_iload_n 44 C dX6_takeRank_44 (lv_at hl 1 rfl) ?_
      refine kx_iload 45 C dX6_takeRank_45 (lv_at hl 5 rfl) ?_
      refine kx_ishr 47 C dX6_takeRank_47 ?_
      refine kx_iconst 48 C dX6_takeRank_48 ?_
      refine kx_iand 49 C dX6_takeRank_49 ?_
      refine kx_iconst 50 C dX6_takeRank_50 ?_
      refine kx_icmp_eq 51 59 C dX6_takeRank_51 (by decide) (fun c19 => ?_) (fun c19 => ?_)
      · have hf := ifp c19 hf
        exact ih3 _ _ _ _ _ _ _ _ _ _ _ hf I (lv_sub hl [0, 1, 2, 3, 4, 5] rfl)
      · have hf := ifn c19 hf
        refine kx_iload 54 C dX6_takeRank_54 (lv_at hl 4 rfl) ?_
        refine kx_if_le 56 84 C dX6_takeRank_56 (by decide) (fun c20 => ?_) (fun c20 => ?_)
        · have hf := ifp c20 hf
          refine kx_aload_n 84 C dX6_takeRank_84 (lv_at hl 0 rfl) ?_
          obtain ⟨q22, h21, hf⟩ := ob hf
          refine kx_getp 85 C I fl_X6_takeRank_27 h21 dX6_takeRank_85 ?_
          refine kx_iload 88 C dX6_takeRank_88 (lv_at hl 3 rfl) ?_
          refine kx_iload 90 C dX6_takeRank_90 (lv_at hl 5 rfl) ?_
          obtain ⟨S24, h23, hf⟩ := ob hf
          refine kx_iast 92 C I h23 dX6_takeRank_92 (fun H locs I => ?_)
          refine kx_iload_n 93 C dX6_takeRank_93 (lv_at hl 1 rfl) ?_
          refine kx_iconst 94 C dX6_takeRank_94 ?_
          refine kx_iload 95 C dX6_takeRank_95 (lv_at hl 5 rfl) ?_
          refine kx_ishl 97 C dX6_takeRank_97 ?_
          refine kx_ior 98 C dX6_takeRank_98 ?_
          obtain ⟨x25, e26, hf⟩ := nmx_e hf
          refine kx_istore_n 99 C (lv' := [(2, .int (iI x25)), (0, .ref (xB G + p0)), (3, .int (iI i1)), (4, .int (iI i2)), (6, .int (iI i3)), (7, .int (iI i4))]) dX6_takeRank_99 hl (by decide) e26 rfl (fun ls hl => ?_)
          obtain ⟨x27, e28, hf⟩ := nmx_e hf
          refine kx_iinc 100 C (lv' := [(4, .int (iI x27)), (2, .int (iI x25)), (0, .ref (xB G + p0)), (3, .int (iI i1)), (6, .int (iI i3)), (7, .int (iI i4))]) dX6_takeRank_100 hl 3 rfl e28 (by decide) rfl (fun ls hl => ?_)
          refine kx_goto 103 7 C dX6_takeRank_103 (by decide) ?_
          exact ih1 _ _ _ _ _ _ _ _ _ _ _ hf I (lv_sub hl [2, 1, 3, 0] rfl)
        · have hf := ifn c20 hf
          exact ih3 _ _ _ _ _ _ _ _ _ _ _ hf I (lv_sub hl [0, 1, 2, 3, 4, 5] rfl)
    · intro S p0 i0 i1 i2 i3 i4 i5 H locs ls hf I hl
      replace hf : b_X6_takeRank_3 (g_X6_takeRank fu) fu S p0 i0 i1 i2 i3 i4 i5 = some (r, S') := hf
      unfold b_X6_takeRank_3 at hf
      refine kx_iload 59 C dX6_takeRank_59 (lv_at hl 4 rfl) ?_
      refine kx_iload_n 61 C dX6_takeRank_61 (lv_at hl 1 rfl) ?_
      refine kx_iload 62 C dX6_takeRank_62 (lv_at hl 5 rfl) ?_
      refine kx_ishr 64 C dX6_takeRank_64 ?_
      refine kx_iconst 65 C dX6_takeRank_65 ?_
      refine kx_iand 66 C dX6_takeRank_66 ?_
      refine kx_if_ne 67 74 C dX6_takeRank_67 (by decide) (fun c29 => ?_) (fun c29 => ?_)
      · have hf := ifn c29 hf
        refine kx_iconst 74 C dX6_takeRank_74 ?_
        exact ih4 _ _ _ _ _ _ _ _ _ _ _ hf I (lv_sub hl [0, 1, 2, 3, 5] rfl)
      · have hf := ifp c29 hf
        refine kx_iconst 70 C dX6_takeRank_70 ?_
        refine kx_goto 71 75 C dX6_takeRank_71 (by decide) ?_
        exact ih4 _ _ _ _ _ _ _ _ _ _ _ hf I (lv_sub hl [0, 1, 2, 3, 5] rfl)
    · intro S p0 i0 i1 i2 i3 i4 i5 H locs ls hf I hl
      replace hf : b_X6_takeRank_4 (g_X6_takeRank fu) fu S p0 i0 i1 i2 i3 i4 i5 = some (r, S') := hf
      unfold b_X6_takeRank_4 at hf
      refine kx_isub 75 C dX6_takeRank_75 ?_
      obtain ⟨x30, e31, hf⟩ := nmx_e hf
      refine kx_istore 76 C (lv' := [(6, .int (iI x30)), (0, .ref (xB G + p0)), (2, .int (iI i0)), (3, .int (iI i1)), (4, .int (iI i2)), (7, .int (iI i3))]) dX6_takeRank_76 hl (by decide) e31 rfl (fun ls hl => ?_)
      obtain ⟨x32, e33, hf⟩ := nmx_e hf
      refine kx_iinc 78 C (lv' := [(7, .int (iI x32)), (6, .int (iI x30)), (0, .ref (xB G + p0)), (2, .int (iI i0)), (3, .int (iI i1)), (4, .int (iI i2))]) dX6_takeRank_78 hl 5 rfl e33 (by decide) rfl (fun ls hl => ?_)
      refine kx_goto 81 44 C dX6_takeRank_81 (by decide) ?_
      exact ih2 _ _ _ _ _ _ _ _ _ _ _ hf I (lv_sub hl [2, 3, 4, 5, 1, 0] rfl)
set_option maxHeartbeats 4000000 in
set_option maxRecDepth 100000 in
theorem c_X6_takeRank (G : xG) (l : Launch) (fu : Nat) (S S' : xS) (p0 : Nat) (i0 : Int) (r : Int) (hf : f_X6_takeRank fu S p0 i0 = some (r, S')) : Met l yX6_takeRank vsX6_takeRank rm_X6_takeRank (va_Pc [.ref (xB G + p0), .int (iI i0)] (xPre G S)) (xQv G S') 0 0 (xA G) := by
  refine kx_met (ret := none) RX6 [(0, .ref (xB G + p0)), (1, .int (iI i0))] (by decide) rfl rfl (Nat.le_of_ble_eq_true rfl) rfl (fun p e s m below meth c ls C hin I hl => ?_)
  exact (w_X6_takeRank C r S' fu).1 S _ _ _ _ _ _ _ _ _ _ hf I hl
def rm_X6_rankNow : Room := { frames := 2, cells := 0, slots := 0, locals := 46 }
theorem nyS_X6_rankNow : yX6_rankNow.cls ≠ "java/lang/invoke/MethodHandle" ∧ yX6_rankNow.cls ≠ "java/lang/invoke/VarHandle" ∧ (parseMethodDescriptor yX6_rankNow.desc).map (fun d => d.parameters.length) = some 0 := by decide +kernel
theorem nyV_X6_rankNow : yX6_rankNow.cls = RX6 ∧ yX6_rankNow.cls ≠ "java/lang/invoke/MethodHandle" ∧ yX6_rankNow.cls ≠ "java/lang/invoke/VarHandle" ∧ (parseMethodDescriptor yX6_rankNow.desc).map (fun d => d.parameters.length) = some 0 := by decide +kernel
set_option maxHeartbeats 4000000 in
set_option maxRecDepth 100000 in
theorem c_X6_rankNow (G : xG) (l : Launch) (fu : Nat) (S S' : xS) (p0 : Nat) (r : Int) (hf : f_X6_rankNow fu S p0 = some (r, S')) : Met l yX6_rankNow vsX6_rankNow rm_X6_rankNow (va_Pc [.ref (xB G + p0)] (xPre G S)) (xQi G r S') 0 0 (xA G) := by
  refine kx_met (ret := (some .int)) RX6 [(0, .ref (xB G + p0))] (by decide) rfl rfl (Nat.le_of_ble_eq_true rfl) rfl (fun p e s m below meth c ls C hin I hl => ?_)
  unfold f_X6_rankNow at hf
  refine kx_aload_n 0 C dX6_rankNow_0 (lv_at hl 0 rfl) ?_
  obtain ⟨h4, hf⟩ := ift hf
  obtain ⟨z3, S1, h2, hf⟩ := ob2 hf
  refine kx_callVv 1 C hl I (ci := 5) (As := []) (rest := []) (c_X6_takeNow G l fu _ _ _ _ h2) (cwV 0 C.ts gX6_rankNow_X6_takeNow rfl rfl rfl nyV_X6_takeNow ⟨Nat.le_of_ble_eq_true rfl, Nat.le_of_ble_eq_true rfl⟩) rfl h4 rfl rfl (Nat.le_of_ble_eq_true rfl) dX6_rankNow_1 ⟨Nat.le_of_ble_eq_true rfl, Nat.le_of_ble_eq_true rfl⟩ (fun H locs I => ?_)
  refine kx_aload_n 4 C dX6_rankNow_4 (lv_at hl 0 rfl) ?_
  obtain ⟨h8, hf⟩ := ift hf
  obtain ⟨x7, S5, h6, hf⟩ := ob2 hf
  refine kx_callVi 5 C hl I (ci := 5) (As := []) (rest := []) (c_X6_rankOf G l fu _ _ _ _ h6) (cwV 0 C.ts gX6_rankNow_X6_rankOf rfl rfl rfl nyV_X6_rankOf ⟨Nat.le_of_ble_eq_true rfl, Nat.le_of_ble_eq_true rfl⟩) rfl h8 rfl rfl (Nat.le_of_ble_eq_true rfl) dX6_rankNow_5 ⟨Nat.le_of_ble_eq_true rfl, Nat.le_of_ble_eq_true rfl⟩ (fun H locs I => ?_)
  exact kx_iret 8 C I hf dX6_rankNow_8
def rm_X6_putWay : Room := { frames := 1, cells := 0, slots := 0, locals := 20 }
theorem hin_X6_putWay_RX6 : ∀ w ∈ wsX60, w ∈ vsX6_putWay := fun w h => inM (inlX6 w h)
theorem fl_X6_putWay_7 : xFl vsX6_putWay RX6 7 5 0 := ⟨RX6, TX6, 30, rfl, by decide, hin_X6_putWay_RX6, inM mq_4_16, rfl⟩
theorem fl_X6_putWay_27 : xFl vsX6_putWay RX6 27 5 6 := ⟨RX6, TX6, 30, rfl, by decide, hin_X6_putWay_RX6, inM mq_4_22, rfl⟩
theorem fl_X6_putWay_106 : xFl vsX6_putWay RX6 106 5 7 := ⟨RX6, TX6, 30, rfl, by decide, hin_X6_putWay_RX6, inM mq_9_13, rfl⟩
theorem nyS_X6_putWay : yX6_putWay.cls ≠ "java/lang/invoke/MethodHandle" ∧ yX6_putWay.cls ≠ "java/lang/invoke/VarHandle" ∧ (parseMethodDescriptor yX6_putWay.desc).map (fun d => d.parameters.length) = some 0 := by decide +kernel
theorem nyV_X6_putWay : yX6_putWay.cls = RX6 ∧ yX6_putWay.cls ≠ "java/lang/invoke/MethodHandle" ∧ yX6_putWay.cls ≠ "java/lang/invoke/VarHandle" ∧ (parseMethodDescriptor yX6_putWay.desc).map (fun d => d.parameters.length) = some 0 := by decide +kernel
set_option maxHeartbeats 4000000 in
set_option maxRecDepth 100000 in
theorem w_X6_putWay {G : xG} {p : Program} {l : Launch} {e : Env} {s : State} {m : MethodId} {args : Array Value} {below : List Frame} {meth : Method} {c : Code} (C : xK G p s m args meth c cX6_putWay 2 vsX6_putWay RX6 none) (r : Int) (S' : xS) : ∀ k : Nat,
  (∀ (S : xS) (p0 : Nat) (i0 : Int) (H : Heap) (locs : List Loc) (ls : Array Slot), g_X6_putWay k 0 S p0 i0 = some (r, S') → xI G S s H locs → lv_has ls 2 [(0, .ref (xB G + p0))] → W p l e rm_X6_putWay s m args below meth c H locs 0 0 (MQ below (xQv G S') args s 0 0 (xA G)) (F0 m 0 ls [])) ∧
  (∀ (S : xS) (p0 : Nat) (i0 : Int) (H : Heap) (locs : List Loc) (ls : Array Slot), g_X6_putWay k 1 S p0 i0 = some (r, S') → xI G S s H locs → lv_has ls 2 [(0, .ref (xB G + p0)), (1, .int (iI i0))] → W p l e rm_X6_putWay s m args below meth c H locs 0 0 (MQ below (xQv G S') args s 0 0 (xA G)) (F0 m 14 ls [])) ∧
  (∀ (S : xS) (p0 : Nat) (i0 : Int) (H : Heap) (locs : List Loc) (ls : Array Slot), g_X6_putWay k 2 S p0 i0 = some (r, S') → xI G S s H locs → lv_has ls 2 [(0, .ref (xB G + p0))] → W p l e rm_X6_putWay s m args below meth c H locs 0 0 (MQ below (xQv G S') args s 0 0 (xA G)) (F0 m 55 ls [])) ∧
  (∀ (S : xS) (p0 : Nat) (i0 : Int) (H : Heap) (locs : List Loc) (ls : Array Slot), g_X6_putWay k 3 S p0 i0 = some (r, S') → xI G S s H locs → lv_has ls 2 [(0, .ref (xB G + p0)), (1, .int (iI i0))] → W p l e rm_X6_putWay s m args below meth c H locs 0 0 (MQ below (xQv G S') args s 0 0 (xA G)) (F0 m 87 ls [])) := by
  intro k
  induction k with
  | zero => exact ⟨fun _ _ _ _ _ _ hf => (by cases hf), fun _ _ _ _ _ _ hf => (by cases hf), fun _ _ _ _ _ _ hf => (by cases hf), fun _ _ _ _ _ _ hf => (by cases hf)⟩
  | succ fu ih =>
    obtain ⟨ih0, ih1, ih2, ih3⟩ := ih
    refine ⟨?_, ?_, ?_, ?_⟩
    · intro S p0 i0 H locs ls hf I hl
      replace hf : b_X6_putWay_0 (g_X6_putWay fu) fu S p0 i0 = some (r, S') := hf
      unfold b_X6_putWay_0 at hf
      refine kx_aload_n 0 C dX6_putWay_0 (lv_at hl 0 rfl) ?_
      obtain ⟨q2, h1, hf⟩ := ob hf
      refine kx_getp 1 C I fl_X6_putWay_7 h1 dX6_putWay_1 ?_
      refine kx_bipush 4 C dX6_putWay_4 (by decide) ?_
      obtain ⟨x3, h4, hf⟩ := ob hf
      refine kx_iald 6 C I h4 dX6_putWay_6 ?_
      refine kx_bipush 7 C dX6_putWay_7 (by decide) ?_
      refine kx_icmp_ne 9 55 C dX6_putWay_9 (by decide) (fun c5 => ?_) (fun c5 => ?_)
      · have hf := ifn c5 hf
        exact ih2 _ _ _ _ _ _ hf I (lv_sub hl [0] rfl)
      · have hf := ifp c5 hf
        refine kx_iconst 12 C dX6_putWay_12 ?_
        refine kx_istore_n 13 C (lv' := [(1, .int (iI 0)), (0, .ref (xB G + p0))]) dX6_putWay_13 hl (by decide) rfl rfl (fun ls hl => ?_)
        exact ih1 _ _ _ _ _ _ hf I (lv_sub hl [1, 0] rfl)
    · intro S p0 i0 H locs ls hf I hl
      replace hf : b_X6_putWay_1 (g_X6_putWay fu) fu S p0 i0 = some (r, S') := hf
      unfold b_X6_putWay_1 at hf
      refine kx_iload_n 14 C dX6_putWay_14 (lv_at hl 1 rfl) ?_
      refine kx_bipush 15 C dX6_putWay_15 (by decide) ?_
      refine kx_icmp_ge 17 46 C dX6_putWay_17 (by decide) (fun c6 => ?_) (fun c6 => ?_)
      · have hf := ifp c6 hf
        refine kx_aload_n 46 C dX6_putWay_46 (lv_at hl 0 rfl) ?_
        obtain ⟨q8, h7, hf⟩ := ob hf
        refine kx_getp 47 C I fl_X6_putWay_7 h7 dX6_putWay_47 ?_
        refine kx_bipush 50 C dX6_putWay_50 (by decide) ?_
        refine kx_bipush 52 C dX6_putWay_52 (by decide) ?_
        obtain ⟨S10, h9, hf⟩ := ob hf
        refine kx_iast 54 C I h9 dX6_putWay_54 (fun H locs I => ?_)
        exact ih2 _ _ _ _ _ _ hf I (lv_sub hl [0] rfl)
      · have hf := ifn c6 hf
        refine kx_aload_n 20 C dX6_putWay_20 (lv_at hl 0 rfl) ?_
        obtain ⟨q12, h11, hf⟩ := ob hf
        refine kx_getp 21 C I fl_X6_putWay_7 h11 dX6_putWay_21 ?_
        refine kx_bipush 24 C dX6_putWay_24 (by decide) ?_
        refine kx_iload_n 26 C dX6_putWay_26 (lv_at hl 1 rfl) ?_
        refine kx_iadd 27 C dX6_putWay_27 ?_
        refine kx_aload_n 28 C dX6_putWay_28 (lv_at hl 0 rfl) ?_
        obtain ⟨q14, h13, hf⟩ := ob hf
        refine kx_getp 29 C I fl_X6_putWay_7 h13 dX6_putWay_29 ?_
        refine kx_bipush 32 C dX6_putWay_32 (by decide) ?_
        refine kx_iload_n 34 C dX6_putWay_34 (lv_at hl 1 rfl) ?_
        refine kx_iadd 35 C dX6_putWay_35 ?_
        refine kx_iconst 36 C dX6_putWay_36 ?_
        refine kx_iadd 37 C dX6_putWay_37 ?_
        obtain ⟨x15, h16, hf⟩ := ob hf
        refine kx_iald 38 C I h16 dX6_putWay_38 ?_
        obtain ⟨S18, h17, hf⟩ := ob hf
        refine kx_iast 39 C I h17 dX6_putWay_39 (fun H locs I => ?_)
        obtain ⟨x19, e20, hf⟩ := nmx_e hf
        refine kx_iinc 40 C (lv' := [(1, .int (iI x19)), (0, .ref (xB G + p0))]) dX6_putWay_40 hl 1 rfl e20 (by decide) rfl (fun ls hl => ?_)
        refine kx_goto 43 14 C dX6_putWay_43 (by decide) ?_
        exact ih1 _ _ _ _ _ _ hf I (lv_sub hl [1, 0] rfl)
    · intro S p0 i0 H locs ls hf I hl
      replace hf : b_X6_putWay_2 (g_X6_putWay fu) fu S p0 i0 = some (r, S') := hf
      unfold b_X6_putWay_2 at hf
      refine kx_aload_n 55 C dX6_putWay_55 (lv_at hl 0 rfl) ?_
      obtain ⟨q22, h21, hf⟩ := ob hf
      refine kx_getp 56 C I fl_X6_putWay_7 h21 dX6_putWay_56 ?_
      refine kx_bipush 59 C dX6_putWay_59 (by decide) ?_
      refine kx_aload_n 61 C dX6_putWay_61 (lv_at hl 0 rfl) ?_
      obtain ⟨q24, h23, hf⟩ := ob hf
      refine kx_getp 62 C I fl_X6_putWay_7 h23 dX6_putWay_62 ?_
      refine kx_bipush 65 C dX6_putWay_65 (by decide) ?_
      obtain ⟨x25, h26, hf⟩ := ob hf
      refine kx_iald 67 C I h26 dX6_putWay_67 ?_
      refine kx_iadd 68 C dX6_putWay_68 ?_
      refine kx_aload_n 69 C dX6_putWay_69 (lv_at hl 0 rfl) ?_
      obtain ⟨x28, h27, hf⟩ := ob hf
      refine kx_geti 70 C I fl_X6_putWay_106 h27 dX6_putWay_70 ?_
      obtain ⟨S30, h29, hf⟩ := ob hf
      refine kx_iast 73 C I h29 dX6_putWay_73 (fun H locs I => ?_)
      refine kx_aload_n 74 C dX6_putWay_74 (lv_at hl 0 rfl) ?_
      obtain ⟨q32, h31, hf⟩ := ob hf
      refine kx_getp 75 C I fl_X6_putWay_7 h31 dX6_putWay_75 ?_
      refine kx_bipush 78 C dX6_putWay_78 (by decide) ?_
      refine kx_dup2 80 C dX6_putWay_80 rfl rfl ?_
      obtain ⟨x33, h34, hf⟩ := ob hf
      refine kx_iald 81 C I h34 dX6_putWay_81 ?_
      refine kx_iconst 82 C dX6_putWay_82 ?_
      refine kx_iadd 83 C dX6_putWay_83 ?_
      obtain ⟨S36, h35, hf⟩ := ob hf
      refine kx_iast 84 C I h35 dX6_putWay_84 (fun H locs I => ?_)
      refine kx_iconst 85 C dX6_putWay_85 ?_
      refine kx_istore_n 86 C (lv' := [(1, .int (iI 0)), (0, .ref (xB G + p0))]) dX6_putWay_86 hl (by decide) rfl rfl (fun ls hl => ?_)
      exact ih3 _ _ _ _ _ _ hf I (lv_sub hl [1, 0] rfl)
    · intro S p0 i0 H locs ls hf I hl
      replace hf : b_X6_putWay_3 (g_X6_putWay fu) fu S p0 i0 = some (r, S') := hf
      unfold b_X6_putWay_3 at hf
      refine kx_iload_n 87 C dX6_putWay_87 (lv_at hl 1 rfl) ?_
      refine kx_aload_n 88 C dX6_putWay_88 (lv_at hl 0 rfl) ?_
      obtain ⟨h40, hf⟩ := ift hf
      obtain ⟨x39, S37, h38, hf⟩ := ob2 hf
      refine kx_callVi 89 C hl I (ci := 5) (As := []) (rest := [.int (iI i0)]) (c_X6_n G l fu _ _ _ _ h38) (cwV 0 C.ts gX6_putWay_X6_n rfl rfl rfl nyV_X6_n ⟨Nat.le_of_ble_eq_true rfl, Nat.le_of_ble_eq_true rfl⟩) rfl h40 rfl rfl (Nat.le_of_ble_eq_true rfl) dX6_putWay_89 ⟨Nat.le_of_ble_eq_true rfl, Nat.le_of_ble_eq_true rfl⟩ (fun H locs I => ?_)
      refine kx_icmp_ge 92 115 C dX6_putWay_92 (by decide) (fun c41 => ?_) (fun c41 => ?_)
      · have hf := ifp c41 hf
        exact kx_vret 115 C I hf dX6_putWay_115
      · have hf := ifn c41 hf
        refine kx_aload_n 95 C dX6_putWay_95 (lv_at hl 0 rfl) ?_
        obtain ⟨q43, h42, hf⟩ := ob hf
        refine kx_getp 96 C I fl_X6_putWay_7 h42 dX6_putWay_96 ?_
        refine kx_iconst 99 C dX6_putWay_99 ?_
        refine kx_iload_n 100 C dX6_putWay_100 (lv_at hl 1 rfl) ?_
        refine kx_iadd 101 C dX6_putWay_101 ?_
        refine kx_aload_n 102 C dX6_putWay_102 (lv_at hl 0 rfl) ?_
        obtain ⟨q45, h44, hf⟩ := ob hf
        refine kx_getp 103 C I fl_X6_putWay_27 h44 dX6_putWay_103 ?_
        refine kx_iload_n 106 C dX6_putWay_106 (lv_at hl 1 rfl) ?_
        obtain ⟨x46, h47, hf⟩ := ob hf
        refine kx_iald 107 C I h47 dX6_putWay_107 ?_
        obtain ⟨S49, h48, hf⟩ := ob hf
        refine kx_iast 108 C I h48 dX6_putWay_108 (fun H locs I => ?_)
        obtain ⟨x50, e51, hf⟩ := nmx_e hf
        refine kx_iinc 109 C (lv' := [(1, .int (iI x50)), (0, .ref (xB G + p0))]) dX6_putWay_109 hl 1 rfl e51 (by decide) rfl (fun ls hl => ?_)
        refine kx_goto 112 87 C dX6_putWay_112 (by decide) ?_
        exact ih3 _ _ _ _ _ _ hf I (lv_sub hl [1, 0] rfl)
set_option maxHeartbeats 4000000 in
set_option maxRecDepth 100000 in
theorem c_X6_putWay (G : xG) (l : Launch) (fu : Nat) (S S' : xS) (p0 : Nat) (r : Int) (hf : f_X6_putWay fu S p0 = some (r, S')) : Met l yX6_putWay vsX6_putWay rm_X6_putWay (va_Pc [.ref (xB G + p0)] (xPre G S)) (xQv G S') 0 0 (xA G) := by
  refine kx_met (ret := none) RX6 [(0, .ref (xB G + p0))] (by decide) rfl rfl (Nat.le_of_ble_eq_true rfl) rfl (fun p e s m below meth c ls C hin I hl => ?_)
  exact (w_X6_putWay C r S' fu).1 S _ _ _ _ _ hf I hl
def rm_X6_swapHand : Room := { frames := 0, cells := 0, slots := 0, locals := 0 }
theorem hin_X6_swapHand_RX6 : ∀ w ∈ wsX60, w ∈ vsX6_swapHand := fun w h => inM (inlX6 w h)
theorem fl_X6_swapHand_27 : xFl vsX6_swapHand RX6 27 5 6 := ⟨RX6, TX6, 30, rfl, by decide, hin_X6_swapHand_RX6, inM mq_4_22, rfl⟩
theorem nyS_X6_swapHand : yX6_swapHand.cls ≠ "java/lang/invoke/MethodHandle" ∧ yX6_swapHand.cls ≠ "java/lang/invoke/VarHandle" ∧ (parseMethodDescriptor yX6_swapHand.desc).map (fun d => d.parameters.length) = some 2 := by decide +kernel
theorem nyV_X6_swapHand : yX6_swapHand.cls = RX6 ∧ yX6_swapHand.cls ≠ "java/lang/invoke/MethodHandle" ∧ yX6_swapHand.cls ≠ "java/lang/invoke/VarHandle" ∧ (parseMethodDescriptor yX6_swapHand.desc).map (fun d => d.parameters.length) = some 2 := by decide +kernel
set_option maxHeartbeats 4000000 in
set_option maxRecDepth 100000 in
theorem c_X6_swapHand (G : xG) (l : Launch) (fu : Nat) (S S' : xS) (p0 : Nat) (i0 : Int) (i1 : Int) (r : Int) (hf : f_X6_swapHand fu S p0 i0 i1 = some (r, S')) : Met l yX6_swapHand vsX6_swapHand rm_X6_swapHand (va_Pc [.ref (xB G + p0), .int (iI i0), .int (iI i1)] (xPre G S)) (xQv G S') 0 0 (xA G) := by
  refine kx_met (ret := none) RX6 [(0, .ref (xB G + p0)), (1, .int (iI i0)), (2, .int (iI i1))] (by decide) rfl rfl (Nat.le_of_ble_eq_true rfl) rfl (fun p e s m below meth c ls C hin I hl => ?_)
  unfold f_X6_swapHand at hf
  refine kx_aload_n 0 C dX6_swapHand_0 (lv_at hl 0 rfl) ?_
  obtain ⟨q2, h1, hf⟩ := ob hf
  refine kx_getp 1 C I fl_X6_swapHand_27 h1 dX6_swapHand_1 ?_
  refine kx_iload_n 4 C dX6_swapHand_4 (lv_at hl 1 rfl) ?_
  obtain ⟨x3, h4, hf⟩ := ob hf
  refine kx_iald 5 C I h4 dX6_swapHand_5 ?_
  refine kx_istore_n 6 C (lv' := [(3, .int (iI x3)), (0, .ref (xB G + p0)), (1, .int (iI i0)), (2, .int (iI i1))]) dX6_swapHand_6 hl (by decide) rfl rfl (fun ls hl => ?_)
  refine kx_aload_n 7 C dX6_swapHand_7 (lv_at hl 1 rfl) ?_
  obtain ⟨q6, h5, hf⟩ := ob hf
  refine kx_getp 8 C I fl_X6_swapHand_27 h5 dX6_swapHand_8 ?_
  refine kx_iload_n 11 C dX6_swapHand_11 (lv_at hl 2 rfl) ?_
  refine kx_aload_n 12 C dX6_swapHand_12 (lv_at hl 1 rfl) ?_
  obtain ⟨q8, h7, hf⟩ := ob hf
  refine kx_getp 13 C I fl_X6_swapHand_27 h7 dX6_swapHand_13 ?_
  refine kx_iload_n 16 C dX6_swapHand_16 (lv_at hl 3 rfl) ?_
  obtain ⟨x9, h10, hf⟩ := ob hf
  refine kx_iald 17 C I h10 dX6_swapHand_17 ?_
  obtain ⟨S12, h11, hf⟩ := ob hf
  refine kx_iast 18 C I h11 dX6_swapHand_18 (fun H locs I => ?_)
  refine kx_aload_n 19 C dX6_swapHand_19 (lv_at hl 1 rfl) ?_
  obtain ⟨q14, h13, hf⟩ := ob hf
  refine kx_getp 20 C I fl_X6_swapHand_27 h13 dX6_swapHand_20 ?_
  refine kx_iload_n 23 C dX6_swapHand_23 (lv_at hl 3 rfl) ?_
  refine kx_iload_n 24 C dX6_swapHand_24 (lv_at hl 0 rfl) ?_
  obtain ⟨S16, h15, hf⟩ := ob hf
  refine kx_iast 25 C I h15 dX6_swapHand_25 (fun H locs I => ?_)
  exact kx_vret 26 C I hf dX6_swapHand_26
def rm_X6_swap : Room := { frames := 3, cells := 0, slots := 0, locals := 66 }
theorem hin_X6_swap_RX6 : ∀ w ∈ wsX60, w ∈ vsX6_swap := fun w h => inM (inlX6 w h)
theorem fl_X6_swap_106 : xFl vsX6_swap RX6 106 5 7 := ⟨RX6, TX6, 30, rfl, by decide, hin_X6_swap_RX6, inM mq_9_13, rfl⟩
theorem nyS_X6_swap : yX6_swap.cls ≠ "java/lang/invoke/MethodHandle" ∧ yX6_swap.cls ≠ "java/lang/invoke/VarHandle" ∧ (parseMethodDescriptor yX6_swap.desc).map (fun d => d.parameters.length) = some 2 := by decide +kernel
theorem nyV_X6_swap : yX6_swap.cls = RX6 ∧ yX6_swap.cls ≠ "java/lang/invoke/MethodHandle" ∧ yX6_swap.cls ≠ "java/lang/invoke/VarHandle" ∧ (parseMethodDescriptor yX6_swap.desc).map (fun d => d.parameters.length) = some 2 := by decide +kernel
set_option maxHeartbeats 4000000 in
set_option maxRecDepth 100000 in
theorem w_X6_swap {G : xG} {p : Program} {l : Launch} {e : Env} {s : State} {m : MethodId} {args : Array Value} {below : List Frame} {meth : Method} {c : Code} (C : xK G p s m args meth c cX6_swap 3 vsX6_swap RX6 (some .int)) (r : Int) (S' : xS) : ∀ k : Nat,
  (∀ (S : xS) (p0 : Nat) (i0 i1 : Int) (H : Heap) (locs : List Loc) (ls : Array Slot), g_X6_swap k 0 S p0 i0 i1 = some (r, S') → xI G S s H locs → lv_has ls 3 [(0, .ref (xB G + p0)), (1, .int (iI i0)), (2, .int (iI i1))] → W p l e rm_X6_swap s m args below meth c H locs 0 0 (MQ below (xQi G r S') args s 0 0 (xA G)) (F0 m 0 ls [])) ∧
  (∀ (S : xS) (p0 : Nat) (i0 i1 : Int) (H : Heap) (locs : List Loc) (ls : Array Slot), g_X6_swap k 1 S p0 i0 i1 = some (r, S') → xI G S s H locs → lv_has ls 3 [(0, .ref (xB G + p0))] → W p l e rm_X6_swap s m args below meth c H locs 0 0 (MQ below (xQi G r S') args s 0 0 (xA G)) (F0 m 21 ls [])) := by
  intro k
  induction k with
  | zero => exact ⟨fun _ _ _ _ _ _ _ hf => (by cases hf), fun _ _ _ _ _ _ _ hf => (by cases hf)⟩
  | succ fu ih =>
    obtain ⟨ih0, ih1⟩ := ih
    refine ⟨?_, ?_⟩
    · intro S p0 i0 i1 H locs ls hf I hl
      replace hf : b_X6_swap_0 (g_X6_swap fu) fu S p0 i0 i1 = some (r, S') := hf
      unfold b_X6_swap_0 at hf
      refine kx_aload_n 0 C dX6_swap_0 (lv_at hl 0 rfl) ?_
      refine kx_iload_n 1 C dX6_swap_1 (lv_at hl 1 rfl) ?_
      obtain ⟨h4, hf⟩ := ift hf
      obtain ⟨x3, S1, h2, hf⟩ := ob2 hf
      refine kx_callVi 2 C hl I (ci := 5) (As := [.int (iI i0)]) (rest := []) (c_X6_isBox G l fu _ _ _ _ _ h2) (cwV 1 C.ts gX6_swap_X6_isBox rfl rfl rfl nyV_X6_isBox ⟨Nat.le_of_ble_eq_true rfl, Nat.le_of_ble_eq_true rfl⟩) rfl h4 rfl rfl (Nat.le_of_ble_eq_true rfl) dX6_swap_2 ⟨Nat.le_of_ble_eq_true rfl, Nat.le_of_ble_eq_true rfl⟩ (fun H locs I => ?_)
      refine kx_if_eq 5 21 C dX6_swap_5 (by decide) (fun c5 => ?_) (fun c5 => ?_)
      · have hf := ifp c5 hf
        exact ih1 _ _ _ _ _ _ _ hf I (lv_sub hl [0] rfl)
      · have hf := ifn c5 hf
        refine kx_aload_n 8 C dX6_swap_8 (lv_at hl 0 rfl) ?_
        refine kx_iload_n 9 C dX6_swap_9 (lv_at hl 2 rfl) ?_
        obtain ⟨h9, hf⟩ := ift hf
        obtain ⟨x8, S6, h7, hf⟩ := ob2 hf
        refine kx_callVi 10 C hl I (ci := 5) (As := [.int (iI i1)]) (rest := []) (c_X6_isBox G l fu _ _ _ _ _ h7) (cwV 1 C.ts gX6_swap_X6_isBox rfl rfl rfl nyV_X6_isBox ⟨Nat.le_of_ble_eq_true rfl, Nat.le_of_ble_eq_true rfl⟩) rfl h9 rfl rfl (Nat.le_of_ble_eq_true rfl) dX6_swap_10 ⟨Nat.le_of_ble_eq_true rfl, Nat.le_of_ble_eq_true rfl⟩ (fun H locs I => ?_)
        refine kx_if_eq 13 21 C dX6_swap_13 (by decide) (fun c10 => ?_) (fun c10 => ?_)
        · have hf := ifp c10 hf
          exact ih1 _ _ _ _ _ _ _ hf I (lv_sub hl [0] rfl)
        · have hf := ifn c10 hf
          refine kx_iload_n 16 C dX6_swap_16 (lv_at hl 1 rfl) ?_
          refine kx_iload_n 17 C dX6_swap_17 (lv_at hl 2 rfl) ?_
          refine kx_icmp_ne 18 28 C dX6_swap_18 (by decide) (fun c11 => ?_) (fun c11 => ?_)
          · have hf := ifn c11 hf
            refine kx_aload_n 28 C dX6_swap_28 (lv_at hl 0 rfl) ?_
            refine kx_aload_n 29 C dX6_swap_29 (lv_at hl 0 rfl) ?_
            obtain ⟨h15, hf⟩ := ift hf
            obtain ⟨x14, S12, h13, hf⟩ := ob2 hf
            refine kx_callVi 30 C hl I (ci := 5) (As := []) (rest := [.ref (xB G + p0)]) (c_X6_rankNow G l fu _ _ _ _ h13) (cwV 0 C.ts gX6_swap_X6_rankNow rfl rfl rfl nyV_X6_rankNow ⟨Nat.le_of_ble_eq_true rfl, Nat.le_of_ble_eq_true rfl⟩) rfl h15 rfl rfl (Nat.le_of_ble_eq_true rfl) dX6_swap_30 ⟨Nat.le_of_ble_eq_true rfl, Nat.le_of_ble_eq_true rfl⟩ (fun H locs I => ?_)
            obtain ⟨S17, h16, hf⟩ := ob hf
            refine kx_puti 33 C I fl_X6_swap_106 fw_RX6_7 h16 dX6_swap_33 (fun H locs I => ?_)
            refine kx_aload_n 36 C dX6_swap_36 (lv_at hl 0 rfl) ?_
            refine kx_iload_n 37 C dX6_swap_37 (lv_at hl 1 rfl) ?_
            refine kx_iload_n 38 C dX6_swap_38 (lv_at hl 2 rfl) ?_
            obtain ⟨h21, hf⟩ := ift hf
            obtain ⟨z20, S18, h19, hf⟩ := ob2 hf
            refine kx_callVv 39 C hl I (ci := 5) (As := [.int (iI i0), .int (iI i1)]) (rest := []) (c_X6_swapHand G l fu _ _ _ _ _ _ h19) (cwV 2 C.ts gX6_swap_X6_swapHand rfl rfl rfl nyV_X6_swapHand ⟨Nat.le_of_ble_eq_true rfl, Nat.le_of_ble_eq_true rfl⟩) rfl h21 rfl rfl (Nat.le_of_ble_eq_true rfl) dX6_swap_39 ⟨Nat.le_of_ble_eq_true rfl, Nat.le_of_ble_eq_true rfl⟩ (fun H locs I => ?_)
            refine kx_aload_n 42 C dX6_swap_42 (lv_at hl 0 rfl) ?_
            obtain ⟨h25, hf⟩ := ift hf
            obtain ⟨z24, S22, h23, hf⟩ := ob2 hf
            refine kx_callVv 43 C hl I (ci := 5) (As := []) (rest := []) (c_X6_putWay G l fu _ _ _ _ h23) (cwV 0 C.ts gX6_swap_X6_putWay rfl rfl rfl nyV_X6_putWay ⟨Nat.le_of_ble_eq_true rfl, Nat.le_of_ble_eq_true rfl⟩) rfl h25 rfl rfl (Nat.le_of_ble_eq_true rfl) dX6_swap_43 ⟨Nat.le_of_ble_eq_true rfl, Nat.le_of_ble_eq_true rfl⟩ (fun H locs I => ?_)
            refine kx_iconst 46 C dX6_swap_46 ?_
            exact kx_iret 47 C I hf dX6_swap_47
          · have hf := ifp c11 hf
            exact ih1 _ _ _ _ _ _ _ hf I (lv_sub hl [0] rfl)
    · intro S p0 i0 i1 H locs ls hf I hl
      replace hf : b_X6_swap_1 (g_X6_swap fu) fu S p0 i0 i1 = some (r, S') := hf
      unfold b_X6_swap_1 at hf
      refine kx_aload_n 21 C dX6_swap_21 (lv_at hl 0 rfl) ?_
      refine kx_bipush 22 C dX6_swap_22 (by decide) ?_
      obtain ⟨h29, hf⟩ := ift hf
      obtain ⟨x28, S26, h27, hf⟩ := ob2 hf
      refine kx_callVi 24 C hl I (ci := 5) (As := [.int (iI ((-2)))]) (rest := []) (c_X6_bad G l fu _ _ _ _ _ h27) (cwV 1 C.ts gX6_swap_X6_bad rfl rfl rfl nyV_X6_bad ⟨Nat.le_of_ble_eq_true rfl, Nat.le_of_ble_eq_true rfl⟩) rfl h29 rfl rfl (Nat.le_of_ble_eq_true rfl) dX6_swap_24 ⟨Nat.le_of_ble_eq_true rfl, Nat.le_of_ble_eq_true rfl⟩ (fun H locs I => ?_)
      exact kx_iret 27 C I hf dX6_swap_27
set_option maxHeartbeats 4000000 in
set_option maxRecDepth 100000 in
theorem c_X6_swap (G : xG) (l : Launch) (fu : Nat) (S S' : xS) (p0 : Nat) (i0 : Int) (i1 : Int) (r : Int) (hf : f_X6_swap fu S p0 i0 i1 = some (r, S')) : Met l yX6_swap vsX6_swap rm_X6_swap (va_Pc [.ref (xB G + p0), .int (iI i0), .int (iI i1)] (xPre G S)) (xQi G r S') 0 0 (xA G) := by
  refine kx_met (ret := (some .int)) RX6 [(0, .ref (xB G + p0)), (1, .int (iI i0)), (2, .int (iI i1))] (by decide) rfl rfl (Nat.le_of_ble_eq_true rfl) rfl (fun p e s m below meth c ls C hin I hl => ?_)
  exact (w_X6_swap C r S' fu).1 S _ _ _ _ _ _ hf I hl
def rm_X6_lay : Room := { frames := 3, cells := 0, slots := 0, locals := 66 }
theorem hin_X6_lay_RX6 : ∀ w ∈ wsX60, w ∈ vsX6_lay := fun w h => inM (inlX6 w h)
theorem fl_X6_lay_106 : xFl vsX6_lay RX6 106 5 7 := ⟨RX6, TX6, 30, rfl, by decide, hin_X6_lay_RX6, inM mq_9_13, rfl⟩
theorem nyS_X6_lay : yX6_lay.cls ≠ "java/lang/invoke/MethodHandle" ∧ yX6_lay.cls ≠ "java/lang/invoke/VarHandle" ∧ (parseMethodDescriptor yX6_lay.desc).map (fun d => d.parameters.length) = some 1 := by decide +kernel
theorem nyV_X6_lay : yX6_lay.cls = RX6 ∧ yX6_lay.cls ≠ "java/lang/invoke/MethodHandle" ∧ yX6_lay.cls ≠ "java/lang/invoke/VarHandle" ∧ (parseMethodDescriptor yX6_lay.desc).map (fun d => d.parameters.length) = some 1 := by decide +kernel
set_option maxHeartbeats 4000000 in
set_option maxRecDepth 100000 in
theorem c_X6_lay (G : xG) (l : Launch) (fu : Nat) (S S' : xS) (p0 : Nat) (i0 : Int) (r : Int) (hf : f_X6_lay fu S p0 i0 = some (r, S')) : Met l yX6_lay vsX6_lay rm_X6_lay (va_Pc [.ref (xB G + p0), .int (iI i0)] (xPre G S)) (xQi G r S') 0 0 (xA G) := by
  refine kx_met (ret := (some .int)) RX6 [(0, .ref (xB G + p0)), (1, .int (iI i0))] (by decide) rfl rfl (Nat.le_of_ble_eq_true rfl) rfl (fun p e s m below meth c ls C hin I hl => ?_)
  unfold f_X6_lay at hf
  refine kx_iload_n 0 C dX6_lay_0 (lv_at hl 1 rfl) ?_
  refine kx_i2l 1 C dX6_lay_1 ?_
  refine kx_lconst 2 C (z := 0) dX6_lay_2 rfl ?_
  refine kx_aload_n 3 C dX6_lay_3 (lv_at hl 0 rfl) ?_
  obtain ⟨h4, hf⟩ := ift hf
  obtain ⟨x3, S1, h2, hf⟩ := ob2 hf
  refine kx_callVi 4 C hl I (ci := 5) (As := []) (rest := [.long (lI 0), .long (lI (wI i0))]) (c_X6_ways G l fu _ _ _ _ h2) (cwV 0 C.ts gX6_lay_X6_ways rfl rfl rfl nyV_X6_ways ⟨Nat.le_of_ble_eq_true rfl, Nat.le_of_ble_eq_true rfl⟩) rfl h4 rfl rfl (Nat.le_of_ble_eq_true rfl) dX6_lay_4 ⟨Nat.le_of_ble_eq_true rfl, Nat.le_of_ble_eq_true rfl⟩ (fun H locs I => ?_)
  refine kx_iconst 7 C dX6_lay_7 ?_
  refine kx_isub 8 C dX6_lay_8 ?_
  refine kx_i2l 9 C dX6_lay_9 ?_
  obtain ⟨x7, S5, h6, hf⟩ := ob2 hf
  refine kx_callSi 10 C hl I (As := [.long (lI (wI i0)), .long (lI 0), .long (lI (wI (x3 - 1)))]) (rest := []) (c_X6_in G l fu _ _ _ _ _ _ h6) (va_cwS 3 C.ts gX6_lay_X6_in rfl rfl rfl nyS_X6_in ⟨Nat.le_of_ble_eq_true rfl, Nat.le_of_ble_eq_true rfl⟩) rfl rfl (Nat.le_of_ble_eq_true rfl) dX6_lay_10 ⟨Nat.le_of_ble_eq_true rfl, Nat.le_of_ble_eq_true rfl⟩ (fun H locs I => ?_)
  refine kx_if_ne 13 23 C dX6_lay_13 (by decide) (fun c8 => ?_) (fun c8 => ?_)
  · have hf := ifn c8 hf
    refine kx_aload_n 23 C dX6_lay_23 (lv_at hl 0 rfl) ?_
    refine kx_aload_n 24 C dX6_lay_24 (lv_at hl 0 rfl) ?_
    obtain ⟨h12, hf⟩ := ift hf
    obtain ⟨x11, S9, h10, hf⟩ := ob2 hf
    refine kx_callVi 25 C hl I (ci := 5) (As := []) (rest := [.ref (xB G + p0)]) (c_X6_rankNow G l fu _ _ _ _ h10) (cwV 0 C.ts gX6_lay_X6_rankNow rfl rfl rfl nyV_X6_rankNow ⟨Nat.le_of_ble_eq_true rfl, Nat.le_of_ble_eq_true rfl⟩) rfl h12 rfl rfl (Nat.le_of_ble_eq_true rfl) dX6_lay_25 ⟨Nat.le_of_ble_eq_true rfl, Nat.le_of_ble_eq_true rfl⟩ (fun H locs I => ?_)
    obtain ⟨S14, h13, hf⟩ := ob hf
    refine kx_puti 28 C I fl_X6_lay_106 fw_RX6_7 h13 dX6_lay_28 (fun H locs I => ?_)
    refine kx_aload_n 31 C dX6_lay_31 (lv_at hl 0 rfl) ?_
    refine kx_iload_n 32 C dX6_lay_32 (lv_at hl 1 rfl) ?_
    obtain ⟨h18, hf⟩ := ift hf
    obtain ⟨z17, S15, h16, hf⟩ := ob2 hf
    refine kx_callVv 33 C hl I (ci := 5) (As := [.int (iI i0)]) (rest := []) (c_X6_takeRank G l fu _ _ _ _ _ h16) (cwV 1 C.ts gX6_lay_X6_takeRank rfl rfl rfl nyV_X6_takeRank ⟨Nat.le_of_ble_eq_true rfl, Nat.le_of_ble_eq_true rfl⟩) rfl h18 rfl rfl (Nat.le_of_ble_eq_true rfl) dX6_lay_33 ⟨Nat.le_of_ble_eq_true rfl, Nat.le_of_ble_eq_true rfl⟩ (fun H locs I => ?_)
    refine kx_aload_n 36 C dX6_lay_36 (lv_at hl 0 rfl) ?_
    obtain ⟨h22, hf⟩ := ift hf
    obtain ⟨z21, S19, h20, hf⟩ := ob2 hf
    refine kx_callVv 37 C hl I (ci := 5) (As := []) (rest := []) (c_X6_putWay G l fu _ _ _ _ h20) (cwV 0 C.ts gX6_lay_X6_putWay rfl rfl rfl nyV_X6_putWay ⟨Nat.le_of_ble_eq_true rfl, Nat.le_of_ble_eq_true rfl⟩) rfl h22 rfl rfl (Nat.le_of_ble_eq_true rfl) dX6_lay_37 ⟨Nat.le_of_ble_eq_true rfl, Nat.le_of_ble_eq_true rfl⟩ (fun H locs I => ?_)
    refine kx_aload_n 40 C dX6_lay_40 (lv_at hl 0 rfl) ?_
    obtain ⟨x24, h23, hf⟩ := ob hf
    refine kx_geti 41 C I fl_X6_lay_106 h23 dX6_lay_41 ?_
    exact kx_iret 44 C I hf dX6_lay_44
  · have hf := ifp c8 hf
    refine kx_aload_n 16 C dX6_lay_16 (lv_at hl 0 rfl) ?_
    refine kx_bipush 17 C dX6_lay_17 (by decide) ?_
    obtain ⟨h28, hf⟩ := ift hf
    obtain ⟨x27, S25, h26, hf⟩ := ob2 hf
    refine kx_callVi 19 C hl I (ci := 5) (As := [.int (iI ((-2)))]) (rest := []) (c_X6_bad G l fu _ _ _ _ _ h26) (cwV 1 C.ts gX6_lay_X6_bad rfl rfl rfl nyV_X6_bad ⟨Nat.le_of_ble_eq_true rfl, Nat.le_of_ble_eq_true rfl⟩) rfl h28 rfl rfl (Nat.le_of_ble_eq_true rfl) dX6_lay_19 ⟨Nat.le_of_ble_eq_true rfl, Nat.le_of_ble_eq_true rfl⟩ (fun H locs I => ?_)
    exact kx_iret 22 C I hf dX6_lay_22
def rm_X6_undo : Room := { frames := 2, cells := 0, slots := 0, locals := 49 }
theorem hin_X6_undo_RX6 : ∀ w ∈ wsX60, w ∈ vsX6_undo := fun w h => inM (inlX6 w h)
theorem fl_X6_undo_7 : xFl vsX6_undo RX6 7 5 0 := ⟨RX6, TX6, 30, rfl, by decide, hin_X6_undo_RX6, inM mq_4_16, rfl⟩
theorem fl_X6_undo_27 : xFl vsX6_undo RX6 27 5 6 := ⟨RX6, TX6, 30, rfl, by decide, hin_X6_undo_RX6, inM mq_4_22, rfl⟩
theorem nyS_X6_undo : yX6_undo.cls ≠ "java/lang/invoke/MethodHandle" ∧ yX6_undo.cls ≠ "java/lang/invoke/VarHandle" ∧ (parseMethodDescriptor yX6_undo.desc).map (fun d => d.parameters.length) = some 0 := by decide +kernel
theorem nyV_X6_undo : yX6_undo.cls = RX6 ∧ yX6_undo.cls ≠ "java/lang/invoke/MethodHandle" ∧ yX6_undo.cls ≠ "java/lang/invoke/VarHandle" ∧ (parseMethodDescriptor yX6_undo.desc).map (fun d => d.parameters.length) = some 0 := by decide +kernel
set_option maxHeartbeats 4000000 in
set_option maxRecDepth 100000 in
theorem w_X6_undo {G : xG} {p : Program} {l : Launch} {e : Env} {s : State} {m : MethodId} {args : Array Value} {below : List Frame} {meth : Method} {c : Code} (C : xK G p s m args meth c cX6_undo 2 vsX6_undo RX6 (some .int)) (r : Int) (S' : xS) : ∀ k : Nat,
  (∀ (S : xS) (p0 : Nat) (i0 : Int) (H : Heap) (locs : List Loc) (ls : Array Slot), g_X6_undo k 0 S p0 i0 = some (r, S') → xI G S s H locs → lv_has ls 2 [(0, .ref (xB G + p0))] → W p l e rm_X6_undo s m args below meth c H locs 0 0 (MQ below (xQi G r S') args s 0 0 (xA G)) (F0 m 0 ls [])) ∧
  (∀ (S : xS) (p0 : Nat) (i0 : Int) (H : Heap) (locs : List Loc) (ls : Array Slot), g_X6_undo k 1 S p0 i0 = some (r, S') → xI G S s H locs → lv_has ls 2 [(0, .ref (xB G + p0)), (1, .int (iI i0))] → W p l e rm_X6_undo s m args below meth c H locs 0 0 (MQ below (xQi G r S') args s 0 0 (xA G)) (F0 m 47 ls [])) := by
  intro k
  induction k with
  | zero => exact ⟨fun _ _ _ _ _ _ hf => (by cases hf), fun _ _ _ _ _ _ hf => (by cases hf)⟩
  | succ fu ih =>
    obtain ⟨ih0, ih1⟩ := ih
    refine ⟨?_, ?_⟩
    · intro S p0 i0 H locs ls hf I hl
      replace hf : b_X6_undo_0 (g_X6_undo fu) fu S p0 i0 = some (r, S') := hf
      unfold b_X6_undo_0 at hf
      refine kx_aload_n 0 C dX6_undo_0 (lv_at hl 0 rfl) ?_
      obtain ⟨q2, h1, hf⟩ := ob hf
      refine kx_getp 1 C I fl_X6_undo_7 h1 dX6_undo_1 ?_
      refine kx_bipush 4 C dX6_undo_4 (by decide) ?_
      obtain ⟨x3, h4, hf⟩ := ob hf
      refine kx_iald 6 C I h4 dX6_undo_6 ?_
      refine kx_if_ne 7 15 C dX6_undo_7 (by decide) (fun c5 => ?_) (fun c5 => ?_)
      · have hf := ifn c5 hf
        refine kx_aload_n 15 C dX6_undo_15 (lv_at hl 0 rfl) ?_
        obtain ⟨q7, h6, hf⟩ := ob hf
        refine kx_getp 16 C I fl_X6_undo_7 h6 dX6_undo_16 ?_
        refine kx_bipush 19 C dX6_undo_19 (by decide) ?_
        refine kx_dup2 21 C dX6_undo_21 rfl rfl ?_
        obtain ⟨x8, h9, hf⟩ := ob hf
        refine kx_iald 22 C I h9 dX6_undo_22 ?_
        refine kx_iconst 23 C dX6_undo_23 ?_
        refine kx_isub 24 C dX6_undo_24 ?_
        obtain ⟨S11, h10, hf⟩ := ob hf
        refine kx_iast 25 C I h10 dX6_undo_25 (fun H locs I => ?_)
        refine kx_aload_n 26 C dX6_undo_26 (lv_at hl 0 rfl) ?_
        refine kx_aload_n 27 C dX6_undo_27 (lv_at hl 0 rfl) ?_
        obtain ⟨q13, h12, hf⟩ := ob hf
        refine kx_getp 28 C I fl_X6_undo_7 h12 dX6_undo_28 ?_
        refine kx_bipush 31 C dX6_undo_31 (by decide) ?_
        refine kx_aload_n 33 C dX6_undo_33 (lv_at hl 0 rfl) ?_
        obtain ⟨q15, h14, hf⟩ := ob hf
        refine kx_getp 34 C I fl_X6_undo_7 h14 dX6_undo_34 ?_
        refine kx_bipush 37 C dX6_undo_37 (by decide) ?_
        obtain ⟨x16, h17, hf⟩ := ob hf
        refine kx_iald 39 C I h17 dX6_undo_39 ?_
        refine kx_iadd 40 C dX6_undo_40 ?_
        obtain ⟨x18, h19, hf⟩ := ob hf
        refine kx_iald 41 C I h19 dX6_undo_41 ?_
        obtain ⟨h23, hf⟩ := ift hf
        obtain ⟨z22, S20, h21, hf⟩ := ob2 hf
        refine kx_callVv 42 C hl I (ci := 5) (As := [.int (iI x18)]) (rest := []) (c_X6_takeRank G l fu _ _ _ _ _ h21) (cwV 1 C.ts gX6_undo_X6_takeRank rfl rfl rfl nyV_X6_takeRank ⟨Nat.le_of_ble_eq_true rfl, Nat.le_of_ble_eq_true rfl⟩) rfl h23 rfl rfl (Nat.le_of_ble_eq_true rfl) dX6_undo_42 ⟨Nat.le_of_ble_eq_true rfl, Nat.le_of_ble_eq_true rfl⟩ (fun H locs I => ?_)
        refine kx_iconst 45 C dX6_undo_45 ?_
        refine kx_istore_n 46 C (lv' := [(1, .int (iI 0)), (0, .ref (xB G + p0))]) dX6_undo_46 hl (by decide) rfl rfl (fun ls hl => ?_)
        exact ih1 _ _ _ _ _ _ hf I (lv_sub hl [1, 0] rfl)
      · have hf := ifp c5 hf
        refine kx_aload_n 10 C dX6_undo_10 (lv_at hl 0 rfl) ?_
        obtain ⟨h27, hf⟩ := ift hf
        obtain ⟨x26, S24, h25, hf⟩ := ob2 hf
        refine kx_callVi 11 C hl I (ci := 5) (As := []) (rest := []) (c_X6_no G l fu _ _ _ _ h25) (cwV 0 C.ts gX6_undo_X6_no rfl rfl rfl nyV_X6_no ⟨Nat.le_of_ble_eq_true rfl, Nat.le_of_ble_eq_true rfl⟩) rfl h27 rfl rfl (Nat.le_of_ble_eq_true rfl) dX6_undo_11 ⟨Nat.le_of_ble_eq_true rfl, Nat.le_of_ble_eq_true rfl⟩ (fun H locs I => ?_)
        exact kx_iret 14 C I hf dX6_undo_14
    · intro S p0 i0 H locs ls hf I hl
      replace hf : b_X6_undo_1 (g_X6_undo fu) fu S p0 i0 = some (r, S') := hf
      unfold b_X6_undo_1 at hf
      refine kx_iload_n 47 C dX6_undo_47 (lv_at hl 1 rfl) ?_
      refine kx_aload_n 48 C dX6_undo_48 (lv_at hl 0 rfl) ?_
      obtain ⟨h31, hf⟩ := ift hf
      obtain ⟨x30, S28, h29, hf⟩ := ob2 hf
      refine kx_callVi 49 C hl I (ci := 5) (As := []) (rest := [.int (iI i0)]) (c_X6_n G l fu _ _ _ _ h29) (cwV 0 C.ts gX6_undo_X6_n rfl rfl rfl nyV_X6_n ⟨Nat.le_of_ble_eq_true rfl, Nat.le_of_ble_eq_true rfl⟩) rfl h31 rfl rfl (Nat.le_of_ble_eq_true rfl) dX6_undo_49 ⟨Nat.le_of_ble_eq_true rfl, Nat.le_of_ble_eq_true rfl⟩ (fun H locs I => ?_)
      refine kx_icmp_ge 52 75 C dX6_undo_52 (by decide) (fun c32 => ?_) (fun c32 => ?_)
      · have hf := ifp c32 hf
        refine kx_iconst 75 C dX6_undo_75 ?_
        exact kx_iret 76 C I hf dX6_undo_76
      · have hf := ifn c32 hf
        refine kx_aload_n 55 C dX6_undo_55 (lv_at hl 0 rfl) ?_
        obtain ⟨q34, h33, hf⟩ := ob hf
        refine kx_getp 56 C I fl_X6_undo_7 h33 dX6_undo_56 ?_
        refine kx_iconst 59 C dX6_undo_59 ?_
        refine kx_iload_n 60 C dX6_undo_60 (lv_at hl 1 rfl) ?_
        refine kx_iadd 61 C dX6_undo_61 ?_
        refine kx_aload_n 62 C dX6_undo_62 (lv_at hl 0 rfl) ?_
        obtain ⟨q36, h35, hf⟩ := ob hf
        refine kx_getp 63 C I fl_X6_undo_27 h35 dX6_undo_63 ?_
        refine kx_iload_n 66 C dX6_undo_66 (lv_at hl 1 rfl) ?_
        obtain ⟨x37, h38, hf⟩ := ob hf
        refine kx_iald 67 C I h38 dX6_undo_67 ?_
        obtain ⟨S40, h39, hf⟩ := ob hf
        refine kx_iast 68 C I h39 dX6_undo_68 (fun H locs I => ?_)
        obtain ⟨x41, e42, hf⟩ := nmx_e hf
        refine kx_iinc 69 C (lv' := [(1, .int (iI x41)), (0, .ref (xB G + p0))]) dX6_undo_69 hl 1 rfl e42 (by decide) rfl (fun ls hl => ?_)
        refine kx_goto 72 47 C dX6_undo_72 (by decide) ?_
        exact ih1 _ _ _ _ _ _ hf I (lv_sub hl [1, 0] rfl)
set_option maxHeartbeats 4000000 in
set_option maxRecDepth 100000 in
theorem c_X6_undo (G : xG) (l : Launch) (fu : Nat) (S S' : xS) (p0 : Nat) (r : Int) (hf : f_X6_undo fu S p0 = some (r, S')) : Met l yX6_undo vsX6_undo rm_X6_undo (va_Pc [.ref (xB G + p0)] (xPre G S)) (xQi G r S') 0 0 (xA G) := by
  refine kx_met (ret := (some .int)) RX6 [(0, .ref (xB G + p0))] (by decide) rfl rfl (Nat.le_of_ble_eq_true rfl) rfl (fun p e s m below meth c ls C hin I hl => ?_)
  exact (w_X6_undo C r S' fu).1 S _ _ _ _ _ hf I hl
