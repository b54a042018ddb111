theorem fw_RX0_0 : xFw 0 0 (tyX0 0) true := ⟨RX0, TX0, 9, tyX0, rfl, tyX0_ok, nmX0, rfl, by decide +kernel⟩
theorem fw_RX0_1 : xFw 0 1 .int false := ⟨RX0, TX0, 9, tyX0, rfl, tyX0_ok, nmX0, rfl, by decide +kernel⟩
theorem fw_RX0_2 : xFw 0 2 (tyX0 2) true := ⟨RX0, TX0, 9, tyX0, rfl, tyX0_ok, nmX0, rfl, by decide +kernel⟩
theorem fw_RX0_3 : xFw 0 3 (tyX0 3) true := ⟨RX0, TX0, 9, tyX0, rfl, tyX0_ok, nmX0, rfl, by decide +kernel⟩
theorem fw_RX0_4 : xFw 0 4 (tyX0 4) true := ⟨RX0, TX0, 9, tyX0, rfl, tyX0_ok, nmX0, rfl, by decide +kernel⟩
theorem fw_RX0_5 : xFw 0 5 (tyX0 5) true := ⟨RX0, TX0, 9, tyX0, rfl, tyX0_ok, nmX0, rfl, by decide +kernel⟩
theorem fw_RX0_6 : xFw 0 6 .int false := ⟨RX0, TX0, 9, tyX0, rfl, tyX0_ok, nmX0, rfl, by decide +kernel⟩
theorem fw_RX0_7 : xFw 0 7 .int false := ⟨RX0, TX0, 9, tyX0, rfl, tyX0_ok, nmX0, rfl, by decide +kernel⟩
theorem fw_RX0_8 : xFw 0 8 (tyX0 8) true := ⟨RX0, TX0, 9, tyX0, rfl, tyX0_ok, nmX0, rfl, by decide +kernel⟩
theorem fw_RX1_0 : xFw 1 0 .int false := ⟨RX1, TX1, 14, tyX1, rfl, tyX1_ok, nmX1, rfl, by decide +kernel⟩
theorem fw_RX1_1 : xFw 1 1 .int false := ⟨RX1, TX1, 14, tyX1, rfl, tyX1_ok, nmX1, rfl, by decide +kernel⟩
theorem fw_RX1_2 : xFw 1 2 .int false := ⟨RX1, TX1, 14, tyX1, rfl, tyX1_ok, nmX1, rfl, by decide +kernel⟩
theorem fw_RX1_3 : xFw 1 3 (tyX1 3) true := ⟨RX1, TX1, 14, tyX1, rfl, tyX1_ok, nmX1, rfl, by decide +kernel⟩
theorem fw_RX1_4 : xFw 1 4 (tyX1 4) true := ⟨RX1, TX1, 14, tyX1, rfl, tyX1_ok, nmX1, rfl, by decide +kernel⟩
theorem fw_RX1_5 : xFw 1 5 (tyX1 5) true := ⟨RX1, TX1, 14, tyX1, rfl, tyX1_ok, nmX1, rfl, by decide +kernel⟩
theorem fw_RX1_6 : xFw 1 6 .int false := ⟨RX1, TX1, 14, tyX1, rfl, tyX1_ok, nmX1, rfl, by decide +kernel⟩
theorem fw_RX1_7 : xFw 1 7 (tyX1 7) true := ⟨RX1, TX1, 14, tyX1, rfl, tyX1_ok, nmX1, rfl, by decide +kernel⟩
theorem fw_RX1_8 : xFw 1 8 (tyX1 8) true := ⟨RX1, TX1, 14, tyX1, rfl, tyX1_ok, nmX1, rfl, by decide +kernel⟩
theorem fw_RX1_9 : xFw 1 9 .int false := ⟨RX1, TX1, 14, tyX1, rfl, tyX1_ok, nmX1, rfl, by decide +kernel⟩
theorem fw_RX1_10 : xFw 1 10 (tyX1 10) true := ⟨RX1, TX1, 14, tyX1, rfl, tyX1_ok, nmX1, rfl, by decide +kernel⟩
theorem fw_RX1_11 : xFw 1 11 .int false := ⟨RX1, TX1, 14, tyX1, rfl, tyX1_ok, nmX1, rfl, by decide +kernel⟩
theorem fw_RX1_12 : xFw 1 12 (tyX1 12) true := ⟨RX1, TX1, 14, tyX1, rfl, tyX1_ok, nmX1, rfl, by decide +kernel⟩
theorem fw_RX1_13 : xFw 1 13 (tyX1 13) true := ⟨RX1, TX1, 14, tyX1, rfl, tyX1_ok, nmX1, rfl, by decide +kernel⟩
theorem fw_RX2_0 : xFw 2 0 (tyX2 0) true := ⟨RX2, TX2, 4, tyX2, rfl, tyX2_ok, nmX2, rfl, by decide +kernel⟩
theorem fw_RX2_1 : xFw 2 1 .int false := ⟨RX2, TX2, 4, tyX2, rfl, tyX2_ok, nmX2, rfl, by decide +kernel⟩
theorem fw_RX2_2 : xFw 2 2 .boolean false := ⟨RX2, TX2, 4, tyX2, rfl, tyX2_ok, nmX2, rfl, by decide +kernel⟩
theorem fw_RX2_3 : xFw 2 3 .int false := ⟨RX2, TX2, 4, tyX2, rfl, tyX2_ok, nmX2, rfl, by decide +kernel⟩
theorem fw_RX3_0 : xFw 3 0 (tyX3 0) true := ⟨RX3, TX3, 6, tyX3, rfl, tyX3_ok, nmX3, rfl, by decide +kernel⟩
theorem fw_RX3_1 : xFw 3 1 .int false := ⟨RX3, TX3, 6, tyX3, rfl, tyX3_ok, nmX3, rfl, by decide +kernel⟩
theorem fw_RX3_2 : xFw 3 2 .int false := ⟨RX3, TX3, 6, tyX3, rfl, tyX3_ok, nmX3, rfl, by decide +kernel⟩
theorem fw_RX3_3 : xFw 3 3 .int false := ⟨RX3, TX3, 6, tyX3, rfl, tyX3_ok, nmX3, rfl, by decide +kernel⟩
theorem fw_RX3_4 : xFw 3 4 .int false := ⟨RX3, TX3, 6, tyX3, rfl, tyX3_ok, nmX3, rfl, by decide +kernel⟩
theorem fw_RX3_5 : xFw 3 5 .int false := ⟨RX3, TX3, 6, tyX3, rfl, tyX3_ok, nmX3, rfl, by decide +kernel⟩
theorem fw_RX5_0 : xFw 4 0 (tyX5 0) true := ⟨RX5, TX5, 13, tyX5, rfl, tyX5_ok, nmX5, rfl, by decide +kernel⟩
theorem fw_RX5_1 : xFw 4 1 (tyX5 1) true := ⟨RX5, TX5, 13, tyX5, rfl, tyX5_ok, nmX5, rfl, by decide +kernel⟩
theorem fw_RX5_2 : xFw 4 2 (tyX5 2) true := ⟨RX5, TX5, 13, tyX5, rfl, tyX5_ok, nmX5, rfl, by decide +kernel⟩
theorem fw_RX5_3 : xFw 4 3 (tyX5 3) true := ⟨RX5, TX5, 13, tyX5, rfl, tyX5_ok, nmX5, rfl, by decide +kernel⟩
theorem fw_RX5_4 : xFw 4 4 (tyX5 4) true := ⟨RX5, TX5, 13, tyX5, rfl, tyX5_ok, nmX5, rfl, by decide +kernel⟩
theorem fw_RX5_5 : xFw 4 5 (tyX5 5) true := ⟨RX5, TX5, 13, tyX5, rfl, tyX5_ok, nmX5, rfl, by decide +kernel⟩
theorem fw_RX5_6 : xFw 4 6 (tyX5 6) true := ⟨RX5, TX5, 13, tyX5, rfl, tyX5_ok, nmX5, rfl, by decide +kernel⟩
theorem fw_RX5_7 : xFw 4 7 (tyX5 7) false := ⟨RX5, TX5, 13, tyX5, rfl, tyX5_ok, nmX5, rfl, by decide +kernel⟩
theorem fw_RX5_8 : xFw 4 8 .long false := ⟨RX5, TX5, 13, tyX5, rfl, tyX5_ok, nmX5, rfl, by decide +kernel⟩
theorem fw_RX5_9 : xFw 4 9 .long false := ⟨RX5, TX5, 13, tyX5, rfl, tyX5_ok, nmX5, rfl, by decide +kernel⟩
theorem fw_RX5_10 : xFw 4 10 .int false := ⟨RX5, TX5, 13, tyX5, rfl, tyX5_ok, nmX5, rfl, by decide +kernel⟩
theorem fw_RX5_11 : xFw 4 11 .int false := ⟨RX5, TX5, 13, tyX5, rfl, tyX5_ok, nmX5, rfl, by decide +kernel⟩
theorem fw_RX5_12 : xFw 4 12 .int false := ⟨RX5, TX5, 13, tyX5, rfl, tyX5_ok, nmX5, rfl, by decide +kernel⟩
theorem fw_RX6_0 : xFw 5 0 (tyX6 0) true := ⟨RX6, TX6, 30, tyX6, rfl, tyX6_ok, nmX6, rfl, by decide +kernel⟩
theorem fw_RX6_1 : xFw 5 1 (tyX6 1) true := ⟨RX6, TX6, 30, tyX6, rfl, tyX6_ok, nmX6, rfl, by decide +kernel⟩
theorem fw_RX6_2 : xFw 5 2 (tyX6 2) true := ⟨RX6, TX6, 30, tyX6, rfl, tyX6_ok, nmX6, rfl, by decide +kernel⟩
theorem fw_RX6_3 : xFw 5 3 (tyX6 3) true := ⟨RX6, TX6, 30, tyX6, rfl, tyX6_ok, nmX6, rfl, by decide +kernel⟩
theorem fw_RX6_4 : xFw 5 4 .long false := ⟨RX6, TX6, 30, tyX6, rfl, tyX6_ok, nmX6, rfl, by decide +kernel⟩
theorem fw_RX6_5 : xFw 5 5 .long false := ⟨RX6, TX6, 30, tyX6, rfl, tyX6_ok, nmX6, rfl, by decide +kernel⟩
theorem fw_RX6_6 : xFw 5 6 (tyX6 6) true := ⟨RX6, TX6, 30, tyX6, rfl, tyX6_ok, nmX6, rfl, by decide +kernel⟩
theorem fw_RX6_7 : xFw 5 7 .int false := ⟨RX6, TX6, 30, tyX6, rfl, tyX6_ok, nmX6, rfl, by decide +kernel⟩
theorem fw_RX6_8 : xFw 5 8 (tyX6 8) true := ⟨RX6, TX6, 30, tyX6, rfl, tyX6_ok, nmX6, rfl, by decide +kernel⟩
theorem fw_RX6_9 : xFw 5 9 .int false := ⟨RX6, TX6, 30, tyX6, rfl, tyX6_ok, nmX6, rfl, by decide +kernel⟩
theorem fw_RX6_10 : xFw 5 10 .boolean false := ⟨RX6, TX6, 30, tyX6, rfl, tyX6_ok, nmX6, rfl, by decide +kernel⟩
theorem fw_RX6_11 : xFw 5 11 .int false := ⟨RX6, TX6, 30, tyX6, rfl, tyX6_ok, nmX6, rfl, by decide +kernel⟩
theorem fw_RX6_12 : xFw 5 12 (tyX6 12) true := ⟨RX6, TX6, 30, tyX6, rfl, tyX6_ok, nmX6, rfl, by decide +kernel⟩
theorem fw_RX6_13 : xFw 5 13 (tyX6 13) true := ⟨RX6, TX6, 30, tyX6, rfl, tyX6_ok, nmX6, rfl, by decide +kernel⟩
theorem fw_RX6_14 : xFw 5 14 (tyX6 14) true := ⟨RX6, TX6, 30, tyX6, rfl, tyX6_ok, nmX6, rfl, by decide +kernel⟩
theorem fw_RX6_15 : xFw 5 15 (tyX6 15) true := ⟨RX6, TX6, 30, tyX6, rfl, tyX6_ok, nmX6, rfl, by decide +kernel⟩
theorem fw_RX6_16 : xFw 5 16 (tyX6 16) true := ⟨RX6, TX6, 30, tyX6, rfl, tyX6_ok, nmX6, rfl, by decide +kernel⟩
theorem fw_RX6_17 : xFw 5 17 .int false := ⟨RX6, TX6, 30, tyX6, rfl, tyX6_ok, nmX6, rfl, by decide +kernel⟩
theorem fw_RX6_18 : xFw 5 18 (tyX6 18) true := ⟨RX6, TX6, 30, tyX6, rfl, tyX6_ok, nmX6, rfl, by decide +kernel⟩
theorem fw_RX6_19 : xFw 5 19 (tyX6 19) true := ⟨RX6, TX6, 30, tyX6, rfl, tyX6_ok, nmX6, rfl, by decide +kernel⟩
theorem fw_RX6_20 : xFw 5 20 (tyX6 20) true := ⟨RX6, TX6, 30, tyX6, rfl, tyX6_ok, nmX6, rfl, by decide +kernel⟩
theorem fw_RX6_21 : xFw 5 21 (tyX6 21) true := ⟨RX6, TX6, 30, tyX6, rfl, tyX6_ok, nmX6, rfl, by decide +kernel⟩
theorem fw_RX6_22 : xFw 5 22 (tyX6 22) true := ⟨RX6, TX6, 30, tyX6, rfl, tyX6_ok, nmX6, rfl, by decide +kernel⟩
theorem fw_RX6_23 : xFw 5 23 .int false := ⟨RX6, TX6, 30, tyX6, rfl, tyX6_ok, nmX6, rfl, by decide +kernel⟩
theorem fw_RX6_24 : xFw 5 24 .int false := ⟨RX6, TX6, 30, tyX6, rfl, tyX6_ok, nmX6, rfl, by decide +kernel⟩
theorem fw_RX6_25 : xFw 5 25 .int false := ⟨RX6, TX6, 30, tyX6, rfl, tyX6_ok, nmX6, rfl, by decide +kernel⟩
theorem fw_RX6_26 : xFw 5 26 .int false := ⟨RX6, TX6, 30, tyX6, rfl, tyX6_ok, nmX6, rfl, by decide +kernel⟩
theorem fw_RX6_27 : xFw 5 27 .int false := ⟨RX6, TX6, 30, tyX6, rfl, tyX6_ok, nmX6, rfl, by decide +kernel⟩
theorem fw_RX6_28 : xFw 5 28 (tyX6 28) true := ⟨RX6, TX6, 30, tyX6, rfl, tyX6_ok, nmX6, rfl, by decide +kernel⟩
theorem fw_RX6_29 : xFw 5 29 (tyX6 29) true := ⟨RX6, TX6, 30, tyX6, rfl, tyX6_ok, nmX6, rfl, by decide +kernel⟩
theorem xNew_X0_ok {G : xG} : ∀ j, j < 9 → defaultValue (tyX0 j) = vp_V (xNew_X0.map (xfv G)) j := by
  intro j hj
  rcases (show j = 0 ∨ j = 1 ∨ j = 2 ∨ j = 3 ∨ j = 4 ∨ j = 5 ∨ j = 6 ∨ j = 7 ∨ j = 8 by omega) with rfl | rfl | rfl | rfl | rfl | rfl | rfl | rfl | rfl <;> rfl
theorem xNew_X1_ok {G : xG} : ∀ j, j < 14 → defaultValue (tyX1 j) = vp_V (xNew_X1.map (xfv G)) j := by
  intro j hj
  rcases (show j = 0 ∨ j = 1 ∨ j = 2 ∨ j = 3 ∨ j = 4 ∨ j = 5 ∨ j = 6 ∨ j = 7 ∨ j = 8 ∨ j = 9 ∨ j = 10 ∨ j = 11 ∨ j = 12 ∨ j = 13 by omega) with rfl | rfl | rfl | rfl | rfl | rfl | rfl | rfl | rfl | rfl | rfl | rfl | rfl | rfl <;> rfl
theorem xNew_X2_ok {G : xG} : ∀ j, j < 4 → defaultValue (tyX2 j) = vp_V (xNew_X2.map (xfv G)) j := by
  intro j hj
  rcases (show j = 0 ∨ j = 1 ∨ j = 2 ∨ j = 3 by omega) with rfl | rfl | rfl | rfl <;> rfl
theorem xNew_X3_ok {G : xG} : ∀ j, j < 6 → defaultValue (tyX3 j) = vp_V (xNew_X3.map (xfv G)) j := by
  intro j hj
  rcases (show j = 0 ∨ j = 1 ∨ j = 2 ∨ j = 3 ∨ j = 4 ∨ j = 5 by omega) with rfl | rfl | rfl | rfl | rfl | rfl <;> rfl
theorem xNew_X5_ok {G : xG} : ∀ j, j < 13 → defaultValue (tyX5 j) = vp_V (xNew_X5.map (xfv G)) j := by
  intro j hj
  rcases (show j = 0 ∨ j = 1 ∨ j = 2 ∨ j = 3 ∨ j = 4 ∨ j = 5 ∨ j = 6 ∨ j = 7 ∨ j = 8 ∨ j = 9 ∨ j = 10 ∨ j = 11 ∨ j = 12 by omega) with rfl | rfl | rfl | rfl | rfl | rfl | rfl | rfl | rfl | rfl | rfl | rfl | rfl <;> rfl
theorem xNew_X6_ok {G : xG} : ∀ j, j < 30 → defaultValue (tyX6 j) = vp_V (xNew_X6.map (xfv G)) j := by
  intro j hj
  rcases (show j = 0 ∨ j = 1 ∨ j = 2 ∨ j = 3 ∨ j = 4 ∨ j = 5 ∨ j = 6 ∨ j = 7 ∨ j = 8 ∨ j = 9 ∨ j = 10 ∨ j = 11 ∨ j = 12 ∨ j = 13 ∨ j = 14 ∨ j = 15 ∨ j = 16 ∨ j = 17 ∨ j = 18 ∨ j = 19 ∨ j = 20 ∨ j = 21 ∨ j = 22 ∨ j = 23 ∨ j = 24 ∨ j = 25 ∨ j = 26 ∨ j = 27 ∨ j = 28 ∨ j = 29 by omega) with rfl | rfl | rfl | rfl | rfl | rfl | rfl | rfl | rfl | rfl | rfl | rfl | rfl | rfl | rfl | rfl | rfl | rfl | rfl | rfl | rfl | rfl | rfl | rfl | rfl | rfl | rfl | rfl | rfl | rfl <;> rfl
