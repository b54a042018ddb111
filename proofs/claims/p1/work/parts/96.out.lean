theorem out_0 {x : Int} (hx : -2147483648 ≤ x ∧ x < 2147483648) (h : x < 2 ∨ 7 < x) : zTwo (f_X5_boxes 12000 S0 0 x) (fun S => f_X6_boxes 12000 S 26 x) := by
  obtain ⟨S2, hm⟩ := z_mbk (k := -2) (Or.inl rfl) 12000
  refine z_out (k := -2) ?_ ⟨S2, ?_⟩
  · show b_X5_boxes_0 (g_X5_boxes 11999) 11999 S0 0 x = _
    unfold b_X5_boxes_0
    rw [wI_id hx.1 hx.2, show wI 2 = 2 from by decide, show wI 7 = 7 from by decide, z_gd (by omega)]
    exact z_rbk 11998
  · show f_X6_boxes 12000 Sb 26 x = _
    unfold f_X6_boxes
    rw [z_m1 (z_in0 11998 Sb hx (by omega) (by omega) (by omega))]
    exact hm
theorem out_9 {x : Int} (hx : -2147483648 ≤ x ∧ x < 2147483648) (h : x < 0 ∨ 127 < x) : zTwo (f_X5_type 12000 S0 0 x) (fun S => f_X6_type 12000 S 26 x) := by
  obtain ⟨S2, hm⟩ := z_mbk (k := -2) (Or.inl rfl) 12000
  refine z_out (k := -2) ?_ ⟨S2, ?_⟩
  · show b_X5_type_0 (g_X5_type 11999) 11999 S0 0 x = _
    unfold b_X5_type_0
    rw [wI_id hx.1 hx.2, show wI 127 = 127 from by decide, z_gd (by omega)]
    exact z_rbk 11998
  · show f_X6_type 12000 Sb 26 x = _
    unfold f_X6_type
    rw [z_m1 (z_in0 11998 Sb hx (by omega) (by omega) (by omega))]
    exact hm
theorem out_17 {x : Int} (hx : -2147483648 ≤ x ∧ x < 2147483648) (h : x < 0 ∨ 99 < x) : zTwo (f_X5_worked 12000 S0 0 x) (fun S => f_X6_worked 12000 S 26 x) := by
  obtain ⟨S2, hm⟩ := z_mbk (k := -2) (Or.inl rfl) 12000
  refine z_out (k := -2) ?_ ⟨S2, ?_⟩
  · show b_X5_worked_0 (g_X5_worked 11999) 11999 S0 0 x 0 = _
    unfold b_X5_worked_0
    rw [wI_id hx.1 hx.2, show wI 99 = 99 from by decide, z_gd (by omega)]
    exact z_rbk 11998
  · show f_X6_worked 12000 Sb 26 x = _
    unfold f_X6_worked
    rw [z_m1 (z_in0 11998 Sb hx (by omega) (by omega) (by omega))]
    exact hm
theorem out_21 {x : Int} (hx : -2147483648 ≤ x ∧ x < 2147483648) (h : x < 2 ∨ 9 < x) : zTwo (f_X5_roots 12000 S0 0 x) (fun S => f_X6_roots 12000 S 26 x) := by
  obtain ⟨S2, hm⟩ := z_mbk (k := -2) (Or.inl rfl) 11999
  refine z_out (k := -2) ?_ ⟨S2, ?_⟩
  · show b_X5_roots_0 (g_X5_roots 11999) 11999 S0 0 x 0 0 0 = _
    unfold b_X5_roots_0
    rw [wI_id hx.1 hx.2, show wI 2 = 2 from by decide, show wI 9 = 9 from by decide, z_gd (by omega)]
    exact z_rbk 11998
  · show b_X6_roots_0 (g_X6_roots 11999) 11999 Sb 26 x 0 0 0 = _
    unfold b_X6_roots_0
    rw [z_m1 (z_in0 11997 Sb hx (by omega) (by omega) (by omega))]
    exact hm
theorem out_37 {x : Int} (hx : -2147483648 ≤ x ∧ x < 2147483648) (h : x < 0 ∨ 999999 < x) : zTwo (f_X5_laid 12000 S0 0 x) (fun S => f_X6_laid 12000 S 26 x) := by
  obtain ⟨S2, hm⟩ := z_mbk (k := -2) (Or.inl rfl) 12000
  refine z_out (k := -2) ?_ ⟨S2, ?_⟩
  · show b_X5_laid_0 (g_X5_laid 11999) 11999 S0 0 x = _
    unfold b_X5_laid_0
    rw [wI_id hx.1 hx.2, show wI 999999 = 999999 from by decide, z_gd (by omega)]
    exact z_rbk 11998
  · show f_X6_laid 12000 Sb 26 x = _
    unfold f_X6_laid
    have e : f_X6_isSeed 12000 Sb x = some (0, Sb) := by
      unfold f_X6_isSeed
      rw [bd2_some (z_in0 11998 Sb hx (by omega) (by omega) (by omega)), if_pos (Or.inl rfl)]
    rw [z_m1 e]
    exact hm
theorem out_40 {x : Int} (hx : -2147483648 ≤ x ∧ x < 2147483648) (h : x < 0 ∨ 1 < x) : zTwo (f_X5_image 12000 S0 0 x) (fun S => f_X6_image 12000 S 26 x) := by
  obtain ⟨S2, hm⟩ := z_mbk (k := -2) (Or.inl rfl) 11999
  refine z_out (k := -2) ?_ ⟨S2, ?_⟩
  · show b_X5_image_0 (g_X5_image 11999) 11999 S0 0 0 x = _
    unfold b_X5_image_0
    rw [wI_id hx.1 hx.2, show wI 2 = 2 from by decide, z_gd (by omega)]
    exact z_rbk 11998
  · show b_X6_image_0 (g_X6_image 11999) 11999 Sb 26 x 0 = _
    unfold b_X6_image_0
    rw [z_m1 (z_in0 11997 Sb hx (by omega) (by omega) (by omega))]
    exact hm
theorem out_41 {x : Int} (hx : -2147483648 ≤ x ∧ x < 2147483648) (h : x < 0 ∨ 1 < x) : zTwo (f_X5_from 12000 S0 0 x) (fun S => f_X6_from 12000 S 26 x) := by
  obtain ⟨S2, hm⟩ := z_mbk (k := -2) (Or.inl rfl) 11999
  refine z_out (k := -2) ?_ ⟨S2, ?_⟩
  · show b_X5_from_0 (g_X5_from 11999) 11999 S0 0 x = _
    unfold b_X5_from_0
    rw [wI_id hx.1 hx.2, show wI 2 = 2 from by decide, z_gd (by omega)]
    exact z_rbk 11998
  · show b_X6_from_0 (g_X6_from 11999) 11999 Sb 26 x 0 = _
    unfold b_X6_from_0
    rw [z_m1 (z_in0 11997 Sb hx (by omega) (by omega) (by omega))]
    exact hm
theorem out_43 {x : Int} (hx : -2147483648 ≤ x ∧ x < 2147483648) (h : x < 0 ∨ 7 < x) : zTwo (f_X5_count 12000 S0 0 x) (fun S => f_X6_count 12000 S 26 x) := by
  obtain ⟨S2, hm⟩ := z_mbk (k := -2) (Or.inl rfl) 12000
  refine z_out (k := -2) ?_ ⟨S2, ?_⟩
  · show b_X5_count_0 (g_X5_count 11999) 11999 S0 0 x = _
    unfold b_X5_count_0
    rw [wI_id hx.1 hx.2, show wI 8 = 8 from by decide, z_gd (by omega)]
    exact z_rbk 11998
  · show f_X6_count 12000 Sb 26 x = _
    unfold f_X6_count
    rw [z_m1 (z_in0 11998 Sb hx (by omega) (by omega) (by omega))]
    exact hm
theorem out_26 {x : Int} (hx : -2147483648 ≤ x ∧ x < 2147483648) : zTwo (f_X5_make 12000 S0 0 x) (fun S => f_X6_make 12000 S 26 x) := by
  obtain ⟨S2, hm⟩ := z_mbk (k := -2) (Or.inl rfl) 12000
  refine z_out (k := -2) ?_ ⟨S2, ?_⟩
  · show b_X5_make_0 (g_X5_make 11999) 11999 S0 0 x = _
    unfold b_X5_make_0
    rw [bind_some' (show rdFp 4 0 S0 0 = some 1 from by decide +kernel), bind_some' (show rdFi 1 9 S0 1 = some 0 from by decide +kernel), wI_id hx.1 hx.2, show wI 0 = 0 from by decide, z_gd (by omega)]
    exact z_rbk 11998
  · show f_X6_make 12000 Sb 26 x = _
    unfold f_X6_make
    rw [bind_some' (show rdFp 5 0 Sb 26 = some 27 from by decide +kernel), bind_some' (show rdA 0 Sb 27 41 = some 0 from by decide +kernel), show wI ((0 : Int) - 1) = -1 from by decide, z_m1 (z_in0 11998 Sb hx (by omega) (by omega) (by omega))]
    exact hm
theorem out_31 {x : Int} (hx : -2147483648 ≤ x ∧ x < 2147483648) (h : x < 0 ∨ 31 < x) : zTwo (f_X5_chance 12000 S0 0 x) (fun S => f_X6_chance 12000 S 26 x) := by
  obtain ⟨S2, hm⟩ := z_mbk (k := -2) (Or.inl rfl) 11999
  refine z_out (k := -2) ?_ ⟨S2, ?_⟩
  · show b_X5_chance_0 (g_X5_chance 11999) 11999 S0 0 x 0 0 0 0 0 = _
    unfold b_X5_chance_0
    rw [bind_some' (show rdFp 4 0 S0 0 = some 1 from by decide +kernel), bind_some' (show rdFi 1 0 S0 1 = some 5 from by decide +kernel), wI_id hx.1 hx.2, show wI (xShl 1 5) = 32 from by decide, z_gd (by omega)]
    exact z_rbk 11998
  · show b_X6_chance_0 (g_X6_chance 11999) 11999 Sb 26 x 0 0 0 0 = _
    unfold b_X6_chance_0
    have e : f_X6_all 11999 Sb 26 = some (31, Sb) := by
      unfold f_X6_all
      rw [if_pos z_o5, bd2_some (z_mn _)]
      rfl
    rw [if_pos z_o5, bd2_some e, show wI (31 : Int) = 31 from by decide, z_m1 (z_in0 11997 Sb hx (by omega) (by omega) (by omega))]
    exact hm
theorem out_8 {x : Int} (hx : -2147483648 ≤ x ∧ x < 2147483648) (h : x < 0 ∨ 1 < x) : zTwo (f_X5_forget 12000 S0 0 x) (fun S => f_X6_forget 12000 S 26 x) := by
  obtain ⟨S2, hm⟩ := z_mbk (k := -2) (Or.inl rfl) 11999
  refine z_out (k := -2) ?_ ⟨S2, ?_⟩
  · unfold f_X5_forget
    rw [wI_id hx.1 hx.2, show wI 1 = 1 from by decide, z_gd2 (by omega) (by omega)]
    exact z_rbk 12000
  · show b_X6_forget_0 (g_X6_forget 11999) 11999 Sb 26 x 0 0 = _
    unfold b_X6_forget_0
    rw [z_m1 (z_in0 11997 Sb hx (by omega) (by omega) (by omega))]
    exact hm
theorem out_34 {x : Int} (hx : -2147483648 ≤ x ∧ x < 2147483648) (h : x < 0 ∨ 1 < x) : zTwo (f_X5_worst 12000 S0 0 x) (fun S => f_X6_worst 12000 S 26 x) := by
  obtain ⟨S2, hm⟩ := z_mbk (k := -2) (Or.inl rfl) 11999
  refine z_out (k := -2) ?_ ⟨S2, ?_⟩
  · show b_X5_worst_0 (g_X5_worst 11999) 11999 S0 0 x 0 0 0 0 = _
    unfold b_X5_worst_0
    rw [wI_id hx.1 hx.2, show wI 1 = 1 from by decide, if_neg (by omega), if_neg (by omega)]
    exact z_rbk 11999
  · show b_X6_worst_0 (g_X6_worst 11999) 11999 Sb 26 x 0 0 0 0 = _
    unfold b_X6_worst_0
    rw [z_m1 (z_in0 11997 Sb hx (by omega) (by omega) (by omega))]
    exact hm
theorem out_36 {x : Int} (hx : -2147483648 ≤ x ∧ x < 2147483648) (h : x < 0 ∨ 1 < x) : zTwo (f_X5_third 12000 S0 0 x) (fun S => f_X6_third 12000 S 26 x) := by
  obtain ⟨S2, hm⟩ := z_mbk (k := -2) (Or.inl rfl) 11999
  refine z_out (k := -2) ?_ ⟨S2, ?_⟩
  · show b_X5_third_0 (g_X5_third 11999) 11999 S0 0 x 0 0 0 0 0 = _
    unfold b_X5_third_0
    rw [wI_id hx.1 hx.2, show wI 1 = 1 from by decide, if_neg (by omega), if_neg (by omega)]
    exact z_rbk 11999
  · show b_X6_third_0 (g_X6_third 11999) 11999 Sb 26 x 0 0 0 0 0 0 = _
    unfold b_X6_third_0
    rw [z_m1 (z_in0 11997 Sb hx (by omega) (by omega) (by omega))]
    exact hm
theorem out_39 {x : Int} (hx : -2147483648 ≤ x ∧ x < 2147483648) (h : x < 0 ∨ 1 < x) : zTwoL (f_X5_part 12000 S0 0 x) (fun S => f_X6_part 12000 S 26 x) := by
  obtain ⟨S2, hm⟩ := z_mb (k := -2) (Or.inl rfl)
  refine ⟨-2, Sb, -2, S2, ?_, z_o5, ?_, by decide⟩
  · unfold f_X5_part
    rw [wI_id hx.1 hx.2, show wI 1 = 1 from by decide, if_neg (by omega), if_neg (by omega), if_pos z_o4, bd2_some (z_rb _)]
    rfl
  · show f_X6_part 12000 Sb 26 x = _
    unfold f_X6_part
    rw [wI_id hx.1 hx.2, show wI 1 = 1 from by decide, if_neg (by omega), if_neg (by omega), if_pos z_o5, bd2_some (hm _)]
    rfl
theorem out_42 {x : Int} (hx : -2147483648 ≤ x ∧ x < 2147483648) (h : x < 0 ∨ 2 < x) : zTwo (f_X5_status 12000 S0 0 x) (fun S => f_X6_status 12000 S 26 x) := by
  obtain ⟨S2, hm⟩ := z_mbk (k := -1) (Or.inr (Or.inr rfl)) 12000
  refine z_out (k := -1) ?_ ⟨S2, ?_⟩
  · unfold f_X5_status
    rw [wI_id hx.1 hx.2, if_neg (by omega), if_neg (by omega), if_neg (by omega), if_pos z_o4, bd2_some (z_rb _)]
  · show f_X6_status 12000 Sb 26 x = _
    unfold f_X6_status
    rw [z_m1 (z_in0 11998 Sb hx (by omega) (by omega) (by omega))]
    exact hm
theorem out_12 {x : Int} (hx : -2147483648 ≤ x ∧ x < 2147483648) (h : x < 0 ∨ 4 < x) : zTwo (f_X5_slip 12000 S0 0 x) (fun S => f_X6_slip 12000 S 26 x) := by
  obtain ⟨S2, hm⟩ := z_mbk (k := -2) (Or.inl rfl) 12000
  refine z_out (k := -2) ?_ ⟨S2, ?_⟩
  · unfold f_X5_slip
    rw [z_cb (z_nb1 hx 11998 (by omega))]
    exact z_rbk 12000
  · show f_X6_slip 12000 Sb 26 x = _
    unfold f_X6_slip
    rw [z_mB (z_ib0 hx 11998 (by omega))]
    exact hm
theorem out_14 {x : Int} (hx : -2147483648 ≤ x ∧ x < 2147483648) (h : x < -1 ∨ 4 < x) : zTwo (f_X5_rings 12000 S0 0 x) (fun S => f_X6_rings 12000 S 26 x) := by
  obtain ⟨S2, hm⟩ := z_mbk (k := -10) (Or.inr (Or.inl rfl)) 11999
  refine z_out (k := -10) ?_ ⟨S2, ?_⟩
  · unfold f_X5_rings
    rw [if_neg (by rw [wI_id hx.1 hx.2, show wI (-1) = -1 from by decide]; omega), z_cb (z_nb1 hx 11998 (by omega))]
    exact z_rqk 12000
  · show b_X6_rings_0 (g_X6_rings 11999) 11999 Sb 26 x = _
    unfold b_X6_rings_0
    rw [if_neg (by rw [wI_id hx.1 hx.2, show wI (-1) = -1 from by decide]; omega), z_mB (z_ib0 hx 11997 (by omega))]
    exact hm
theorem out_4 {x : Int} (hx : -2147483648 ≤ x ∧ x < 2147483648) (h : x < 0 ∨ 119 < x) : zTwo (f_X5_lay 12000 S0 0 x) (fun S => f_X6_lay 12000 S 26 x) := by
  obtain ⟨S2, hm⟩ := z_mbk (k := -2) (Or.inl rfl) 12000
  refine z_out (k := -2) ?_ ⟨S2, ?_⟩
  · unfold f_X5_lay
    rw [z_cb (z_nr1 hx 11998 (by omega))]
    exact z_rbk 12000
  · show f_X6_lay 12000 Sb 26 x = _
    unfold f_X6_lay
    rw [if_pos z_o5, bd2_some z_mw, show wI ((120 : Int) - 1) = 119 from by decide, z_m1 (z_in0 11998 Sb hx (by omega) (by omega) (by omega))]
    exact hm
theorem out_22 {x : Int} (hx : -2147483648 ≤ x ∧ x < 2147483648) (h : x < 0 ∨ 119 < x) : zTwo (f_X5_alike 12000 S0 0 x) (fun S => f_X6_alike 12000 S 26 x) := by
  obtain ⟨S2, hm⟩ := z_mbk (k := -2) (Or.inl rfl) 12000
  refine z_out (k := -2) ?_ ⟨S2, ?_⟩
  · unfold f_X5_alike
    rw [z_cb (z_nr1 hx 11998 (by omega))]
    exact z_rbk 12000
  · show f_X6_alike 12000 Sb 26 x = _
    unfold f_X6_alike
    rw [z_mB (z_ir0 hx (by omega))]
    exact hm
theorem out_24 {x : Int} (hx : -2147483648 ≤ x ∧ x < 2147483648) (h : x < 0 ∨ 119 < x) : zTwo (f_X5_move 12000 S0 0 x) (fun S => f_X6_move 12000 S 26 x) := by
  obtain ⟨S2, hm⟩ := z_mbk (k := -2) (Or.inl rfl) 12000
  refine z_out (k := -2) ?_ ⟨S2, ?_⟩
  · unfold f_X5_move
    rw [z_cb (z_nr1 hx 11998 (by omega))]
    exact z_rbk 12000
  · show f_X6_move 12000 Sb 26 x = _
    unfold f_X6_move
    rw [z_mB (z_ir0 hx (by omega))]
    exact hm
theorem out_30 {x : Int} (hx : -2147483648 ≤ x ∧ x < 2147483648) (h : x < -1) : zTwo (f_X5_mayBe 12000 S0 0 x) (fun S => f_X6_mayBe 12000 S 26 x) := by
  obtain ⟨S2, hm⟩ := z_mbk (k := -10) (Or.inr (Or.inl rfl)) 11999
  refine z_out (k := -10) ?_ ⟨S2, ?_⟩
  · show b_X5_mayBe_0 (g_X5_mayBe 11999) 11999 S0 0 x 0 0 0 = _
    unfold b_X5_mayBe_0
    rw [if_neg (by rw [wI_id hx.1 hx.2, show wI (-1) = -1 from by decide]; omega)]
    exact z_rqk 11999
  · show b_X6_mayBe_0 (g_X6_mayBe 11999) 11999 Sb 26 x 0 0 0 = _
    unfold b_X6_mayBe_0
    rw [if_neg (by rw [wI_id hx.1 hx.2, show wI (-1) = -1 from by decide]; omega)]
    exact hm
theorem out_29 {x : Int} (hx : -2147483648 ≤ x ∧ x < 2147483648) (h : x < -1) : zTwo (f_X5_till 12000 S0 0 x) (fun S => f_X6_till 12000 S 26 x) := by
  obtain ⟨S2, hm⟩ := z_mbk (k := -10) (Or.inr (Or.inl rfl)) 12000
  refine z_out (k := -10) ?_ ⟨S2, ?_⟩
  · show b_X5_till_0 (g_X5_till 11999) 11999 S0 0 0 x 0 = _
    unfold b_X5_till_0
    rw [if_neg (by rw [wI_id hx.1 hx.2, show wI (-1) = -1 from by decide]; omega)]
    exact z_rqk 11999
  · show f_X6_till 12000 Sb 26 x = _
    unfold f_X6_till
    rw [if_pos (by rw [wI_id hx.1 hx.2, show wI (-1) = -1 from by decide]; omega)]
    exact hm
set_option maxRecDepth 100000 in
theorem out_1 {x y : Int} (hx : -2147483648 ≤ x ∧ x < 2147483648) (hy : -2147483648 ≤ y ∧ y < 2147483648) (h : ¬ ((x = 0 ∧ 1 ≤ y ∧ y ≤ 5) ∨ (x = 1 ∧ 0 ≤ y ∧ y ≤ 6))) : zTwo (f_X5_put 12000 S0 0 x y) (fun S => f_X6_put 12000 S 26 x y) := by
  obtain ⟨S2, hm⟩ := z_mb (k := -2) (Or.inl rfl)
  have hb : ∀ fu : Nat, (if isO 5 Sb 26 = true then bd2 (f_X6_bad fu Sb 26 (-2)) fun x S => some (x, S) else none) = some (-2, S2) := fun fu => by rw [if_pos z_o5, bd2_some (hm fu)]
  have h2 : ∀ (k : Nat) (x y : Int), g_X6_put (k + 1) 2 Sb 26 x y 0 = some (-2, S2) := fun k x y => by
    show b_X6_put_2 (g_X6_put k) k Sb 26 x y 0 = _
    unfold b_X6_put_2
    rw [if_pos (by decide)]
    exact hb k
  have h3 : ∀ (k : Nat) (x y : Int), g_X6_put (k + 2) 1 Sb 26 x y 0 = some (-2, S2) := fun k x y => h2 k x y
  refine z_out (k := -2) ?_ ⟨S2, ?_⟩
  · show b_X5_put_0 (g_X5_put 11999) 11999 S0 0 x y = _
    unfold b_X5_put_0
    rw [wI_id hx.1 hx.2, wI_id hy.1 hy.2, show wI 1 = 1 from by decide, show wI 6 = 6 from by decide]
    by_cases h0 : x = 0
    · rw [if_pos h0]
      have e : f_X5_putLeave 11999 S0 0 y = some (-2, Sb) := by
        show (if wI y < wI 1 then g_X5_putLeave 11998 1 S0 0 0 else (if wI y ≤ wI 5 then _ else g_X5_putLeave 11998 1 S0 0 0)) = _
        rw [wI_id hy.1 hy.2, show wI 1 = 1 from by decide, show wI 5 = 5 from by decide, z_gd (by omega)]
        exact z_rbk 11997
      rw [if_pos z_o4, bd2_some e]
    · rw [if_neg h0]
      by_cases h1 : x = 1
      · rw [if_pos h1, z_gd (by omega)]
        exact z_rbk 11998
      · rw [if_neg h1]
        exact z_rbk 11998
  · show b_X6_put_0 (g_X6_put 11999) 11999 Sb 26 x y 0 = _
    unfold b_X6_put_0
    rw [wI_id hx.1 hx.2, show wI 1 = 1 from by decide]
    by_cases h0 : x = 0
    · rw [if_pos h0, if_pos z_o5, bd2_some (z_mn _), show wI 5 = 5 from by decide, bd2_some (z_in0 11997 Sb hy (by omega) (by omega) (by omega))]
      exact h2 11998 x y
    · rw [if_neg h0]
      by_cases h1 : x = 1
      · rw [if_pos h1, bd2_some (z_in0 11997 Sb hy (by omega) (by omega) (by omega)), if_pos (by decide)]
        exact h3 11997 x y
      · rw [if_neg h1]
        exact h3 11997 x y
theorem out_2 {x y : Int} (hx : -2147483648 ≤ x ∧ x < 2147483648) (hy : -2147483648 ≤ y ∧ y < 2147483648) (h : ¬ (0 ≤ x ∧ x ≤ 4 ∧ 0 ≤ y ∧ y ≤ 5)) : zTwo (f_X5_rule 12000 S0 0 x y) (fun S => f_X6_rule 12000 S 26 x y) := by
  obtain ⟨S2, hm⟩ := z_mbk (k := -2) (Or.inl rfl) 11998
  by_cases h0 : x < 0 ∨ 5 ≤ x
  · refine z_out (k := -2) ?_ ⟨S2, ?_⟩
    · show b_X5_rule_0 (g_X5_rule 11999) 11999 S0 0 x y = _
      unfold b_X5_rule_0
      rw [z_cb (z_nb1 hx 11997 h0)]
      exact z_rbk 11998
    · show b_X6_rule_0 (g_X6_rule 11999) 11999 Sb 26 x y = _
      unfold b_X6_rule_0
      rw [z_mB (z_ib0 hx 11997 h0)]
      exact hm
  · refine z_out (k := -2) ?_ ⟨S2, ?_⟩
    · show b_X5_rule_0 (g_X5_rule 11999) 11999 S0 0 x y = _
      unfold b_X5_rule_0
      rw [z_cb0 (z_nb0 hx 11997 (by omega)), wI_id hy.1 hy.2, show wI 6 = 6 from by decide, z_gd (by omega)]
      exact z_rbk 11998
    · show b_X6_rule_0 (g_X6_rule 11999) 11999 Sb 26 x y = _
      unfold b_X6_rule_0
      rw [z_mB1 (z_ib1 hx 11997 (by omega)), z_m1 (z_in0 11997 Sb hy (by omega) (by omega) (by omega))]
      exact hm
theorem out_3 {x y : Int} (hx : -2147483648 ≤ x ∧ x < 2147483648) (hy : -2147483648 ≤ y ∧ y < 2147483648) (h : ¬ (0 ≤ x ∧ x ≤ 4 ∧ 0 ≤ y ∧ y ≤ 4)) : zTwo (f_X5_swap 12000 S0 0 x y) (fun S => f_X6_swap 12000 S 26 x y) := by
  obtain ⟨S2, hm⟩ := z_mbk (k := -2) (Or.inl rfl) 11998
  by_cases h0 : x < 0 ∨ 5 ≤ x
  · refine z_out (k := -2) ?_ ⟨S2, ?_⟩
    · show b_X5_swap_0 (g_X5_swap 11999) 11999 S0 0 x y = _
      unfold b_X5_swap_0
      rw [z_cb (z_nb1 hx 11997 h0)]
      exact z_rbk 11998
    · show b_X6_swap_0 (g_X6_swap 11999) 11999 Sb 26 x y = _
      unfold b_X6_swap_0
      rw [z_mB (z_ib0 hx 11997 h0)]
      exact hm
  · refine z_out (k := -2) ?_ ⟨S2, ?_⟩
    · show b_X5_swap_0 (g_X5_swap 11999) 11999 S0 0 x y = _
      unfold b_X5_swap_0
      rw [z_cb0 (z_nb0 hx 11997 (by omega)), z_cb (z_nb1 hy 11997 (by omega))]
      exact z_rbk 11998
    · show b_X6_swap_0 (g_X6_swap 11999) 11999 Sb 26 x y = _
      unfold b_X6_swap_0
      rw [z_mB1 (z_ib1 hx 11997 (by omega)), z_mB (z_ib0 hy 11997 (by omega))]
      exact hm
theorem out_6 {x y : Int} (hx : -2147483648 ≤ x ∧ x < 2147483648) (hy : -2147483648 ≤ y ∧ y < 2147483648) (h : ¬ (0 ≤ x ∧ x ≤ 4 ∧ 0 ≤ y ∧ y ≤ 4)) : zTwo (f_X5_know 12000 S0 0 x y) (fun S => f_X6_know 12000 S 26 x y) := by
  obtain ⟨S2, hm⟩ := z_mbk (k := -2) (Or.inl rfl) 11998
  by_cases h0 : x < 0 ∨ 5 ≤ x
  · refine z_out (k := -2) ?_ ⟨S2, ?_⟩
    · show b_X5_know_0 (g_X5_know 11999) 11999 S0 0 x y = _
      unfold b_X5_know_0
      rw [z_cb (z_nb1 hx 11997 h0)]
      exact z_rbk 11998
    · show b_X6_know_0 (g_X6_know 11999) 11999 Sb 26 x y = _
      unfold b_X6_know_0
      rw [z_mB (z_ib0 hx 11997 h0)]
      exact hm
  · refine z_out (k := -2) ?_ ⟨S2, ?_⟩
    · show b_X5_know_0 (g_X5_know 11999) 11999 S0 0 x y = _
      unfold b_X5_know_0
      rw [z_cb0 (z_nb0 hx 11997 (by omega)), z_cb (z_nb1 hy 11997 (by omega))]
      exact z_rbk 11998
    · show b_X6_know_0 (g_X6_know 11999) 11999 Sb 26 x y = _
      unfold b_X6_know_0
      rw [z_mB1 (z_ib1 hx 11997 (by omega)), z_mB (z_ib0 hy 11997 (by omega))]
      exact hm
theorem out_7 {x y : Int} (hx : -2147483648 ≤ x ∧ x < 2147483648) (hy : -2147483648 ≤ y ∧ y < 2147483648) (h : ¬ (0 ≤ x ∧ x ≤ 4 ∧ 0 ≤ y ∧ y ≤ 5)) : zTwo (f_X5_report 12000 S0 0 x y) (fun S => f_X6_report 12000 S 26 x y) := by
  obtain ⟨S2, hm⟩ := z_mbk (k := -2) (Or.inl rfl) 11998
  by_cases h0 : x < 0 ∨ 5 ≤ x
  · refine z_out (k := -2) ?_ ⟨S2, ?_⟩
    · show b_X5_report_0 (g_X5_report 11999) 11999 S0 0 x y = _
      unfold b_X5_report_0
      rw [z_cb (z_nb1 hx 11997 h0)]
      exact z_rbk 11998
    · show b_X6_report_0 (g_X6_report 11999) 11999 Sb 26 x y = _
      unfold b_X6_report_0
      rw [z_mB (z_ib0 hx 11997 h0)]
      exact hm
  · refine z_out (k := -2) ?_ ⟨S2, ?_⟩
    · show b_X5_report_0 (g_X5_report 11999) 11999 S0 0 x y = _
      unfold b_X5_report_0
      rw [z_cb0 (z_nb0 hx 11997 (by omega)), bind_some' (show rdFp 4 0 S0 0 = some 1 from by decide +kernel), bind_some' (show rdFi 1 0 S0 1 = some 5 from by decide +kernel), wI_id hy.1 hy.2, show wI 5 = 5 from by decide, z_gd (by omega)]
      exact z_rbk 11998
    · show b_X6_report_0 (g_X6_report 11999) 11999 Sb 26 x y = _
      unfold b_X6_report_0
      rw [z_mB1 (z_ib1 hx 11997 (by omega)), if_pos z_o5, bd2_some (z_mn _), show wI 5 = 5 from by decide, z_m1 (z_in0 11997 Sb hy (by omega) (by omega) (by omega))]
      exact hm
theorem out_15 {x y : Int} (hx : -2147483648 ≤ x ∧ x < 2147483648) (hy : -2147483648 ≤ y ∧ y < 2147483648) (h : ¬ (0 ≤ x ∧ x ≤ 4 ∧ -1 ≤ y)) : zTwo (f_X5_opened 12000 S0 0 x y) (fun S => f_X6_opened 12000 S 26 x y) := by
  obtain ⟨S2, hm⟩ := z_mbk (k := -10) (Or.inr (Or.inl rfl)) 11998
  by_cases h0 : x < 0 ∨ 5 ≤ x
  · refine z_out (k := -10) ?_ ⟨S2, ?_⟩
    · show b_X5_opened_0 (g_X5_opened 11999) 11999 S0 0 x y = _
      unfold b_X5_opened_0
      rw [z_cb (z_nb1 hx 11997 h0)]
      exact z_rqk 11998
    · show b_X6_opened_0 (g_X6_opened 11999) 11999 Sb 26 x y = _
      unfold b_X6_opened_0
      rw [z_mB (z_ib0 hx 11997 h0)]
      exact hm
  · refine z_out (k := -10) ?_ ⟨S2, ?_⟩
    · show b_X5_opened_0 (g_X5_opened 11999) 11999 S0 0 x y = _
      unfold b_X5_opened_0
      rw [z_cb0 (z_nb0 hx 11997 (by omega)), wI_id hy.1 hy.2, show wI (-1) = -1 from by decide, if_neg (by omega)]
      exact z_rqk 11998
    · show b_X6_opened_0 (g_X6_opened 11999) 11999 Sb 26 x y = _
      unfold b_X6_opened_0
      rw [z_mB1 (z_ib1 hx 11997 (by omega)), if_neg (by rw [wI_id hy.1 hy.2, show wI (-1) = -1 from by decide]; omega)]
      exact hm
theorem out_28 {x y : Int} (hx : -2147483648 ≤ x ∧ x < 2147483648) (hy : -2147483648 ≤ y ∧ y < 2147483648) (h : ¬ (0 ≤ x ∧ x ≤ 119 ∧ -1 ≤ y)) : zTwo (f_X5_fewest 12000 S0 0 x y) (fun S => f_X6_fewest 12000 S 26 x y) := by
  obtain ⟨S2, hm⟩ := z_mbk (k := -10) (Or.inr (Or.inl rfl)) 11998
  by_cases h0 : x < 0 ∨ 120 ≤ x
  · refine z_out (k := -10) ?_ ⟨S2, ?_⟩
    · show b_X5_fewest_0 (g_X5_fewest 11999) 11999 S0 0 x y = _
      unfold b_X5_fewest_0
      rw [z_cb (z_nr1 hx 11997 h0)]
      exact z_rqk 11998
    · show b_X6_fewest_0 (g_X6_fewest 11999) 11999 Sb 26 x y = _
      unfold b_X6_fewest_0
      rw [z_mB (z_ir0' hx h0)]
      exact hm
  · refine z_out (k := -10) ?_ ⟨S2, ?_⟩
    · show b_X5_fewest_0 (g_X5_fewest 11999) 11999 S0 0 x y = _
      unfold b_X5_fewest_0
      rw [z_cb0 (z_nr0 hx 11997 (by omega)), wI_id hy.1 hy.2, show wI (-1) = -1 from by decide, if_neg (by omega)]
      exact z_rqk 11998
    · show b_X6_fewest_0 (g_X6_fewest 11999) 11999 Sb 26 x y = _
      unfold b_X6_fewest_0
      rw [z_mB1 (z_ir1' hx (by omega)), if_pos (by rw [wI_id hy.1 hy.2, show wI (-1) = -1 from by decide]; omega)]
      exact hm
theorem out_38 {x y : Int} (hx : -2147483648 ≤ x ∧ x < 2147483648) (hy : -2147483648 ≤ y ∧ y < 2147483648) (h : ¬ (0 ≤ x ∧ x ≤ 999999 ∧ 0 ≤ y ∧ y ≤ 60)) : zTwo (f_X5_lucky 12000 S0 0 x y) (fun S => f_X6_lucky 12000 S 26 x y) := by
  obtain ⟨S2, hm⟩ := z_mbk (k := -2) (Or.inl rfl) 11998
  refine z_out (k := -2) ?_ ⟨S2, ?_⟩
  · show b_X5_lucky_0 (g_X5_lucky 11999) 11999 S0 0 x y 0 0 0 = _
    unfold b_X5_lucky_0
    rw [wI_id hx.1 hx.2, wI_id hy.1 hy.2, show wI 999999 = 999999 from by decide, show wI 60 = 60 from by decide]
    by_cases h1 : x < 0
    · rw [if_pos h1]
      exact z_rbk 11998
    · rw [if_neg h1]
      by_cases h2 : 999999 < x
      · rw [if_pos h2]
        exact z_rbk 11998
      · rw [if_neg h2, z_gd (by omega)]
        exact z_rbk 11998
  · show b_X6_lucky_0 (g_X6_lucky 11999) 11999 Sb 26 x y 0 0 0 = _
    unfold b_X6_lucky_0
    by_cases h1 : x < 0 ∨ 999999 < x
    · have e : f_X6_isSeed 11999 Sb x = some (0, Sb) := by
        unfold f_X6_isSeed
        rw [bd2_some (z_in0 11997 Sb hx (by omega) (by omega) h1), if_pos (Or.inl rfl)]
      rw [z_m1 e]
      exact hm
    · have e : f_X6_isSeed 11999 Sb x = some (1, Sb) := by
        unfold f_X6_isSeed
        rw [bd2_some (z_in1 11997 Sb hx (by omega) (by omega) (by omega)), if_pos (Or.inr rfl)]
      rw [z_m11 e, z_m1 (z_in0 11997 Sb hy (by omega) (by omega) (by omega))]
      exact hm
