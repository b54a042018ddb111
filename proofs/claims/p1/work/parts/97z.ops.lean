theorem op_0 {b : Int} (hb : -2147483648 ≤ b ∧ b < 2147483648) : zTwo (f_X5_boxes 12000 S0 0 b) (fun S => f_X6_boxes 12000 S 26 b) := by
  by_cases h : 0 ≤ b ∧ b ≤ 7
  · exact in_0 h
  · exact out_0 hb (by omega)
theorem op_4 {b : Int} (hb : -2147483648 ≤ b ∧ b < 2147483648) : zTwo (f_X5_lay 12000 S0 0 b) (fun S => f_X6_lay 12000 S 26 b) := by
  by_cases h : 0 ≤ b ∧ b ≤ 119
  · exact in_4 h
  · exact out_4 hb (by omega)
theorem op_8 {b : Int} (hb : -2147483648 ≤ b ∧ b < 2147483648) : zTwo (f_X5_forget 12000 S0 0 b) (fun S => f_X6_forget 12000 S 26 b) := by
  by_cases h : 0 ≤ b ∧ b ≤ 1
  · exact in_8 h
  · exact out_8 hb (by omega)
theorem op_9 {b : Int} (hb : -2147483648 ≤ b ∧ b < 2147483648) : zTwo (f_X5_type 12000 S0 0 b) (fun S => f_X6_type 12000 S 26 b) := by
  by_cases h : 0 ≤ b ∧ b ≤ 127
  · exact in_9 h
  · exact out_9 hb (by omega)
theorem op_12 {b : Int} (hb : -2147483648 ≤ b ∧ b < 2147483648) : zTwo (f_X5_slip 12000 S0 0 b) (fun S => f_X6_slip 12000 S 26 b) := by
  by_cases h : 0 ≤ b ∧ b ≤ 4
  · exact in_12 h
  · exact out_12 hb (by omega)
theorem op_17 {b : Int} (hb : -2147483648 ≤ b ∧ b < 2147483648) : zTwo (f_X5_worked 12000 S0 0 b) (fun S => f_X6_worked 12000 S 26 b) := by
  by_cases h : 0 ≤ b ∧ b ≤ 99
  · exact in_17 h
  · exact out_17 hb (by omega)
theorem op_21 {b : Int} (hb : -2147483648 ≤ b ∧ b < 2147483648) : zTwo (f_X5_roots 12000 S0 0 b) (fun S => f_X6_roots 12000 S 26 b) := by
  by_cases h : 0 ≤ b ∧ b ≤ 9
  · exact in_21 h
  · exact out_21 hb (by omega)
theorem op_22 {b : Int} (hb : -2147483648 ≤ b ∧ b < 2147483648) : zTwo (f_X5_alike 12000 S0 0 b) (fun S => f_X6_alike 12000 S 26 b) := by
  by_cases h : 0 ≤ b ∧ b ≤ 119
  · exact in_22 h
  · exact out_22 hb (by omega)
theorem op_24 {b : Int} (hb : -2147483648 ≤ b ∧ b < 2147483648) : zTwo (f_X5_move 12000 S0 0 b) (fun S => f_X6_move 12000 S 26 b) := by
  by_cases h : 0 ≤ b ∧ b ≤ 119
  · exact in_24 h
  · exact out_24 hb (by omega)
theorem op_31 {b : Int} (hb : -2147483648 ≤ b ∧ b < 2147483648) : zTwo (f_X5_chance 12000 S0 0 b) (fun S => f_X6_chance 12000 S 26 b) := by
  by_cases h : 0 ≤ b ∧ b ≤ 31
  · exact in_31 h
  · exact out_31 hb (by omega)
theorem op_34 {b : Int} (hb : -2147483648 ≤ b ∧ b < 2147483648) : zTwo (f_X5_worst 12000 S0 0 b) (fun S => f_X6_worst 12000 S 26 b) := by
  by_cases h : 0 ≤ b ∧ b ≤ 1
  · exact in_34 h
  · exact out_34 hb (by omega)
theorem op_36 {b : Int} (hb : -2147483648 ≤ b ∧ b < 2147483648) : zTwo (f_X5_third 12000 S0 0 b) (fun S => f_X6_third 12000 S 26 b) := by
  by_cases h : 0 ≤ b ∧ b ≤ 1
  · exact in_36 h
  · exact out_36 hb (by omega)
theorem op_37 {b : Int} (hb : -2147483648 ≤ b ∧ b < 2147483648) : zTwo (f_X5_laid 12000 S0 0 b) (fun S => f_X6_laid 12000 S 26 b) := by
  by_cases h : 0 ≤ b ∧ b ≤ 999999
  · exact in_37 h
  · exact out_37 hb (by omega)
theorem op_40 {b : Int} (hb : -2147483648 ≤ b ∧ b < 2147483648) : zTwo (f_X5_image 12000 S0 0 b) (fun S => f_X6_image 12000 S 26 b) := by
  by_cases h : 0 ≤ b ∧ b ≤ 1
  · exact in_40 h
  · exact out_40 hb (by omega)
theorem op_41 {b : Int} (hb : -2147483648 ≤ b ∧ b < 2147483648) : zTwo (f_X5_from 12000 S0 0 b) (fun S => f_X6_from 12000 S 26 b) := by
  by_cases h : 0 ≤ b ∧ b ≤ 1
  · exact in_41 h
  · exact out_41 hb (by omega)
theorem op_42 {b : Int} (hb : -2147483648 ≤ b ∧ b < 2147483648) : zTwo (f_X5_status 12000 S0 0 b) (fun S => f_X6_status 12000 S 26 b) := by
  by_cases h : 0 ≤ b ∧ b ≤ 2
  · exact in_42 h
  · exact out_42 hb (by omega)
theorem op_43 {b : Int} (hb : -2147483648 ≤ b ∧ b < 2147483648) : zTwo (f_X5_count 12000 S0 0 b) (fun S => f_X6_count 12000 S 26 b) := by
  by_cases h : 0 ≤ b ∧ b ≤ 7
  · exact in_43 h
  · exact out_43 hb (by omega)
theorem op_1 {b c : Int} (hb : -2147483648 ≤ b ∧ b < 2147483648) (hc : -2147483648 ≤ c ∧ c < 2147483648) : zTwo (f_X5_put 12000 S0 0 b c) (fun S => f_X6_put 12000 S 26 b c) := by
  by_cases h : (0 ≤ b ∧ b ≤ 1) ∧ (0 ≤ c ∧ c ≤ 6)
  · exact in_1 h.1 h.2
  · exact out_1 hb hc (by omega)
theorem op_2 {b c : Int} (hb : -2147483648 ≤ b ∧ b < 2147483648) (hc : -2147483648 ≤ c ∧ c < 2147483648) : zTwo (f_X5_rule 12000 S0 0 b c) (fun S => f_X6_rule 12000 S 26 b c) := by
  by_cases h : (0 ≤ b ∧ b ≤ 4) ∧ (0 ≤ c ∧ c ≤ 5)
  · exact in_2 h.1 h.2
  · exact out_2 hb hc (by omega)
theorem op_3 {b c : Int} (hb : -2147483648 ≤ b ∧ b < 2147483648) (hc : -2147483648 ≤ c ∧ c < 2147483648) : zTwo (f_X5_swap 12000 S0 0 b c) (fun S => f_X6_swap 12000 S 26 b c) := by
  by_cases h : (0 ≤ b ∧ b ≤ 4) ∧ (0 ≤ c ∧ c ≤ 4)
  · exact in_3 h.1 h.2
  · exact out_3 hb hc (by omega)
theorem op_6 {b c : Int} (hb : -2147483648 ≤ b ∧ b < 2147483648) (hc : -2147483648 ≤ c ∧ c < 2147483648) : zTwo (f_X5_know 12000 S0 0 b c) (fun S => f_X6_know 12000 S 26 b c) := by
  by_cases h : (0 ≤ b ∧ b ≤ 4) ∧ (0 ≤ c ∧ c ≤ 4)
  · exact in_6 h.1 h.2
  · exact out_6 hb hc (by omega)
theorem op_7 {b c : Int} (hb : -2147483648 ≤ b ∧ b < 2147483648) (hc : -2147483648 ≤ c ∧ c < 2147483648) : zTwo (f_X5_report 12000 S0 0 b c) (fun S => f_X6_report 12000 S 26 b c) := by
  by_cases h : (0 ≤ b ∧ b ≤ 4) ∧ (0 ≤ c ∧ c ≤ 5)
  · exact in_7 h.1 h.2
  · exact out_7 hb hc (by omega)
theorem op_38 {b c : Int} (hb : -2147483648 ≤ b ∧ b < 2147483648) (hc : -2147483648 ≤ c ∧ c < 2147483648) : zTwo (f_X5_lucky 12000 S0 0 b c) (fun S => f_X6_lucky 12000 S 26 b c) := by
  by_cases h : (0 ≤ b ∧ b ≤ 999999) ∧ (0 ≤ c ∧ c ≤ 60)
  · exact in_38 h.1 h.2
  · exact out_38 hb hc (by omega)
theorem op_39 {b : Int} (hb : -2147483648 ≤ b ∧ b < 2147483648) : zTwoL (f_X5_part 12000 S0 0 b) (fun S => f_X6_part 12000 S 26 b) := by
  by_cases h : 0 ≤ b ∧ b ≤ 1
  · exact in_39 h
  · exact out_39 hb (by omega)
theorem op_14 {b : Int} (hb : -2147483648 ≤ b ∧ b < 2147483648) : zTwo (f_X5_rings 12000 S0 0 b) (fun S => f_X6_rings 12000 S 26 b) := by
  by_cases h : 0 ≤ b ∧ b ≤ 4
  · exact in_14 h
  · by_cases h1 : b = -1
    · subst h1
      exact in_14_m
    · exact out_14 hb (by omega)
theorem op_15 {b c : Int} (hb : -2147483648 ≤ b ∧ b < 2147483648) (hc : -2147483648 ≤ c ∧ c < 2147483648) : zTwo (f_X5_opened 12000 S0 0 b c) (fun S => f_X6_opened 12000 S 26 b c) := by
  by_cases h : 0 ≤ b ∧ b ≤ 4 ∧ -1 ≤ c
  · by_cases h1 : c ≤ 0
    · exact in_15a (by omega) (by omega)
    · exact in_15b (by omega) hc (by omega)
  · exact out_15 hb hc (by omega)
theorem op_26 {b : Int} (hb : -2147483648 ≤ b ∧ b < 2147483648) : zTwo (f_X5_make 12000 S0 0 b) (fun S => f_X6_make 12000 S 26 b) := out_26 hb
theorem op_28 {b c : Int} (hb : -2147483648 ≤ b ∧ b < 2147483648) (hc : -2147483648 ≤ c ∧ c < 2147483648) : zTwo (f_X5_fewest 12000 S0 0 b c) (fun S => f_X6_fewest 12000 S 26 b c) := by
  by_cases h : 0 ≤ b ∧ b ≤ 119 ∧ -1 ≤ c
  · exact in_28 (by omega) hc (by omega)
  · exact out_28 hb hc (by omega)
theorem op_29 {b : Int} (hb : -2147483648 ≤ b ∧ b < 2147483648) : zTwo (f_X5_till 12000 S0 0 b) (fun S => f_X6_till 12000 S 26 b) := by
  by_cases h : -1 ≤ b
  · exact in_29 hb h
  · exact out_29 hb (by omega)
theorem op_30 {b : Int} (hb : -2147483648 ≤ b ∧ b < 2147483648) : zTwo (f_X5_mayBe 12000 S0 0 b) (fun S => f_X6_mayBe 12000 S 26 b) := by
  by_cases h : 0 ≤ b ∧ b ≤ 120
  · exact in_30 h
  · by_cases h1 : b = -1
    · subst h1
      exact in_30_m
    · by_cases h2 : 120 ≤ b
      · exact in_30b (by omega)
      · exact out_30 hb (by omega)
