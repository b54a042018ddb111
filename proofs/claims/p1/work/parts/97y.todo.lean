theorem in_31 {b : Int} (h : 0 ≤ b ∧ b ≤ 31) : zTwo (f_X5_chance 12000 S0 0 b) (fun S => f_X6_chance 12000 S 26 b) := sorry
theorem in_33 : zTwo (f_X5_advice 12000 S0 0) (fun S => f_X6_advice 12000 S 26) := sorry
theorem in_30 {b : Int} (h : 0 ≤ b ∧ b ≤ 120) : zTwo (f_X5_mayBe 12000 S0 0 b) (fun S => f_X6_mayBe 12000 S 26 b) := sorry
