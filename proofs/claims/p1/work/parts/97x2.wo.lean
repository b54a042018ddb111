set_option maxRecDepth 100000 in
theorem in_34_1 : zTwo (f_X5_worst 12000 S0 0 1) (fun S => f_X6_worst 12000 S 26 1) := zTwo_of (by decide +kernel)
theorem in_34 {b : Int} (h : 0 ≤ b ∧ b ≤ 1) : zTwo (f_X5_worst 12000 S0 0 b) (fun S => f_X6_worst 12000 S 26 b) := by
  rcases (show b = 0 ∨ b = 1 by omega) with rfl | rfl
  · exact in_34_0
  · exact in_34_1
