set_option maxRecDepth 100000 in
theorem in_34_0 : zTwo (f_X5_worst 12000 S0 0 0) (fun S => f_X6_worst 12000 S 26 0) := zTwo_of (by decide +kernel)
