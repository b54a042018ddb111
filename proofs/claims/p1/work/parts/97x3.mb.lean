set_option maxRecDepth 100000 in
theorem in_30_m : zTwo (f_X5_mayBe 12000 S0 0 (-1)) (fun S => f_X6_mayBe 12000 S 26 (-1)) := zTwo_of (by decide +kernel)
