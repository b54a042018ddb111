set_option maxRecDepth 100000 in
theorem in_33 : zTwo (f_X5_advice 12000 S0 0) (fun S => f_X6_advice 12000 S 26) := zTwo_of (by decide +kernel)
