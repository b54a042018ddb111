set_option maxRecDepth 100000 in
theorem in_20 : zTwo (f_X5_goesWith 12000 S0 0) (fun S => f_X6_goesWith 12000 S 26) := zTwo_of (by decide +kernel)
set_option maxRecDepth 100000 in
theorem in_35 : zTwo (f_X5_mended 12000 S0 0) (fun S => f_X6_mended 12000 S 26) := zTwo_of (by decide +kernel)
set_option maxRecDepth 100000 in
theorem in_32 : zTwo (f_X5_look 12000 S0 0) (fun S => f_X6_look 12000 S 26) := zTwo_of (by decide +kernel)
