set_option maxRecDepth 100000 in
theorem zt_20 : zChk (f_X5_goesWith 12000 S0 0) (fun S => f_X6_goesWith 12000 S 26) = true := by decide +kernel
