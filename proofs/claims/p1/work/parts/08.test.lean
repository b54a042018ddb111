set_option maxRecDepth 100000
theorem zt_1 : ((f_law 400 [13, 0, 0]).map Prod.fst == some 1) = true := by decide +kernel
