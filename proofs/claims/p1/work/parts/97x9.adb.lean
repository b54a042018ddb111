set_option maxRecDepth 100000 in
theorem yB_c0 : zIt yRf 20 0 yB0 = some yB1 := zeS_s (by decide +kernel)
set_option maxRecDepth 100000 in
theorem yB_c1 : zIt yRf 20 20 yB1 = some yB2 := zeS_s (by decide +kernel)
set_option maxRecDepth 100000 in
theorem yB_c2 : zIt yRf 20 40 yB2 = some yB3 := zeS_s (by decide +kernel)
set_option maxRecDepth 100000 in
theorem yB_c3 : zIt yRf 20 60 yB3 = some yB4 := zeS_s (by decide +kernel)
set_option maxRecDepth 100000 in
theorem yB_c4 : zIt yRf 20 80 yB4 = some yB5 := zeS_s (by decide +kernel)
set_option maxRecDepth 100000 in
theorem yB_c5 : zIt yRf 20 100 yB5 = some yB6 := zeS_s (by decide +kernel)
