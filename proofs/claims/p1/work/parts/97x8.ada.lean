set_option maxRecDepth 100000 in
theorem yA_c0 : zIt yRow 20 0 yA0 = some yA1 := zeS_s (by decide +kernel)
set_option maxRecDepth 100000 in
theorem yA_c1 : zIt yRow 20 20 yA1 = some yA2 := zeS_s (by decide +kernel)
set_option maxRecDepth 100000 in
theorem yA_c2 : zIt yRow 20 40 yA2 = some yA3 := zeS_s (by decide +kernel)
set_option maxRecDepth 100000 in
theorem yA_c3 : zIt yRow 20 60 yA3 = some yA4 := zeS_s (by decide +kernel)
set_option maxRecDepth 100000 in
theorem yA_c4 : zIt yRow 20 80 yA4 = some yA5 := zeS_s (by decide +kernel)
set_option maxRecDepth 100000 in
theorem yA_c5 : zIt yRow 20 100 yA5 = some yA6 := zeS_s (by decide +kernel)
