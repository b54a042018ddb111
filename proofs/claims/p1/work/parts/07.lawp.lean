/-- the script, read -/
def rdX (X : List Int) (i : Int) : Option Int := if 0 ≤ i ∧ i < 2147483648 then X[i.toNat]? else none
noncomputable def b_law_0 (X : List Int) (rc : Nat → xS → Nat → Nat → Int → Option (Int × xS)) (fu : Nat) (S : xS) (p0 p1 : Nat) (i0 : Int) : Option (Int × xS) :=
  nmx (S ++ [.inr (.inr (4, xNew_X5))]) fun S1 =>
  bd2 (f_X5_init fu S1 S.length) fun x4 S2 =>
  nmx (S2 ++ [.inr (.inr (5, xNew_X6))]) fun S5 =>
  bd2 (f_X6_init fu S5 S2.length) fun x8 S6 =>
  rc 1 S6 S.length S2.length 0
noncomputable def b_law_1 (X : List Int) (rc : Nat → xS → Nat → Nat → Int → Option (Int × xS)) (fu : Nat) (S : xS) (p0 p1 : Nat) (i0 : Int) : Option (Int × xS) :=
  if wI (((X.length : Int)) - 3) < wI i0 then (some ((1 : Int), S))
  else ((rdX X i0).bind fun x10 =>
  nmx (wI (xAnd x10 63)) fun x12 =>
  if x12 = 0 then ((rdX X (i0 + 1)).bind fun x15 =>
  if isO 4 S p0 = true then
  bd2 (f_X5_boxes fu S p0 x15) fun x19 S17 =>
  (rdX X (i0 + 1)).bind fun x21 =>
  if isO 5 S17 p1 = true then
  bd2 (f_X6_boxes fu S17 p1 x21) fun x25 S23 =>
  if wI x19 = wI x25 then (rc 2 S23 p0 p1 i0)
  else (some ((0 : Int), S23)) else none else none) else
  if x12 = 1 then ((rdX X (i0 + 1)).bind fun x29 =>
  (rdX X (i0 + 2)).bind fun x31 =>
  if isO 4 S p0 = true then
  bd2 (f_X5_put fu S p0 x29 x31) fun x35 S33 =>
  (rdX X (i0 + 1)).bind fun x37 =>
  (rdX X (i0 + 2)).bind fun x39 =>
  if isO 5 S33 p1 = true then
  bd2 (f_X6_put fu S33 p1 x37 x39) fun x43 S41 =>
  if wI x35 = wI x43 then (rc 2 S41 p0 p1 i0)
  else (some ((0 : Int), S41)) else none else none) else
  if x12 = 2 then ((rdX X (i0 + 1)).bind fun x47 =>
  (rdX X (i0 + 2)).bind fun x49 =>
  if isO 4 S p0 = true then
  bd2 (f_X5_rule fu S p0 x47 x49) fun x53 S51 =>
  (rdX X (i0 + 1)).bind fun x55 =>
  (rdX X (i0 + 2)).bind fun x57 =>
  if isO 5 S51 p1 = true then
  bd2 (f_X6_rule fu S51 p1 x55 x57) fun x61 S59 =>
  if wI x53 = wI x61 then (rc 2 S59 p0 p1 i0)
  else (some ((0 : Int), S59)) else none else none) else
  if x12 = 3 then ((rdX X (i0 + 1)).bind fun x65 =>
  (rdX X (i0 + 2)).bind fun x67 =>
  if isO 4 S p0 = true then
  bd2 (f_X5_swap fu S p0 x65 x67) fun x71 S69 =>
  (rdX X (i0 + 1)).bind fun x73 =>
  (rdX X (i0 + 2)).bind fun x75 =>
  if isO 5 S69 p1 = true then
  bd2 (f_X6_swap fu S69 p1 x73 x75) fun x79 S77 =>
  if wI x71 = wI x79 then (rc 2 S77 p0 p1 i0)
  else (some ((0 : Int), S77)) else none else none) else
  if x12 = 4 then ((rdX X (i0 + 1)).bind fun x83 =>
  if isO 4 S p0 = true then
  bd2 (f_X5_lay fu S p0 x83) fun x87 S85 =>
  (rdX X (i0 + 1)).bind fun x89 =>
  if isO 5 S85 p1 = true then
  bd2 (f_X6_lay fu S85 p1 x89) fun x93 S91 =>
  if wI x87 = wI x93 then (rc 2 S91 p0 p1 i0)
  else (some ((0 : Int), S91)) else none else none) else
  if x12 = 5 then (if isO 4 S p0 = true then
  bd2 (f_X5_undo fu S p0) fun x99 S97 =>
  if isO 5 S97 p1 = true then
  bd2 (f_X6_undo fu S97 p1) fun x103 S101 =>
  if wI x99 = wI x103 then (rc 2 S101 p0 p1 i0)
  else (some ((0 : Int), S101)) else none else none) else
  if x12 = 6 then ((rdX X (i0 + 1)).bind fun x107 =>
  (rdX X (i0 + 2)).bind fun x109 =>
  if isO 4 S p0 = true then
  bd2 (f_X5_know fu S p0 x107 x109) fun x113 S111 =>
  (rdX X (i0 + 1)).bind fun x115 =>
  (rdX X (i0 + 2)).bind fun x117 =>
  if isO 5 S111 p1 = true then
  bd2 (f_X6_know fu S111 p1 x115 x117) fun x121 S119 =>
  if wI x113 = wI x121 then (rc 2 S119 p0 p1 i0)
  else (some ((0 : Int), S119)) else none else none) else
  if x12 = 7 then ((rdX X (i0 + 1)).bind fun x125 =>
  (rdX X (i0 + 2)).bind fun x127 =>
  if isO 4 S p0 = true then
  bd2 (f_X5_report fu S p0 x125 x127) fun x131 S129 =>
  (rdX X (i0 + 1)).bind fun x133 =>
  (rdX X (i0 + 2)).bind fun x135 =>
  if isO 5 S129 p1 = true then
  bd2 (f_X6_report fu S129 p1 x133 x135) fun x139 S137 =>
  if wI x131 = wI x139 then (rc 2 S137 p0 p1 i0)
  else (some ((0 : Int), S137)) else none else none) else
  if x12 = 8 then ((rdX X (i0 + 1)).bind fun x143 =>
  if isO 4 S p0 = true then
  bd2 (f_X5_forget fu S p0 x143) fun x147 S145 =>
  (rdX X (i0 + 1)).bind fun x149 =>
  if isO 5 S145 p1 = true then
  bd2 (f_X6_forget fu S145 p1 x149) fun x153 S151 =>
  if wI x147 = wI x153 then (rc 2 S151 p0 p1 i0)
  else (some ((0 : Int), S151)) else none else none) else
  if x12 = 9 then ((rdX X (i0 + 1)).bind fun x157 =>
  if isO 4 S p0 = true then
  bd2 (f_X5_type fu S p0 x157) fun x161 S159 =>
  (rdX X (i0 + 1)).bind fun x163 =>
  if isO 5 S159 p1 = true then
  bd2 (f_X6_type fu S159 p1 x163) fun x167 S165 =>
  if wI x161 = wI x167 then (rc 2 S165 p0 p1 i0)
  else (some ((0 : Int), S165)) else none else none) else
  if x12 = 10 then (if isO 4 S p0 = true then
  bd2 (f_X5_clear fu S p0) fun x173 S171 =>
  if isO 5 S171 p1 = true then
  bd2 (f_X6_clear fu S171 p1) fun x177 S175 =>
  if wI x173 = wI x177 then (rc 2 S175 p0 p1 i0)
  else (some ((0 : Int), S175)) else none else none) else
  if x12 = 11 then (if isO 4 S p0 = true then
  bd2 (f_X5_read fu S p0) fun x183 S181 =>
  if isO 5 S181 p1 = true then
  bd2 (f_X6_read fu S181 p1) fun x187 S185 =>
  if wI x183 = wI x187 then (rc 2 S185 p0 p1 i0)
  else (some ((0 : Int), S185)) else none else none) else
  if x12 = 12 then ((rdX X (i0 + 1)).bind fun x191 =>
  if isO 4 S p0 = true then
  bd2 (f_X5_slip fu S p0 x191) fun x195 S193 =>
  (rdX X (i0 + 1)).bind fun x197 =>
  if isO 5 S193 p1 = true then
  bd2 (f_X6_slip fu S193 p1 x197) fun x201 S199 =>
  if wI x195 = wI x201 then (rc 2 S199 p0 p1 i0)
  else (some ((0 : Int), S199)) else none else none) else
  if x12 = 13 then (if isO 4 S p0 = true then
  bd2 (f_X5_rank fu S p0) fun x207 S205 =>
  if isO 5 S205 p1 = true then
  bd2 (f_X6_rank fu S205 p1) fun x211 S209 =>
  if wI x207 = wI x211 then (rc 2 S209 p0 p1 i0)
  else (some ((0 : Int), S209)) else none else none) else
  if x12 = 14 then ((rdX X (i0 + 1)).bind fun x215 =>
  if isO 4 S p0 = true then
  bd2 (f_X5_rings fu S p0 x215) fun x219 S217 =>
  (rdX X (i0 + 1)).bind fun x221 =>
  if isO 5 S217 p1 = true then
  bd2 (f_X6_rings fu S217 p1 x221) fun x225 S223 =>
  if wI x219 = wI x225 then (rc 2 S223 p0 p1 i0)
  else (some ((0 : Int), S223)) else none else none) else
  if x12 = 15 then ((rdX X (i0 + 1)).bind fun x229 =>
  (rdX X (i0 + 2)).bind fun x231 =>
  if isO 4 S p0 = true then
  bd2 (f_X5_opened fu S p0 x229 x231) fun x235 S233 =>
  (rdX X (i0 + 1)).bind fun x237 =>
  (rdX X (i0 + 2)).bind fun x239 =>
  if isO 5 S233 p1 = true then
  bd2 (f_X6_opened fu S233 p1 x237 x239) fun x243 S241 =>
  if wI x235 = wI x243 then (rc 2 S241 p0 p1 i0)
  else (some ((0 : Int), S241)) else none else none) else
  if x12 = 16 then (if isO 4 S p0 = true then
  bd2 (f_X5_finds fu S p0) fun x249 S247 =>
  if isO 5 S247 p1 = true then
  bd2 (f_X6_finds fu S247 p1) fun x253 S251 =>
  if wI x249 = wI x253 then (rc 2 S251 p0 p1 i0)
  else (some ((0 : Int), S251)) else none else none) else
  if x12 = 17 then ((rdX X (i0 + 1)).bind fun x257 =>
  if isO 4 S p0 = true then
  bd2 (f_X5_worked fu S p0 x257) fun x261 S259 =>
  (rdX X (i0 + 1)).bind fun x263 =>
  if isO 5 S259 p1 = true then
  bd2 (f_X6_worked fu S259 p1 x263) fun x267 S265 =>
  if wI x261 = wI x267 then (rc 2 S265 p0 p1 i0)
  else (some ((0 : Int), S265)) else none else none) else
  if x12 = 18 then (if isO 4 S p0 = true then
  bd2 (f_X5_back fu S p0) fun x273 S271 =>
  if isO 5 S271 p1 = true then
  bd2 (f_X6_back fu S271 p1) fun x277 S275 =>
  if wI x273 = wI x277 then (rc 2 S275 p0 p1 i0)
  else (some ((0 : Int), S275)) else none else none) else
  if x12 = 19 then (if isO 4 S p0 = true then
  bd2 (f_X5_undoes fu S p0) fun x283 S281 =>
  if isO 5 S281 p1 = true then
  bd2 (f_X6_undoes fu S281 p1) fun x287 S285 =>
  if wI x283 = wI x287 then (rc 2 S285 p0 p1 i0)
  else (some ((0 : Int), S285)) else none else none) else
  if x12 = 20 then (if isO 4 S p0 = true then
  bd2 (f_X5_goesWith fu S p0) fun x293 S291 =>
  if isO 5 S291 p1 = true then
  bd2 (f_X6_goesWith fu S291 p1) fun x297 S295 =>
  if wI x293 = wI x297 then (rc 2 S295 p0 p1 i0)
  else (some ((0 : Int), S295)) else none else none) else
  if x12 = 21 then ((rdX X (i0 + 1)).bind fun x301 =>
  if isO 4 S p0 = true then
  bd2 (f_X5_roots fu S p0 x301) fun x305 S303 =>
  (rdX X (i0 + 1)).bind fun x307 =>
  if isO 5 S303 p1 = true then
  bd2 (f_X6_roots fu S303 p1 x307) fun x311 S309 =>
  if wI x305 = wI x311 then (rc 2 S309 p0 p1 i0)
  else (some ((0 : Int), S309)) else none else none) else
  if x12 = 22 then ((rdX X (i0 + 1)).bind fun x315 =>
  if isO 4 S p0 = true then
  bd2 (f_X5_alike fu S p0 x315) fun x319 S317 =>
  (rdX X (i0 + 1)).bind fun x321 =>
  if isO 5 S317 p1 = true then
  bd2 (f_X6_alike fu S317 p1 x321) fun x325 S323 =>
  if wI x319 = wI x325 then (rc 2 S323 p0 p1 i0)
  else (some ((0 : Int), S323)) else none else none) else
  if x12 = 23 then (if isO 4 S p0 = true then
  bd2 (f_X5_even fu S p0) fun x331 S329 =>
  if isO 5 S329 p1 = true then
  bd2 (f_X6_even fu S329 p1) fun x335 S333 =>
  if wI x331 = wI x335 then (rc 2 S333 p0 p1 i0)
  else (some ((0 : Int), S333)) else none else none) else
  if x12 = 24 then ((rdX X (i0 + 1)).bind fun x339 =>
  if isO 4 S p0 = true then
  bd2 (f_X5_move fu S p0 x339) fun x343 S341 =>
  (rdX X (i0 + 1)).bind fun x345 =>
  if isO 5 S341 p1 = true then
  bd2 (f_X6_move fu S341 p1 x345) fun x349 S347 =>
  if wI x343 = wI x349 then (rc 2 S347 p0 p1 i0)
  else (some ((0 : Int), S347)) else none else none) else
  if x12 = 25 then (if isO 4 S p0 = true then
  bd2 (f_X5_drop fu S p0) fun x355 S353 =>
  if isO 5 S353 p1 = true then
  bd2 (f_X6_drop fu S353 p1) fun x359 S357 =>
  if wI x355 = wI x359 then (rc 2 S357 p0 p1 i0)
  else (some ((0 : Int), S357)) else none else none) else
  if x12 = 26 then ((rdX X (i0 + 1)).bind fun x363 =>
  if isO 4 S p0 = true then
  bd2 (f_X5_make fu S p0 x363) fun x367 S365 =>
  (rdX X (i0 + 1)).bind fun x369 =>
  if isO 5 S365 p1 = true then
  bd2 (f_X6_make fu S365 p1 x369) fun x373 S371 =>
  if wI x367 = wI x373 then (rc 2 S371 p0 p1 i0)
  else (some ((0 : Int), S371)) else none else none) else
  if x12 = 27 then (if isO 4 S p0 = true then
  bd2 (f_X5_group fu S p0) fun x379 S377 =>
  if isO 5 S377 p1 = true then
  bd2 (f_X6_group fu S377 p1) fun x383 S381 =>
  if wI x379 = wI x383 then (rc 2 S381 p0 p1 i0)
  else (some ((0 : Int), S381)) else none else none) else
  if x12 = 28 then ((rdX X (i0 + 1)).bind fun x387 =>
  (rdX X (i0 + 2)).bind fun x389 =>
  if isO 4 S p0 = true then
  bd2 (f_X5_fewest fu S p0 x387 x389) fun x393 S391 =>
  (rdX X (i0 + 1)).bind fun x395 =>
  (rdX X (i0 + 2)).bind fun x397 =>
  if isO 5 S391 p1 = true then
  bd2 (f_X6_fewest fu S391 p1 x395 x397) fun x401 S399 =>
  if wI x393 = wI x401 then (rc 2 S399 p0 p1 i0)
  else (some ((0 : Int), S399)) else none else none) else
  if x12 = 29 then ((rdX X (i0 + 1)).bind fun x405 =>
  if isO 4 S p0 = true then
  bd2 (f_X5_till fu S p0 x405) fun x409 S407 =>
  (rdX X (i0 + 1)).bind fun x411 =>
  if isO 5 S407 p1 = true then
  bd2 (f_X6_till fu S407 p1 x411) fun x415 S413 =>
  if wI x409 = wI x415 then (rc 2 S413 p0 p1 i0)
  else (some ((0 : Int), S413)) else none else none) else
  if x12 = 30 then ((rdX X (i0 + 1)).bind fun x419 =>
  if isO 4 S p0 = true then
  bd2 (f_X5_mayBe fu S p0 x419) fun x423 S421 =>
  (rdX X (i0 + 1)).bind fun x425 =>
  if isO 5 S421 p1 = true then
  bd2 (f_X6_mayBe fu S421 p1 x425) fun x429 S427 =>
  if wI x423 = wI x429 then (rc 2 S427 p0 p1 i0)
  else (some ((0 : Int), S427)) else none else none) else
  if x12 = 31 then ((rdX X (i0 + 1)).bind fun x433 =>
  if isO 4 S p0 = true then
  bd2 (f_X5_chance fu S p0 x433) fun x437 S435 =>
  (rdX X (i0 + 1)).bind fun x439 =>
  if isO 5 S435 p1 = true then
  bd2 (f_X6_chance fu S435 p1 x439) fun x443 S441 =>
  if wI x437 = wI x443 then (rc 2 S441 p0 p1 i0)
  else (some ((0 : Int), S441)) else none else none) else
  if x12 = 32 then (if isO 4 S p0 = true then
  bd2 (f_X5_look fu S p0) fun x449 S447 =>
  if isO 5 S447 p1 = true then
  bd2 (f_X6_look fu S447 p1) fun x453 S451 =>
  if wI x449 = wI x453 then (rc 2 S451 p0 p1 i0)
  else (some ((0 : Int), S451)) else none else none) else
  if x12 = 33 then (if isO 4 S p0 = true then
  bd2 (f_X5_advice fu S p0) fun x459 S457 =>
  if isO 5 S457 p1 = true then
  bd2 (f_X6_advice fu S457 p1) fun x463 S461 =>
  if wI x459 = wI x463 then (rc 2 S461 p0 p1 i0)
  else (some ((0 : Int), S461)) else none else none) else
  if x12 = 34 then ((rdX X (i0 + 1)).bind fun x467 =>
  if isO 4 S p0 = true then
  bd2 (f_X5_worst fu S p0 x467) fun x471 S469 =>
  (rdX X (i0 + 1)).bind fun x473 =>
  if isO 5 S469 p1 = true then
  bd2 (f_X6_worst fu S469 p1 x473) fun x477 S475 =>
  if wI x471 = wI x477 then (rc 2 S475 p0 p1 i0)
  else (some ((0 : Int), S475)) else none else none) else
  if x12 = 35 then (if isO 4 S p0 = true then
  bd2 (f_X5_mended fu S p0) fun x483 S481 =>
  if isO 5 S481 p1 = true then
  bd2 (f_X6_mended fu S481 p1) fun x487 S485 =>
  if wI x483 = wI x487 then (rc 2 S485 p0 p1 i0)
  else (some ((0 : Int), S485)) else none else none) else
  if x12 = 36 then ((rdX X (i0 + 1)).bind fun x491 =>
  if isO 4 S p0 = true then
  bd2 (f_X5_third fu S p0 x491) fun x495 S493 =>
  (rdX X (i0 + 1)).bind fun x497 =>
  if isO 5 S493 p1 = true then
  bd2 (f_X6_third fu S493 p1 x497) fun x501 S499 =>
  if wI x495 = wI x501 then (rc 2 S499 p0 p1 i0)
  else (some ((0 : Int), S499)) else none else none) else
  if x12 = 37 then ((rdX X (i0 + 1)).bind fun x505 =>
  if isO 4 S p0 = true then
  bd2 (f_X5_laid fu S p0 x505) fun x509 S507 =>
  (rdX X (i0 + 1)).bind fun x511 =>
  if isO 5 S507 p1 = true then
  bd2 (f_X6_laid fu S507 p1 x511) fun x515 S513 =>
  if wI x509 = wI x515 then (rc 2 S513 p0 p1 i0)
  else (some ((0 : Int), S513)) else none else none) else
  if x12 = 38 then ((rdX X (i0 + 1)).bind fun x519 =>
  (rdX X (i0 + 2)).bind fun x521 =>
  if isO 4 S p0 = true then
  bd2 (f_X5_lucky fu S p0 x519 x521) fun x525 S523 =>
  (rdX X (i0 + 1)).bind fun x527 =>
  (rdX X (i0 + 2)).bind fun x529 =>
  if isO 5 S523 p1 = true then
  bd2 (f_X6_lucky fu S523 p1 x527 x529) fun x533 S531 =>
  if wI x525 = wI x533 then (rc 2 S531 p0 p1 i0)
  else (some ((0 : Int), S531)) else none else none) else
  if x12 = 39 then ((rdX X (i0 + 1)).bind fun x537 =>
  if isO 4 S p0 = true then
  bd2 (f_X5_part fu S p0 x537) fun x541 S539 =>
  (rdX X (i0 + 1)).bind fun x543 =>
  if isO 5 S539 p1 = true then
  bd2 (f_X6_part fu S539 p1 x543) fun x547 S545 =>
  if wI (xLcmp x541 x547) = 0 then (rc 2 S545 p0 p1 i0)
  else (some ((0 : Int), S545)) else none else none) else
  if x12 = 40 then ((rdX X (i0 + 1)).bind fun x551 =>
  if isO 4 S p0 = true then
  bd2 (f_X5_image fu S p0 x551) fun x555 S553 =>
  (rdX X (i0 + 1)).bind fun x557 =>
  if isO 5 S553 p1 = true then
  bd2 (f_X6_image fu S553 p1 x557) fun x561 S559 =>
  if wI x555 = wI x561 then (rc 2 S559 p0 p1 i0)
  else (some ((0 : Int), S559)) else none else none) else
  if x12 = 41 then ((rdX X (i0 + 1)).bind fun x565 =>
  if isO 4 S p0 = true then
  bd2 (f_X5_from fu S p0 x565) fun x569 S567 =>
  (rdX X (i0 + 1)).bind fun x571 =>
  if isO 5 S567 p1 = true then
  bd2 (f_X6_from fu S567 p1 x571) fun x575 S573 =>
  if wI x569 = wI x575 then (rc 2 S573 p0 p1 i0)
  else (some ((0 : Int), S573)) else none else none) else
  if x12 = 42 then ((rdX X (i0 + 1)).bind fun x579 =>
  if isO 4 S p0 = true then
  bd2 (f_X5_status fu S p0 x579) fun x583 S581 =>
  (rdX X (i0 + 1)).bind fun x585 =>
  if isO 5 S581 p1 = true then
  bd2 (f_X6_status fu S581 p1 x585) fun x589 S587 =>
  if wI x583 = wI x589 then (rc 2 S587 p0 p1 i0)
  else (some ((0 : Int), S587)) else none else none) else
  if x12 = 43 then ((rdX X (i0 + 1)).bind fun x593 =>
  if isO 4 S p0 = true then
  bd2 (f_X5_count fu S p0 x593) fun x597 S595 =>
  (rdX X (i0 + 1)).bind fun x599 =>
  if isO 5 S595 p1 = true then
  bd2 (f_X6_count fu S595 p1 x599) fun x603 S601 =>
  if wI x597 = wI x603 then (rc 2 S601 p0 p1 i0)
  else (some ((0 : Int), S601)) else none else none) else
  if x12 = 44 then (if isO 4 S p0 = true then
  bd2 (f_X5_digest fu S p0) fun x609 S607 =>
  if isO 5 S607 p1 = true then
  bd2 (f_X6_digest fu S607 p1) fun x613 S611 =>
  if wI (xLcmp x609 x613) = 0 then (rc 2 S611 p0 p1 i0)
  else (some ((0 : Int), S611)) else none else none) else
  (rc 2 S p0 p1 i0))
noncomputable def b_law_2 (X : List Int) (rc : Nat → xS → Nat → Nat → Int → Option (Int × xS)) (fu : Nat) (S : xS) (p0 p1 : Nat) (i0 : Int) : Option (Int × xS) :=
  nmx (i0 + 3) fun x616 =>
  rc 1 S p0 p1 x616
noncomputable def s_law (X : List Int) (rc : Nat → xS → Nat → Nat → Int → Option (Int × xS)) (fu lb : Nat) (S : xS) (p0 p1 : Nat) (i0 : Int) : Option (Int × xS) := match lb with
    | 0 => b_law_0 X rc fu S p0 p1 i0
    | 1 => b_law_1 X rc fu S p0 p1 i0
    | _ => b_law_2 X rc fu S p0 p1 i0
noncomputable def g_law (X : List Int) (k : Nat) : Nat → xS → Nat → Nat → Int → Option (Int × xS) := Nat.rec (motive := fun _ => Nat → xS → Nat → Nat → Int → Option (Int × xS)) (fun _ _ _ _ _ => none) (fun fu rc => s_law X rc fu) k
noncomputable def f_law (fu : Nat) (X : List Int) : Option (Int × xS) := g_law X fu 0 [] 0 0 0
