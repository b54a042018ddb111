/-- the script, read -/
def rdX (X : List Int) (i : Int) : Option Int := if 0 ≤ i ∧ i < 2147483648 then X[i.toNat]? else none
noncomputable def b_law_0 (X : List Int) (rc : Nat → xS → Nat → Nat → Int → Option (Int × xS)) (fu : Nat) (S : xS) (p0 p1 : Nat) (i0 : Int) : Option (Int × xS) :=
  nmx (S ++ [.inr (.inr (4, xNew_X5))]) fun S1 =>
  bd2 (f_X5_init fu S1 S.length) fun x4 S2 =>
  nmx (S2 ++ [.inr (.inr (5, xNew_X6))]) fun S5 =>
  bd2 (f_X6_init fu S5 S2.length) fun x8 S6 =>
  rc 1 S6 S.length S2.length 0
noncomputable def b_law_1 (X : List Int) (rc : Nat → xS → Nat → Nat → Int → Option (Int × xS)) (fu : Nat) (S : xS) (p0 p1 : Nat) (i0 : Int) : Option (Int × xS) :=
  if wI (((X.length : Int)) - 3) < wI i0 then (some ((1 : Int), S))
  else ((rdX X i0).bind fun x10 =>
  nmx (wI (xAnd x10 63)) fun x12 =>
  if x12 = 0 then ((rdX X (i0 + 1)).bind fun x15 =>
  if isO 4 S p0 = true then
  bd2 (f_X5_boxes fu S p0 x15) fun x19 S17 =>
  (rdX X (i0 + 1)).bind fun x21 =>
  if isO 5 S17 p1 = true then
  bd2 (f_X6_boxes fu S17 p1 x21) fun x25 S23 =>
  rc 2 S23 p0 p1 i0 else none else none) else
  if x12 = 1 then ((rdX X (i0 + 1)).bind fun x28 =>
  (rdX X (i0 + 2)).bind fun x30 =>
  if isO 4 S p0 = true then
  bd2 (f_X5_put fu S p0 x28 x30) fun x34 S32 =>
  (rdX X (i0 + 1)).bind fun x36 =>
  (rdX X (i0 + 2)).bind fun x38 =>
  if isO 5 S32 p1 = true then
  bd2 (f_X6_put fu S32 p1 x36 x38) fun x42 S40 =>
  rc 2 S40 p0 p1 i0 else none else none) else
  if x12 = 2 then ((rdX X (i0 + 1)).bind fun x45 =>
  (rdX X (i0 + 2)).bind fun x47 =>
  if isO 4 S p0 = true then
  bd2 (f_X5_rule fu S p0 x45 x47) fun x51 S49 =>
  (rdX X (i0 + 1)).bind fun x53 =>
  (rdX X (i0 + 2)).bind fun x55 =>
  if isO 5 S49 p1 = true then
  bd2 (f_X6_rule fu S49 p1 x53 x55) fun x59 S57 =>
  rc 2 S57 p0 p1 i0 else none else none) else
  if x12 = 3 then ((rdX X (i0 + 1)).bind fun x62 =>
  (rdX X (i0 + 2)).bind fun x64 =>
  if isO 4 S p0 = true then
  bd2 (f_X5_swap fu S p0 x62 x64) fun x68 S66 =>
  (rdX X (i0 + 1)).bind fun x70 =>
  (rdX X (i0 + 2)).bind fun x72 =>
  if isO 5 S66 p1 = true then
  bd2 (f_X6_swap fu S66 p1 x70 x72) fun x76 S74 =>
  rc 2 S74 p0 p1 i0 else none else none) else
  if x12 = 4 then ((rdX X (i0 + 1)).bind fun x79 =>
  if isO 4 S p0 = true then
  bd2 (f_X5_lay fu S p0 x79) fun x83 S81 =>
  (rdX X (i0 + 1)).bind fun x85 =>
  if isO 5 S81 p1 = true then
  bd2 (f_X6_lay fu S81 p1 x85) fun x89 S87 =>
  rc 2 S87 p0 p1 i0 else none else none) else
  if x12 = 5 then (if isO 4 S p0 = true then
  bd2 (f_X5_undo fu S p0) fun x94 S92 =>
  if isO 5 S92 p1 = true then
  bd2 (f_X6_undo fu S92 p1) fun x98 S96 =>
  rc 2 S96 p0 p1 i0 else none else none) else
  if x12 = 6 then ((rdX X (i0 + 1)).bind fun x101 =>
  (rdX X (i0 + 2)).bind fun x103 =>
  if isO 4 S p0 = true then
  bd2 (f_X5_know fu S p0 x101 x103) fun x107 S105 =>
  (rdX X (i0 + 1)).bind fun x109 =>
  (rdX X (i0 + 2)).bind fun x111 =>
  if isO 5 S105 p1 = true then
  bd2 (f_X6_know fu S105 p1 x109 x111) fun x115 S113 =>
  rc 2 S113 p0 p1 i0 else none else none) else
  if x12 = 7 then ((rdX X (i0 + 1)).bind fun x118 =>
  (rdX X (i0 + 2)).bind fun x120 =>
  if isO 4 S p0 = true then
  bd2 (f_X5_report fu S p0 x118 x120) fun x124 S122 =>
  (rdX X (i0 + 1)).bind fun x126 =>
  (rdX X (i0 + 2)).bind fun x128 =>
  if isO 5 S122 p1 = true then
  bd2 (f_X6_report fu S122 p1 x126 x128) fun x132 S130 =>
  rc 2 S130 p0 p1 i0 else none else none) else
  if x12 = 8 then ((rdX X (i0 + 1)).bind fun x135 =>
  if isO 4 S p0 = true then
  bd2 (f_X5_forget fu S p0 x135) fun x139 S137 =>
  (rdX X (i0 + 1)).bind fun x141 =>
  if isO 5 S137 p1 = true then
  bd2 (f_X6_forget fu S137 p1 x141) fun x145 S143 =>
  rc 2 S143 p0 p1 i0 else none else none) else
  if x12 = 9 then ((rdX X (i0 + 1)).bind fun x148 =>
  if isO 4 S p0 = true then
  bd2 (f_X5_type fu S p0 x148) fun x152 S150 =>
  (rdX X (i0 + 1)).bind fun x154 =>
  if isO 5 S150 p1 = true then
  bd2 (f_X6_type fu S150 p1 x154) fun x158 S156 =>
  rc 2 S156 p0 p1 i0 else none else none) else
  if x12 = 10 then (if isO 4 S p0 = true then
  bd2 (f_X5_clear fu S p0) fun x163 S161 =>
  if isO 5 S161 p1 = true then
  bd2 (f_X6_clear fu S161 p1) fun x167 S165 =>
  rc 2 S165 p0 p1 i0 else none else none) else
  if x12 = 11 then (if isO 4 S p0 = true then
  bd2 (f_X5_read fu S p0) fun x172 S170 =>
  if isO 5 S170 p1 = true then
  bd2 (f_X6_read fu S170 p1) fun x176 S174 =>
  rc 2 S174 p0 p1 i0 else none else none) else
  if x12 = 12 then ((rdX X (i0 + 1)).bind fun x179 =>
  if isO 4 S p0 = true then
  bd2 (f_X5_slip fu S p0 x179) fun x183 S181 =>
  (rdX X (i0 + 1)).bind fun x185 =>
  if isO 5 S181 p1 = true then
  bd2 (f_X6_slip fu S181 p1 x185) fun x189 S187 =>
  rc 2 S187 p0 p1 i0 else none else none) else
  if x12 = 13 then (if isO 4 S p0 = true then
  bd2 (f_X5_rank fu S p0) fun x194 S192 =>
  if isO 5 S192 p1 = true then
  bd2 (f_X6_rank fu S192 p1) fun x198 S196 =>
  rc 2 S196 p0 p1 i0 else none else none) else
  if x12 = 14 then ((rdX X (i0 + 1)).bind fun x201 =>
  if isO 4 S p0 = true then
  bd2 (f_X5_rings fu S p0 x201) fun x205 S203 =>
  (rdX X (i0 + 1)).bind fun x207 =>
  if isO 5 S203 p1 = true then
  bd2 (f_X6_rings fu S203 p1 x207) fun x211 S209 =>
  rc 2 S209 p0 p1 i0 else none else none) else
  if x12 = 15 then ((rdX X (i0 + 1)).bind fun x214 =>
  (rdX X (i0 + 2)).bind fun x216 =>
  if isO 4 S p0 = true then
  bd2 (f_X5_opened fu S p0 x214 x216) fun x220 S218 =>
  (rdX X (i0 + 1)).bind fun x222 =>
  (rdX X (i0 + 2)).bind fun x224 =>
  if isO 5 S218 p1 = true then
  bd2 (f_X6_opened fu S218 p1 x222 x224) fun x228 S226 =>
  rc 2 S226 p0 p1 i0 else none else none) else
  if x12 = 16 then (if isO 4 S p0 = true then
  bd2 (f_X5_finds fu S p0) fun x233 S231 =>
  if isO 5 S231 p1 = true then
  bd2 (f_X6_finds fu S231 p1) fun x237 S235 =>
  rc 2 S235 p0 p1 i0 else none else none) else
  if x12 = 17 then ((rdX X (i0 + 1)).bind fun x240 =>
  if isO 4 S p0 = true then
  bd2 (f_X5_worked fu S p0 x240) fun x244 S242 =>
  (rdX X (i0 + 1)).bind fun x246 =>
  if isO 5 S242 p1 = true then
  bd2 (f_X6_worked fu S242 p1 x246) fun x250 S248 =>
  rc 2 S248 p0 p1 i0 else none else none) else
  if x12 = 18 then (if isO 4 S p0 = true then
  bd2 (f_X5_back fu S p0) fun x255 S253 =>
  if isO 5 S253 p1 = true then
  bd2 (f_X6_back fu S253 p1) fun x259 S257 =>
  rc 2 S257 p0 p1 i0 else none else none) else
  if x12 = 19 then (if isO 4 S p0 = true then
  bd2 (f_X5_undoes fu S p0) fun x264 S262 =>
  if isO 5 S262 p1 = true then
  bd2 (f_X6_undoes fu S262 p1) fun x268 S266 =>
  rc 2 S266 p0 p1 i0 else none else none) else
  if x12 = 20 then (if isO 4 S p0 = true then
  bd2 (f_X5_goesWith fu S p0) fun x273 S271 =>
  if isO 5 S271 p1 = true then
  bd2 (f_X6_goesWith fu S271 p1) fun x277 S275 =>
  rc 2 S275 p0 p1 i0 else none else none) else
  if x12 = 21 then ((rdX X (i0 + 1)).bind fun x280 =>
  if isO 4 S p0 = true then
  bd2 (f_X5_roots fu S p0 x280) fun x284 S282 =>
  (rdX X (i0 + 1)).bind fun x286 =>
  if isO 5 S282 p1 = true then
  bd2 (f_X6_roots fu S282 p1 x286) fun x290 S288 =>
  rc 2 S288 p0 p1 i0 else none else none) else
  if x12 = 22 then ((rdX X (i0 + 1)).bind fun x293 =>
  if isO 4 S p0 = true then
  bd2 (f_X5_alike fu S p0 x293) fun x297 S295 =>
  (rdX X (i0 + 1)).bind fun x299 =>
  if isO 5 S295 p1 = true then
  bd2 (f_X6_alike fu S295 p1 x299) fun x303 S301 =>
  rc 2 S301 p0 p1 i0 else none else none) else
  if x12 = 23 then (if isO 4 S p0 = true then
  bd2 (f_X5_even fu S p0) fun x308 S306 =>
  if isO 5 S306 p1 = true then
  bd2 (f_X6_even fu S306 p1) fun x312 S310 =>
  rc 2 S310 p0 p1 i0 else none else none) else
  if x12 = 24 then ((rdX X (i0 + 1)).bind fun x315 =>
  if isO 4 S p0 = true then
  bd2 (f_X5_move fu S p0 x315) fun x319 S317 =>
  (rdX X (i0 + 1)).bind fun x321 =>
  if isO 5 S317 p1 = true then
  bd2 (f_X6_move fu S317 p1 x321) fun x325 S323 =>
  rc 2 S323 p0 p1 i0 else none else none) else
  if x12 = 25 then (if isO 4 S p0 = true then
  bd2 (f_X5_drop fu S p0) fun x330 S328 =>
  if isO 5 S328 p1 = true then
  bd2 (f_X6_drop fu S328 p1) fun x334 S332 =>
  rc 2 S332 p0 p1 i0 else none else none) else
  if x12 = 26 then ((rdX X (i0 + 1)).bind fun x337 =>
  if isO 4 S p0 = true then
  bd2 (f_X5_make fu S p0 x337) fun x341 S339 =>
  (rdX X (i0 + 1)).bind fun x343 =>
  if isO 5 S339 p1 = true then
  bd2 (f_X6_make fu S339 p1 x343) fun x347 S345 =>
  rc 2 S345 p0 p1 i0 else none else none) else
  if x12 = 27 then (if isO 4 S p0 = true then
  bd2 (f_X5_group fu S p0) fun x352 S350 =>
  if isO 5 S350 p1 = true then
  bd2 (f_X6_group fu S350 p1) fun x356 S354 =>
  rc 2 S354 p0 p1 i0 else none else none) else
  if x12 = 28 then ((rdX X (i0 + 1)).bind fun x359 =>
  (rdX X (i0 + 2)).bind fun x361 =>
  if isO 4 S p0 = true then
  bd2 (f_X5_fewest fu S p0 x359 x361) fun x365 S363 =>
  (rdX X (i0 + 1)).bind fun x367 =>
  (rdX X (i0 + 2)).bind fun x369 =>
  if isO 5 S363 p1 = true then
  bd2 (f_X6_fewest fu S363 p1 x367 x369) fun x373 S371 =>
  rc 2 S371 p0 p1 i0 else none else none) else
  if x12 = 29 then ((rdX X (i0 + 1)).bind fun x376 =>
  if isO 4 S p0 = true then
  bd2 (f_X5_till fu S p0 x376) fun x380 S378 =>
  (rdX X (i0 + 1)).bind fun x382 =>
  if isO 5 S378 p1 = true then
  bd2 (f_X6_till fu S378 p1 x382) fun x386 S384 =>
  rc 2 S384 p0 p1 i0 else none else none) else
  if x12 = 30 then ((rdX X (i0 + 1)).bind fun x389 =>
  if isO 4 S p0 = true then
  bd2 (f_X5_mayBe fu S p0 x389) fun x393 S391 =>
  (rdX X (i0 + 1)).bind fun x395 =>
  if isO 5 S391 p1 = true then
  bd2 (f_X6_mayBe fu S391 p1 x395) fun x399 S397 =>
  rc 2 S397 p0 p1 i0 else none else none) else
  if x12 = 31 then ((rdX X (i0 + 1)).bind fun x402 =>
  if isO 4 S p0 = true then
  bd2 (f_X5_chance fu S p0 x402) fun x406 S404 =>
  (rdX X (i0 + 1)).bind fun x408 =>
  if isO 5 S404 p1 = true then
  bd2 (f_X6_chance fu S404 p1 x408) fun x412 S410 =>
  rc 2 S410 p0 p1 i0 else none else none) else
  if x12 = 32 then (if isO 4 S p0 = true then
  bd2 (f_X5_look fu S p0) fun x417 S415 =>
  if isO 5 S415 p1 = true then
  bd2 (f_X6_look fu S415 p1) fun x421 S419 =>
  rc 2 S419 p0 p1 i0 else none else none) else
  if x12 = 33 then (if isO 4 S p0 = true then
  bd2 (f_X5_advice fu S p0) fun x426 S424 =>
  if isO 5 S424 p1 = true then
  bd2 (f_X6_advice fu S424 p1) fun x430 S428 =>
  rc 2 S428 p0 p1 i0 else none else none) else
  if x12 = 34 then ((rdX X (i0 + 1)).bind fun x433 =>
  if isO 4 S p0 = true then
  bd2 (f_X5_worst fu S p0 x433) fun x437 S435 =>
  (rdX X (i0 + 1)).bind fun x439 =>
  if isO 5 S435 p1 = true then
  bd2 (f_X6_worst fu S435 p1 x439) fun x443 S441 =>
  rc 2 S441 p0 p1 i0 else none else none) else
  if x12 = 35 then (if isO 4 S p0 = true then
  bd2 (f_X5_mended fu S p0) fun x448 S446 =>
  if isO 5 S446 p1 = true then
  bd2 (f_X6_mended fu S446 p1) fun x452 S450 =>
  rc 2 S450 p0 p1 i0 else none else none) else
  if x12 = 36 then ((rdX X (i0 + 1)).bind fun x455 =>
  if isO 4 S p0 = true then
  bd2 (f_X5_third fu S p0 x455) fun x459 S457 =>
  (rdX X (i0 + 1)).bind fun x461 =>
  if isO 5 S457 p1 = true then
  bd2 (f_X6_third fu S457 p1 x461) fun x465 S463 =>
  rc 2 S463 p0 p1 i0 else none else none) else
  if x12 = 37 then ((rdX X (i0 + 1)).bind fun x468 =>
  if isO 4 S p0 = true then
  bd2 (f_X5_laid fu S p0 x468) fun x472 S470 =>
  (rdX X (i0 + 1)).bind fun x474 =>
  if isO 5 S470 p1 = true then
  bd2 (f_X6_laid fu S470 p1 x474) fun x478 S476 =>
  rc 2 S476 p0 p1 i0 else none else none) else
  if x12 = 38 then ((rdX X (i0 + 1)).bind fun x481 =>
  (rdX X (i0 + 2)).bind fun x483 =>
  if isO 4 S p0 = true then
  bd2 (f_X5_lucky fu S p0 x481 x483) fun x487 S485 =>
  (rdX X (i0 + 1)).bind fun x489 =>
  (rdX X (i0 + 2)).bind fun x491 =>
  if isO 5 S485 p1 = true then
  bd2 (f_X6_lucky fu S485 p1 x489 x491) fun x495 S493 =>
  rc 2 S493 p0 p1 i0 else none else none) else
  if x12 = 39 then ((rdX X (i0 + 1)).bind fun x498 =>
  if isO 4 S p0 = true then
  bd2 (f_X5_part fu S p0 x498) fun x502 S500 =>
  (rdX X (i0 + 1)).bind fun x504 =>
  if isO 5 S500 p1 = true then
  bd2 (f_X6_part fu S500 p1 x504) fun x508 S506 =>
  rc 2 S506 p0 p1 i0 else none else none) else
  if x12 = 40 then ((rdX X (i0 + 1)).bind fun x511 =>
  if isO 4 S p0 = true then
  bd2 (f_X5_image fu S p0 x511) fun x515 S513 =>
  (rdX X (i0 + 1)).bind fun x517 =>
  if isO 5 S513 p1 = true then
  bd2 (f_X6_image fu S513 p1 x517) fun x521 S519 =>
  rc 2 S519 p0 p1 i0 else none else none) else
  if x12 = 41 then ((rdX X (i0 + 1)).bind fun x524 =>
  if isO 4 S p0 = true then
  bd2 (f_X5_from fu S p0 x524) fun x528 S526 =>
  (rdX X (i0 + 1)).bind fun x530 =>
  if isO 5 S526 p1 = true then
  bd2 (f_X6_from fu S526 p1 x530) fun x534 S532 =>
  if wI x528 = wI x534 then (rc 2 S532 p0 p1 i0)
  else (some ((0 : Int), S532)) else none else none) else
  if x12 = 42 then ((rdX X (i0 + 1)).bind fun x538 =>
  if isO 4 S p0 = true then
  bd2 (f_X5_status fu S p0 x538) fun x542 S540 =>
  (rdX X (i0 + 1)).bind fun x544 =>
  if isO 5 S540 p1 = true then
  bd2 (f_X6_status fu S540 p1 x544) fun x548 S546 =>
  rc 2 S546 p0 p1 i0 else none else none) else
  if x12 = 43 then ((rdX X (i0 + 1)).bind fun x551 =>
  if isO 4 S p0 = true then
  bd2 (f_X5_count fu S p0 x551) fun x555 S553 =>
  (rdX X (i0 + 1)).bind fun x557 =>
  if isO 5 S553 p1 = true then
  bd2 (f_X6_count fu S553 p1 x557) fun x561 S559 =>
  rc 2 S559 p0 p1 i0 else none else none) else
  if x12 = 44 then (if isO 4 S p0 = true then
  bd2 (f_X5_digest fu S p0) fun x566 S564 =>
  if isO 5 S564 p1 = true then
  bd2 (f_X6_digest fu S564 p1) fun x570 S568 =>
  rc 2 S568 p0 p1 i0 else none else none) else
  (rc 2 S p0 p1 i0))
noncomputable def b_law_2 (X : List Int) (rc : Nat → xS → Nat → Nat → Int → Option (Int × xS)) (fu : Nat) (S : xS) (p0 p1 : Nat) (i0 : Int) : Option (Int × xS) :=
  nmx (i0 + 3) fun x572 =>
  rc 1 S p0 p1 x572
noncomputable def s_law (X : List Int) (rc : Nat → xS → Nat → Nat → Int → Option (Int × xS)) (fu lb : Nat) (S : xS) (p0 p1 : Nat) (i0 : Int) : Option (Int × xS) := match lb with
    | 0 => b_law_0 X rc fu S p0 p1 i0
    | 1 => b_law_1 X rc fu S p0 p1 i0
    | _ => b_law_2 X rc fu S p0 p1 i0
noncomputable def g_law (X : List Int) (k : Nat) : Nat → xS → Nat → Nat → Int → Option (Int × xS) := Nat.rec (motive := fun _ => Nat → xS → Nat → Nat → Int → Option (Int × xS)) (fun _ _ _ _ _ => none) (fun fu rc => s_law X rc fu) k
noncomputable def f_law (fu : Nat) (X : List Int) : Option (Int × xS) := g_law X fu 0 [] 0 0 0
