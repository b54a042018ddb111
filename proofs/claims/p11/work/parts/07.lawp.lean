/-- the script, read -/
def rdX (X : List Int) (i : Int) : Option Int := if 0 ≤ i ∧ i < 2147483648 then X[i.toNat]? else none
noncomputable def b_law_0 (X : List Int) (rc : Nat → xS → Nat → Nat → Int → Option (Int × xS)) (fu : Nat) (S : xS) (p0 p1 : Nat) (i0 : Int) : Option (Int × xS) :=
  nmx (S ++ [.inr (.inr (4, xNew_X5))]) fun S1 =>
  bd2 (f_X5_init fu S1 S.length) fun x4 S2 =>
  nmx (S2 ++ [.inr (.inr (5, xNew_X6))]) fun S5 =>
  bd2 (f_X6_init fu S5 S2.length) fun x8 S6 =>
  rc 1 S6 S.length S2.length 0
noncomputable def b_law_1 (X : List Int) (rc : Nat → xS → Nat → Nat → Int → Option (Int × xS)) (fu : Nat) (S : xS) (p0 p1 : Nat) (i0 : Int) : Option (Int × xS) :=
  if wI (((X.length : Int)) - 3) < wI i0 then (some ((1 : Int), S))
  else ((rdX X i0).bind fun x10 =>
  nmx (wI (xAnd x10 63)) fun x12 =>
  if x12 = 0 then ((rdX X (i0 + 1)).bind fun x15 =>
  if isO 4 S p0 = true then
  bd2 (f_X5_boxes fu S p0 x15) fun x19 S17 =>
  (rdX X (i0 + 1)).bind fun x21 =>
  if isO 5 S17 p1 = true then
  bd2 (f_X6_boxes fu S17 p1 x21) fun x25 S23 =>
  rc 2 S23 p0 p1 i0 else none else none) else
  if x12 = 1 then ((rdX X (i0 + 1)).bind fun x28 =>
  (rdX X (i0 + 2)).bind fun x30 =>
  if isO 4 S p0 = true then
  bd2 (f_X5_put fu S p0 x28 x30) fun x34 S32 =>
  (rdX X (i0 + 1)).bind fun x36 =>
  (rdX X (i0 + 2)).bind fun x38 =>
  if isO 5 S32 p1 = true then
  bd2 (f_X6_put fu S32 p1 x36 x38) fun x42 S40 =>
  rc 2 S40 p0 p1 i0 else none else none) else
  if x12 = 2 then ((rdX X (i0 + 1)).bind fun x45 =>
  (rdX X (i0 + 2)).bind fun x47 =>
  if isO 4 S p0 = true then
  bd2 (f_X5_rule fu S p0 x45 x47) fun x51 S49 =>
  (rdX X (i0 + 1)).bind fun x53 =>
  (rdX X (i0 + 2)).bind fun x55 =>
  if isO 5 S49 p1 = true then
  bd2 (f_X6_rule fu S49 p1 x53 x55) fun x59 S57 =>
  rc 2 S57 p0 p1 i0 else none else none) else
  if x12 = 3 then ((rdX X (i0 + 1)).bind fun x62 =>
  (rdX X (i0 + 2)).bind fun x64 =>
  if isO 4 S p0 = true then
  bd2 (f_X5_swap fu S p0 x62 x64) fun x68 S66 =>
  (rdX X (i0 + 1)).bind fun x70 =>
  (rdX X (i0 + 2)).bind fun x72 =>
  if isO 5 S66 p1 = true then
  bd2 (f_X6_swap fu S66 p1 x70 x72) fun x76 S74 =>
  rc 2 S74 p0 p1 i0 else none else none) else
  if x12 = 4 then ((rdX X (i0 + 1)).bind fun x79 =>
  if isO 4 S p0 = true then
  bd2 (f_X5_lay fu S p0 x79) fun x83 S81 =>
  (rdX X (i0 + 1)).bind fun x85 =>
  if isO 5 S81 p1 = true then
  bd2 (f_X6_lay fu S81 p1 x85) fun x89 S87 =>
  rc 2 S87 p0 p1 i0 else none else none) else
  if x12 = 5 then (if isO 4 S p0 = true then
  bd2 (f_X5_undo fu S p0) fun x94 S92 =>
  if isO 5 S92 p1 = true then
  bd2 (f_X6_undo fu S92 p1) fun x98 S96 =>
  rc 2 S96 p0 p1 i0 else none else none) else
  if x12 = 6 then ((rdX X (i0 + 1)).bind fun x101 =>
  (rdX X (i0 + 2)).bind fun x103 =>
  if isO 4 S p0 = true then
  bd2 (f_X5_know fu S p0 x101 x103) fun x107 S105 =>
  (rdX X (i0 + 1)).bind fun x109 =>
  (rdX X (i0 + 2)).bind fun x111 =>
  if isO 5 S105 p1 = true then
  bd2 (f_X6_know fu S105 p1 x109 x111) fun x115 S113 =>
  rc 2 S113 p0 p1 i0 else none else none) else
  if x12 = 7 then ((rdX X (i0 + 1)).bind fun x118 =>
  (rdX X (i0 + 2)).bind fun x120 =>
  if isO 4 S p0 = true then
  bd2 (f_X5_report fu S p0 x118 x120) fun x124 S122 =>
  (rdX X (i0 + 1)).bind fun x126 =>
  (rdX X (i0 + 2)).bind fun x128 =>
  if isO 5 S122 p1 = true then
  bd2 (f_X6_report fu S122 p1 x126 x128) fun x132 S130 =>
  rc 2 S130 p0 p1 i0 else none else none) else
  if x12 = 8 then ((rdX X (i0 + 1)).bind fun x135 =>
  if isO 4 S p0 = true then
  bd2 (f_X5_forget fu S p0 x135) fun x139 S137 =>
  (rdX X (i0 + 1)).bind fun x141 =>
  if isO 5 S137 p1 = true then
  bd2 (f_X6_forget fu S137 p1 x141) fun x145 S143 =>
  rc 2 S143 p0 p1 i0 else none else none) else
  if x12 = 9 then ((rdX X (i0 + 1)).bind fun x148 =>
  if isO 4 S p0 = true then
  bd2 (f_X5_type fu S p0 x148) fun x152 S150 =>
  (rdX X (i0 + 1)).bind fun x154 =>
  if isO 5 S150 p1 = true then
  bd2 (f_X6_type fu S150 p1 x154) fun x158 S156 =>
  if wI x152 = wI x158 then (rc 2 S156 p0 p1 i0)
  else (some ((0 : Int), S156)) else none else none) else
  if x12 = 10 then (if isO 4 S p0 = true then
  bd2 (f_X5_clear fu S p0) fun x164 S162 =>
  if isO 5 S162 p1 = true then
  bd2 (f_X6_clear fu S162 p1) fun x168 S166 =>
  rc 2 S166 p0 p1 i0 else none else none) else
  if x12 = 11 then (if isO 4 S p0 = true then
  bd2 (f_X5_read fu S p0) fun x173 S171 =>
  if isO 5 S171 p1 = true then
  bd2 (f_X6_read fu S171 p1) fun x177 S175 =>
  rc 2 S175 p0 p1 i0 else none else none) else
  if x12 = 12 then ((rdX X (i0 + 1)).bind fun x180 =>
  if isO 4 S p0 = true then
  bd2 (f_X5_slip fu S p0 x180) fun x184 S182 =>
  (rdX X (i0 + 1)).bind fun x186 =>
  if isO 5 S182 p1 = true then
  bd2 (f_X6_slip fu S182 p1 x186) fun x190 S188 =>
  rc 2 S188 p0 p1 i0 else none else none) else
  if x12 = 13 then (if isO 4 S p0 = true then
  bd2 (f_X5_rank fu S p0) fun x195 S193 =>
  if isO 5 S193 p1 = true then
  bd2 (f_X6_rank fu S193 p1) fun x199 S197 =>
  rc 2 S197 p0 p1 i0 else none else none) else
  if x12 = 14 then ((rdX X (i0 + 1)).bind fun x202 =>
  if isO 4 S p0 = true then
  bd2 (f_X5_rings fu S p0 x202) fun x206 S204 =>
  (rdX X (i0 + 1)).bind fun x208 =>
  if isO 5 S204 p1 = true then
  bd2 (f_X6_rings fu S204 p1 x208) fun x212 S210 =>
  rc 2 S210 p0 p1 i0 else none else none) else
  if x12 = 15 then ((rdX X (i0 + 1)).bind fun x215 =>
  (rdX X (i0 + 2)).bind fun x217 =>
  if isO 4 S p0 = true then
  bd2 (f_X5_opened fu S p0 x215 x217) fun x221 S219 =>
  (rdX X (i0 + 1)).bind fun x223 =>
  (rdX X (i0 + 2)).bind fun x225 =>
  if isO 5 S219 p1 = true then
  bd2 (f_X6_opened fu S219 p1 x223 x225) fun x229 S227 =>
  rc 2 S227 p0 p1 i0 else none else none) else
  if x12 = 16 then (if isO 4 S p0 = true then
  bd2 (f_X5_finds fu S p0) fun x234 S232 =>
  if isO 5 S232 p1 = true then
  bd2 (f_X6_finds fu S232 p1) fun x238 S236 =>
  rc 2 S236 p0 p1 i0 else none else none) else
  if x12 = 17 then ((rdX X (i0 + 1)).bind fun x241 =>
  if isO 4 S p0 = true then
  bd2 (f_X5_worked fu S p0 x241) fun x245 S243 =>
  (rdX X (i0 + 1)).bind fun x247 =>
  if isO 5 S243 p1 = true then
  bd2 (f_X6_worked fu S243 p1 x247) fun x251 S249 =>
  rc 2 S249 p0 p1 i0 else none else none) else
  if x12 = 18 then (if isO 4 S p0 = true then
  bd2 (f_X5_back fu S p0) fun x256 S254 =>
  if isO 5 S254 p1 = true then
  bd2 (f_X6_back fu S254 p1) fun x260 S258 =>
  rc 2 S258 p0 p1 i0 else none else none) else
  if x12 = 19 then (if isO 4 S p0 = true then
  bd2 (f_X5_undoes fu S p0) fun x265 S263 =>
  if isO 5 S263 p1 = true then
  bd2 (f_X6_undoes fu S263 p1) fun x269 S267 =>
  rc 2 S267 p0 p1 i0 else none else none) else
  if x12 = 20 then (if isO 4 S p0 = true then
  bd2 (f_X5_goesWith fu S p0) fun x274 S272 =>
  if isO 5 S272 p1 = true then
  bd2 (f_X6_goesWith fu S272 p1) fun x278 S276 =>
  rc 2 S276 p0 p1 i0 else none else none) else
  if x12 = 21 then ((rdX X (i0 + 1)).bind fun x281 =>
  if isO 4 S p0 = true then
  bd2 (f_X5_roots fu S p0 x281) fun x285 S283 =>
  (rdX X (i0 + 1)).bind fun x287 =>
  if isO 5 S283 p1 = true then
  bd2 (f_X6_roots fu S283 p1 x287) fun x291 S289 =>
  rc 2 S289 p0 p1 i0 else none else none) else
  if x12 = 22 then ((rdX X (i0 + 1)).bind fun x294 =>
  if isO 4 S p0 = true then
  bd2 (f_X5_alike fu S p0 x294) fun x298 S296 =>
  (rdX X (i0 + 1)).bind fun x300 =>
  if isO 5 S296 p1 = true then
  bd2 (f_X6_alike fu S296 p1 x300) fun x304 S302 =>
  rc 2 S302 p0 p1 i0 else none else none) else
  if x12 = 23 then (if isO 4 S p0 = true then
  bd2 (f_X5_even fu S p0) fun x309 S307 =>
  if isO 5 S307 p1 = true then
  bd2 (f_X6_even fu S307 p1) fun x313 S311 =>
  rc 2 S311 p0 p1 i0 else none else none) else
  if x12 = 24 then ((rdX X (i0 + 1)).bind fun x316 =>
  if isO 4 S p0 = true then
  bd2 (f_X5_move fu S p0 x316) fun x320 S318 =>
  (rdX X (i0 + 1)).bind fun x322 =>
  if isO 5 S318 p1 = true then
  bd2 (f_X6_move fu S318 p1 x322) fun x326 S324 =>
  rc 2 S324 p0 p1 i0 else none else none) else
  if x12 = 25 then (if isO 4 S p0 = true then
  bd2 (f_X5_drop fu S p0) fun x331 S329 =>
  if isO 5 S329 p1 = true then
  bd2 (f_X6_drop fu S329 p1) fun x335 S333 =>
  rc 2 S333 p0 p1 i0 else none else none) else
  if x12 = 26 then ((rdX X (i0 + 1)).bind fun x338 =>
  if isO 4 S p0 = true then
  bd2 (f_X5_make fu S p0 x338) fun x342 S340 =>
  (rdX X (i0 + 1)).bind fun x344 =>
  if isO 5 S340 p1 = true then
  bd2 (f_X6_make fu S340 p1 x344) fun x348 S346 =>
  rc 2 S346 p0 p1 i0 else none else none) else
  if x12 = 27 then (if isO 4 S p0 = true then
  bd2 (f_X5_group fu S p0) fun x353 S351 =>
  if isO 5 S351 p1 = true then
  bd2 (f_X6_group fu S351 p1) fun x357 S355 =>
  rc 2 S355 p0 p1 i0 else none else none) else
  if x12 = 28 then ((rdX X (i0 + 1)).bind fun x360 =>
  (rdX X (i0 + 2)).bind fun x362 =>
  if isO 4 S p0 = true then
  bd2 (f_X5_fewest fu S p0 x360 x362) fun x366 S364 =>
  (rdX X (i0 + 1)).bind fun x368 =>
  (rdX X (i0 + 2)).bind fun x370 =>
  if isO 5 S364 p1 = true then
  bd2 (f_X6_fewest fu S364 p1 x368 x370) fun x374 S372 =>
  rc 2 S372 p0 p1 i0 else none else none) else
  if x12 = 29 then ((rdX X (i0 + 1)).bind fun x377 =>
  if isO 4 S p0 = true then
  bd2 (f_X5_till fu S p0 x377) fun x381 S379 =>
  (rdX X (i0 + 1)).bind fun x383 =>
  if isO 5 S379 p1 = true then
  bd2 (f_X6_till fu S379 p1 x383) fun x387 S385 =>
  rc 2 S385 p0 p1 i0 else none else none) else
  if x12 = 30 then ((rdX X (i0 + 1)).bind fun x390 =>
  if isO 4 S p0 = true then
  bd2 (f_X5_mayBe fu S p0 x390) fun x394 S392 =>
  (rdX X (i0 + 1)).bind fun x396 =>
  if isO 5 S392 p1 = true then
  bd2 (f_X6_mayBe fu S392 p1 x396) fun x400 S398 =>
  rc 2 S398 p0 p1 i0 else none else none) else
  if x12 = 31 then ((rdX X (i0 + 1)).bind fun x403 =>
  if isO 4 S p0 = true then
  bd2 (f_X5_chance fu S p0 x403) fun x407 S405 =>
  (rdX X (i0 + 1)).bind fun x409 =>
  if isO 5 S405 p1 = true then
  bd2 (f_X6_chance fu S405 p1 x409) fun x413 S411 =>
  rc 2 S411 p0 p1 i0 else none else none) else
  if x12 = 32 then (if isO 4 S p0 = true then
  bd2 (f_X5_look fu S p0) fun x418 S416 =>
  if isO 5 S416 p1 = true then
  bd2 (f_X6_look fu S416 p1) fun x422 S420 =>
  rc 2 S420 p0 p1 i0 else none else none) else
  if x12 = 33 then (if isO 4 S p0 = true then
  bd2 (f_X5_advice fu S p0) fun x427 S425 =>
  if isO 5 S425 p1 = true then
  bd2 (f_X6_advice fu S425 p1) fun x431 S429 =>
  rc 2 S429 p0 p1 i0 else none else none) else
  if x12 = 34 then ((rdX X (i0 + 1)).bind fun x434 =>
  if isO 4 S p0 = true then
  bd2 (f_X5_worst fu S p0 x434) fun x438 S436 =>
  (rdX X (i0 + 1)).bind fun x440 =>
  if isO 5 S436 p1 = true then
  bd2 (f_X6_worst fu S436 p1 x440) fun x444 S442 =>
  rc 2 S442 p0 p1 i0 else none else none) else
  if x12 = 35 then (if isO 4 S p0 = true then
  bd2 (f_X5_mended fu S p0) fun x449 S447 =>
  if isO 5 S447 p1 = true then
  bd2 (f_X6_mended fu S447 p1) fun x453 S451 =>
  rc 2 S451 p0 p1 i0 else none else none) else
  if x12 = 36 then ((rdX X (i0 + 1)).bind fun x456 =>
  if isO 4 S p0 = true then
  bd2 (f_X5_third fu S p0 x456) fun x460 S458 =>
  (rdX X (i0 + 1)).bind fun x462 =>
  if isO 5 S458 p1 = true then
  bd2 (f_X6_third fu S458 p1 x462) fun x466 S464 =>
  rc 2 S464 p0 p1 i0 else none else none) else
  if x12 = 37 then ((rdX X (i0 + 1)).bind fun x469 =>
  if isO 4 S p0 = true then
  bd2 (f_X5_laid fu S p0 x469) fun x473 S471 =>
  (rdX X (i0 + 1)).bind fun x475 =>
  if isO 5 S471 p1 = true then
  bd2 (f_X6_laid fu S471 p1 x475) fun x479 S477 =>
  rc 2 S477 p0 p1 i0 else none else none) else
  if x12 = 38 then ((rdX X (i0 + 1)).bind fun x482 =>
  (rdX X (i0 + 2)).bind fun x484 =>
  if isO 4 S p0 = true then
  bd2 (f_X5_lucky fu S p0 x482 x484) fun x488 S486 =>
  (rdX X (i0 + 1)).bind fun x490 =>
  (rdX X (i0 + 2)).bind fun x492 =>
  if isO 5 S486 p1 = true then
  bd2 (f_X6_lucky fu S486 p1 x490 x492) fun x496 S494 =>
  rc 2 S494 p0 p1 i0 else none else none) else
  if x12 = 39 then ((rdX X (i0 + 1)).bind fun x499 =>
  if isO 4 S p0 = true then
  bd2 (f_X5_part fu S p0 x499) fun x503 S501 =>
  (rdX X (i0 + 1)).bind fun x505 =>
  if isO 5 S501 p1 = true then
  bd2 (f_X6_part fu S501 p1 x505) fun x509 S507 =>
  rc 2 S507 p0 p1 i0 else none else none) else
  if x12 = 40 then ((rdX X (i0 + 1)).bind fun x512 =>
  if isO 4 S p0 = true then
  bd2 (f_X5_image fu S p0 x512) fun x516 S514 =>
  (rdX X (i0 + 1)).bind fun x518 =>
  if isO 5 S514 p1 = true then
  bd2 (f_X6_image fu S514 p1 x518) fun x522 S520 =>
  rc 2 S520 p0 p1 i0 else none else none) else
  if x12 = 41 then ((rdX X (i0 + 1)).bind fun x525 =>
  if isO 4 S p0 = true then
  bd2 (f_X5_from fu S p0 x525) fun x529 S527 =>
  (rdX X (i0 + 1)).bind fun x531 =>
  if isO 5 S527 p1 = true then
  bd2 (f_X6_from fu S527 p1 x531) fun x535 S533 =>
  rc 2 S533 p0 p1 i0 else none else none) else
  if x12 = 42 then ((rdX X (i0 + 1)).bind fun x538 =>
  if isO 4 S p0 = true then
  bd2 (f_X5_status fu S p0 x538) fun x542 S540 =>
  (rdX X (i0 + 1)).bind fun x544 =>
  if isO 5 S540 p1 = true then
  bd2 (f_X6_status fu S540 p1 x544) fun x548 S546 =>
  rc 2 S546 p0 p1 i0 else none else none) else
  if x12 = 43 then ((rdX X (i0 + 1)).bind fun x551 =>
  if isO 4 S p0 = true then
  bd2 (f_X5_count fu S p0 x551) fun x555 S553 =>
  (rdX X (i0 + 1)).bind fun x557 =>
  if isO 5 S553 p1 = true then
  bd2 (f_X6_count fu S553 p1 x557) fun x561 S559 =>
  rc 2 S559 p0 p1 i0 else none else none) else
  if x12 = 44 then (if isO 4 S p0 = true then
  bd2 (f_X5_digest fu S p0) fun x566 S564 =>
  if isO 5 S564 p1 = true then
  bd2 (f_X6_digest fu S564 p1) fun x570 S568 =>
  rc 2 S568 p0 p1 i0 else none else none) else
  (rc 2 S p0 p1 i0))
noncomputable def b_law_2 (X : List Int) (rc : Nat → xS → Nat → Nat → Int → Option (Int × xS)) (fu : Nat) (S : xS) (p0 p1 : Nat) (i0 : Int) : Option (Int × xS) :=
  nmx (i0 + 3) fun x572 =>
  rc 1 S p0 p1 x572
noncomputable def s_law (X : List Int) (rc : Nat → xS → Nat → Nat → Int → Option (Int × xS)) (fu lb : Nat) (S : xS) (p0 p1 : Nat) (i0 : Int) : Option (Int × xS) := match lb with
    | 0 => b_law_0 X rc fu S p0 p1 i0
    | 1 => b_law_1 X rc fu S p0 p1 i0
    | _ => b_law_2 X rc fu S p0 p1 i0
noncomputable def g_law (X : List Int) (k : Nat) : Nat → xS → Nat → Nat → Int → Option (Int × xS) := Nat.rec (motive := fun _ => Nat → xS → Nat → Nat → Int → Option (Int × xS)) (fun _ _ _ _ _ => none) (fun fu rc => s_law X rc fu) k
noncomputable def f_law (fu : Nat) (X : List Int) : Option (Int × xS) := g_law X fu 0 [] 0 0 0
