def xNew_X0 : List xV := [.inr (.inr none), .inl 0, .inr (.inr none), .inr (.inr none), .inr (.inr none), .inr (.inr none), .inl 0, .inl 0, .inr (.inr none)]
def xNew_X1 : List xV := [.inl 0, .inl 0, .inl 0, .inr (.inr none), .inr (.inr none), .inr (.inr none), .inl 0, .inr (.inr none), .inr (.inr none), .inl 0, .inr (.inr none), .inl 0, .inr (.inr none), .inr (.inr none)]
def xNew_X2 : List xV := [.inr (.inr none), .inl 0, .inl 0, .inl 0]
def xNew_X3 : List xV := [.inr (.inr none), .inl 0, .inl 0, .inl 0, .inl 0, .inl 0]
def xNew_X5 : List xV := [.inr (.inr none), .inr (.inr none), .inr (.inr none), .inr (.inr none), .inr (.inr none), .inr (.inr none), .inr (.inr none), .inr (.inr none), .inr (.inl 0), .inr (.inl 0), .inl 0, .inl 0, .inl 0]
def xNew_X6 : List xV := [.inr (.inr none), .inr (.inr none), .inr (.inr none), .inr (.inr none), .inr (.inl 0), .inr (.inl 0), .inr (.inr none), .inl 0, .inr (.inr none), .inl 0, .inl 0, .inl 0, .inr (.inr none), .inr (.inr none), .inr (.inr none), .inr (.inr none), .inr (.inr none), .inl 0, .inr (.inr none), .inr (.inr none), .inr (.inr none), .inr (.inr none), .inr (.inr none), .inl 0, .inl 0, .inl 0, .inl 0, .inl 0, .inr (.inr none), .inr (.inr none)]
noncomputable def f_X0_init (fu : Nat) (S : xS) (p0 : Nat) : Option (Int × xS) :=
  nmx (S ++ [.inl (0, List.replicate 5040 0)]) fun S1 =>
  (wrF 0 0 S1 p0 (.inr (.inr (some S.length)))).bind fun S3 =>
  (wrF 0 1 S3 p0 (.inl 0)).bind fun S5 =>
  nmx (S5 ++ [.inl (0, List.replicate 5040 0)]) fun S6 =>
  (wrF 0 2 S6 p0 (.inr (.inr (some S5.length)))).bind fun S8 =>
  nmx (S8 ++ [.inl (0, List.replicate 7 0)]) fun S9 =>
  (wrF 0 3 S9 p0 (.inr (.inr (some S8.length)))).bind fun S11 =>
  nmx (S11 ++ [.inl (0, List.replicate 7 0)]) fun S12 =>
  (wrF 0 4 S12 p0 (.inr (.inr (some S11.length)))).bind fun S14 =>
  nmx (xMulti S14) fun S15 =>
  (wrF 0 5 S15 p0 (.inr (.inr (some S14.length)))).bind fun S17 =>
  (wrF 0 6 S17 p0 (.inl 0)).bind fun S19 =>
  (wrF 0 7 S19 p0 (.inl 0)).bind fun S21 =>
  nmx (S21 ++ [.inl (0, List.replicate 4 0)]) fun S22 =>
  (wrF 0 8 S22 p0 (.inr (.inr (some S21.length)))).bind fun S24 =>
  some ((0 : Int), S24)
noncomputable def f_J6_bitCount_0f7a4 (fu : Nat) (S : xS) (i0 : Int) : Option (Int × xS) :=
  nmx (i0 - (xAnd (xUshr i0 1) 1431655765)) fun x1 =>
  nmx ((xAnd x1 858993459) + (xAnd (xUshr x1 2) 858993459)) fun x3 =>
  nmx (xAnd (x3 + (xUshr x3 4)) 252645135) fun x5 =>
  nmx (x5 + (xUshr x5 8)) fun x7 =>
  nmx (x7 + (xUshr x7 16)) fun x9 =>
  some (xAnd x9 63, S)
noncomputable def b_X4_rankOf_0 (rc : Nat → xS → Nat → Int → Int → Int → Int → Option (Int × xS)) (fu : Nat) (S : xS) (p0 : Nat) (i0 i1 i2 i3 : Int) : Option (Int × xS) :=
  nmx ((xShl 1 i0) - 1) fun x1 =>
  rc 1 S p0 i0 x1 0 0
noncomputable def b_X4_rankOf_1 (rc : Nat → xS → Nat → Int → Int → Int → Int → Option (Int × xS)) (fu : Nat) (S : xS) (p0 : Nat) (i0 i1 i2 i3 : Int) : Option (Int × xS) :=
  if wI i0 ≤ wI i3 then (some (i2, S))
  else ((rdA 0 S p0 i3).bind fun x4 =>
  nmx (xShl 1 x4) fun x6 =>
  bd2 (f_J6_bitCount_0f7a4 fu S (xAnd i1 (x6 - 1))) fun x10 S8 =>
  (rdT ((i0 - 1) - i3)).bind fun x11 =>
  nmx (i2 + (x10 * x11)) fun x13 =>
  nmx (xAnd i1 (xXor x6 ((-1)))) fun x15 =>
  nmx (i3 + 1) fun x17 =>
  rc 1 S8 p0 i0 x15 x13 x17)
noncomputable def s_X4_rankOf (rc : Nat → xS → Nat → Int → Int → Int → Int → Option (Int × xS)) (fu lb : Nat) (S : xS) (p0 : Nat) (i0 i1 i2 i3 : Int) : Option (Int × xS) := match lb with
    | 0 => b_X4_rankOf_0 rc fu S p0 i0 i1 i2 i3
    | _ => b_X4_rankOf_1 rc fu S p0 i0 i1 i2 i3
noncomputable def g_X4_rankOf (k : Nat) : Nat → xS → Nat → Int → Int → Int → Int → Option (Int × xS) := Nat.rec (motive := fun _ => Nat → xS → Nat → Int → Int → Int → Int → Option (Int × xS)) (fun _ _ _ _ _ _ _ => none) (fun fu rc => s_X4_rankOf rc fu) k
noncomputable def f_X4_rankOf (fu : Nat) (S : xS) (p0 : Nat) (i0 : Int) : Option (Int × xS) := g_X4_rankOf fu 0 S p0 i0 0 0 0
noncomputable def f_X1_rankNow (fu : Nat) (S : xS) (p0 : Nat) : Option (Int × xS) :=
  (rdFp 1 3 S p0).bind fun q2 =>
  (rdFi 1 0 S p0).bind fun x4 =>
  bd2 (f_X4_rankOf fu S q2 x4) fun x7 S5 =>
  some (x7, S5)
noncomputable def b_X0_isMadeFor_0 (rc : Nat → xS → Nat → Nat → Int → Option (Int × xS)) (fu : Nat) (S : xS) (p0 p1 : Nat) (i0 : Int) : Option (Int × xS) :=
  (rdFi 0 6 S p0).bind fun x2 =>
  (rdFi 1 0 S p1).bind fun x4 =>
  if wI x2 = wI x4 then ((rdFi 0 7 S p0).bind fun x7 =>
  (rdFi 1 9 S p1).bind fun x9 =>
  if wI x7 = wI x9 then ((rdFp 0 0 S p0).bind fun q12 =>
  (rdA 0 S q12 0).bind fun x13 =>
  if isO 1 S p1 = true then
  bd2 (f_X1_rankNow fu S p1) fun x17 S15 =>
  if wI x13 = wI x17 then (rc 1 S15 p0 p1 0)
  else (some (0, S15)) else none)
  else (some (0, S)))
  else (some (0, S))
noncomputable def b_X0_isMadeFor_1 (rc : Nat → xS → Nat → Nat → Int → Option (Int × xS)) (fu : Nat) (S : xS) (p0 p1 : Nat) (i0 : Int) : Option (Int × xS) :=
  (rdFi 1 9 S p1).bind fun x21 =>
  if wI x21 ≤ wI i0 then (some (1, S))
  else ((rdFp 0 8 S p0).bind fun q24 =>
  (rdA 0 S q24 i0).bind fun x25 =>
  (rdFp 1 10 S p1).bind fun q28 =>
  (rdA 0 S q28 i0).bind fun x29 =>
  if wI x25 = wI x29 then (nmx (i0 + 1) fun x32 =>
  rc 1 S p0 p1 x32)
  else (some (0, S)))
noncomputable def s_X0_isMadeFor (rc : Nat → xS → Nat → Nat → Int → Option (Int × xS)) (fu lb : Nat) (S : xS) (p0 p1 : Nat) (i0 : Int) : Option (Int × xS) := match lb with
    | 0 => b_X0_isMadeFor_0 rc fu S p0 p1 i0
    | _ => b_X0_isMadeFor_1 rc fu S p0 p1 i0
noncomputable def g_X0_isMadeFor (k : Nat) : Nat → xS → Nat → Nat → Int → Option (Int × xS) := Nat.rec (motive := fun _ => Nat → xS → Nat → Nat → Int → Option (Int × xS)) (fun _ _ _ _ _ => none) (fun fu rc => s_X0_isMadeFor rc fu) k
noncomputable def f_X0_isMadeFor (fu : Nat) (S : xS) (p0 : Nat) (p1 : Nat) : Option (Int × xS) := g_X0_isMadeFor fu 0 S p0 p1 0
noncomputable def b_X4_slipLeft_0 (rc : Nat → xS → Int → Int → Int → Int → Int → Option (Int × xS)) (fu : Nat) (S : xS) (i0 i1 i2 i3 i4 : Int) : Option (Int × xS) :=
  rc 1 S i0 i1 i2 0 0
noncomputable def b_X4_slipLeft_1 (rc : Nat → xS → Int → Int → Int → Int → Int → Option (Int × xS)) (fu : Nat) (S : xS) (i0 i1 i2 i3 i4 : Int) : Option (Int × xS) :=
  if wI i1 ≤ wI i4 then (some (0, S))
  else (if wI (xAnd (xShr i0 i4) 1) = wI 1 then (if wI i3 = wI i2 then (some (i4, S))
  else (nmx (i3 + 1) fun x4 =>
  rc 2 S i0 i1 i2 x4 i4))
  else (rc 2 S i0 i1 i2 i3 i4))
noncomputable def b_X4_slipLeft_2 (rc : Nat → xS → Int → Int → Int → Int → Int → Option (Int × xS)) (fu : Nat) (S : xS) (i0 i1 i2 i3 i4 : Int) : Option (Int × xS) :=
  nmx (i4 + 1) fun x6 =>
  rc 1 S i0 i1 i2 i3 x6
noncomputable def s_X4_slipLeft (rc : Nat → xS → Int → Int → Int → Int → Int → Option (Int × xS)) (fu lb : Nat) (S : xS) (i0 i1 i2 i3 i4 : Int) : Option (Int × xS) := match lb with
    | 0 => b_X4_slipLeft_0 rc fu S i0 i1 i2 i3 i4
    | 1 => b_X4_slipLeft_1 rc fu S i0 i1 i2 i3 i4
    | _ => b_X4_slipLeft_2 rc fu S i0 i1 i2 i3 i4
noncomputable def g_X4_slipLeft (k : Nat) : Nat → xS → Int → Int → Int → Int → Int → Option (Int × xS) := Nat.rec (motive := fun _ => Nat → xS → Int → Int → Int → Int → Int → Option (Int × xS)) (fun _ _ _ _ _ _ _ => none) (fun fu rc => s_X4_slipLeft rc fu) k
noncomputable def f_X4_slipLeft (fu : Nat) (S : xS) (i0 : Int) (i1 : Int) (i2 : Int) : Option (Int × xS) := g_X4_slipLeft fu 0 S i0 i1 i2 0 0
noncomputable def b_X4_setToRank_0 (rc : Nat → xS → Nat → Int → Int → Int → Int → Option (Int × xS)) (fu : Nat) (S : xS) (p0 : Nat) (i0 i1 i2 i3 : Int) : Option (Int × xS) :=
  nmx ((xShl 1 i0) - 1) fun x1 =>
  rc 1 S p0 i0 x1 i1 0
noncomputable def b_X4_setToRank_1 (rc : Nat → xS → Nat → Int → Int → Int → Int → Option (Int × xS)) (fu : Nat) (S : xS) (p0 : Nat) (i0 i1 i2 i3 : Int) : Option (Int × xS) :=
  if wI i0 ≤ wI i3 then (some ((0 : Int), S))
  else ((rdT ((i0 - 1) - i3)).bind fun x4 =>
  if wI x4 = 0 then none else
  bd2 (f_X4_slipLeft fu S i1 i0 ((wI i2).tdiv (wI x4))) fun x9 S7 =>
  (wrA 0 S7 p0 i3 x9).bind fun S11 =>
  nmx (xAnd i1 (xXor (xShl 1 x9) ((-1)))) fun x12 =>
  if wI x4 = 0 then none else
  nmx ((wI i2).tmod (wI x4)) fun x15 =>
  nmx (i3 + 1) fun x17 =>
  rc 1 S11 p0 i0 x12 x15 x17)
noncomputable def s_X4_setToRank (rc : Nat → xS → Nat → Int → Int → Int → Int → Option (Int × xS)) (fu lb : Nat) (S : xS) (p0 : Nat) (i0 i1 i2 i3 : Int) : Option (Int × xS) := match lb with
    | 0 => b_X4_setToRank_0 rc fu S p0 i0 i1 i2 i3
    | _ => b_X4_setToRank_1 rc fu S p0 i0 i1 i2 i3
noncomputable def g_X4_setToRank (k : Nat) : Nat → xS → Nat → Int → Int → Int → Int → Option (Int × xS) := Nat.rec (motive := fun _ => Nat → xS → Nat → Int → Int → Int → Int → Option (Int × xS)) (fun _ _ _ _ _ _ _ => none) (fun fu rc => s_X4_setToRank rc fu) k
noncomputable def f_X4_setToRank (fu : Nat) (S : xS) (p0 : Nat) (i0 : Int) (i1 : Int) : Option (Int × xS) := g_X4_setToRank fu 0 S p0 i0 i1 0 0
noncomputable def b_J7_fill_53178_0 (rc : Nat → xS → Nat → Int → Int → Int → Option (Int × xS)) (fu : Nat) (S : xS) (p0 : Nat) (i0 i1 i2 : Int) : Option (Int × xS) :=
  (lenA 0 S p0).bind fun x1 =>
  rc 1 S p0 i0 0 x1
noncomputable def b_J7_fill_53178_1 (rc : Nat → xS → Nat → Int → Int → Int → Option (Int × xS)) (fu : Nat) (S : xS) (p0 : Nat) (i0 i1 i2 : Int) : Option (Int × xS) :=
  if wI i2 ≤ wI i1 then (some ((0 : Int), S))
  else ((wrA 0 S p0 i1 i0).bind fun S5 =>
  nmx (i1 + 1) fun x6 =>
  rc 1 S5 p0 i0 x6 i2)
noncomputable def s_J7_fill_53178 (rc : Nat → xS → Nat → Int → Int → Int → Option (Int × xS)) (fu lb : Nat) (S : xS) (p0 : Nat) (i0 i1 i2 : Int) : Option (Int × xS) := match lb with
    | 0 => b_J7_fill_53178_0 rc fu S p0 i0 i1 i2
    | _ => b_J7_fill_53178_1 rc fu S p0 i0 i1 i2
noncomputable def g_J7_fill_53178 (k : Nat) : Nat → xS → Nat → Int → Int → Int → Option (Int × xS) := Nat.rec (motive := fun _ => Nat → xS → Nat → Int → Int → Int → Option (Int × xS)) (fun _ _ _ _ _ _ => none) (fun fu rc => s_J7_fill_53178 rc fu) k
noncomputable def f_J7_fill_53178 (fu : Nat) (S : xS) (p0 : Nat) (i0 : Int) : Option (Int × xS) := g_J7_fill_53178 fu 0 S p0 i0 0 0
noncomputable def f_X0_add (fu : Nat) (S : xS) (p0 : Nat) (i0 : Int) (i1 : Int) : Option (Int × xS) :=
  (rdFp 0 2 S p0).bind fun q2 =>
  (rdA 0 S q2 i0).bind fun x3 =>
  if wI x3 = wI ((-1)) then ((rdFi 0 1 S p0).bind fun x7 =>
  if wI 5040 ≤ wI x7 then (some ((0 : Int), S))
  else ((rdFp 0 2 S p0).bind fun q10 =>
  (wrA 0 S q10 i0 i1).bind fun S12 =>
  (rdFp 0 0 S12 p0).bind fun q14 =>
  (rdFi 0 1 S12 p0).bind fun x16 =>
  (wrA 0 S12 q14 x16 i0).bind fun S18 =>
  (rdFi 0 1 S18 p0).bind fun x20 =>
  (wrF 0 1 S18 p0 (.inl (x20 + 1))).bind fun S22 =>
  some ((0 : Int), S22)))
  else (some ((0 : Int), S))
noncomputable def b_X4_setMoved_0 (rc : Nat → xS → Nat → Nat → Nat → Int → Int → Option (Int × xS)) (fu : Nat) (S : xS) (p0 p1 p2 : Nat) (i0 i1 : Int) : Option (Int × xS) :=
  rc 1 S p0 p1 p2 i0 0
noncomputable def b_X4_setMoved_1 (rc : Nat → xS → Nat → Nat → Nat → Int → Int → Option (Int × xS)) (fu : Nat) (S : xS) (p0 p1 p2 : Nat) (i0 i1 : Int) : Option (Int × xS) :=
  if wI i0 ≤ wI i1 then (some ((0 : Int), S))
  else ((rdA 0 S p2 i1).bind fun x2 =>
  (rdA 0 S p1 i1).bind fun x4 =>
  (wrA 0 S p0 x2 x4).bind fun S7 =>
  nmx (i1 + 1) fun x8 =>
  rc 1 S7 p0 p1 p2 i0 x8)
noncomputable def s_X4_setMoved (rc : Nat → xS → Nat → Nat → Nat → Int → Int → Option (Int × xS)) (fu lb : Nat) (S : xS) (p0 p1 p2 : Nat) (i0 i1 : Int) : Option (Int × xS) := match lb with
    | 0 => b_X4_setMoved_0 rc fu S p0 p1 p2 i0 i1
    | _ => b_X4_setMoved_1 rc fu S p0 p1 p2 i0 i1
noncomputable def g_X4_setMoved (k : Nat) : Nat → xS → Nat → Nat → Nat → Int → Int → Option (Int × xS) := Nat.rec (motive := fun _ => Nat → xS → Nat → Nat → Nat → Int → Int → Option (Int × xS)) (fun _ _ _ _ _ _ _ => none) (fun fu rc => s_X4_setMoved rc fu) k
noncomputable def f_X4_setMoved (fu : Nat) (S : xS) (p0 : Nat) (p1 : Nat) (p2 : Nat) (i0 : Int) : Option (Int × xS) := g_X4_setMoved fu 0 S p0 p1 p2 i0 0
noncomputable def b_X0_spreadFrom_0 (rc : Nat → xS → Nat → Nat → Int → Int → Int → Int → Option (Int × xS)) (fu : Nat) (S : xS) (p0 p1 : Nat) (i0 i1 i2 i3 : Int) : Option (Int × xS) :=
  if isO 0 S p0 = true then
  bd2 (f_X0_isMadeFor fu S p0 p1) fun x3 S1 =>
  if wI x3 = 0 then ((rdFi 1 0 S1 p1).bind fun x7 =>
  (wrF 0 6 S1 p0 (.inl x7)).bind fun S9 =>
  (rdFi 1 9 S9 p1).bind fun x11 =>
  (wrF 0 7 S9 p0 (.inl x11)).bind fun S13 =>
  (rdFp 1 10 S13 p1).bind fun q15 =>
  (rdFp 0 8 S13 p0).bind fun q17 =>
  (cpyA S13 q15 0 q17 0 4).bind fun S19 =>
  rc 1 S19 p0 p1 x7 0 0 0)
  else (some ((0 : Int), S1)) else none
noncomputable def b_X0_spreadFrom_1 (rc : Nat → xS → Nat → Nat → Int → Int → Int → Int → Option (Int × xS)) (fu : Nat) (S : xS) (p0 p1 : Nat) (i0 i1 i2 i3 : Int) : Option (Int × xS) :=
  (rdFi 1 9 S p1).bind fun x21 =>
  if wI x21 ≤ wI i1 then ((rdFp 0 2 S p0).bind fun q24 =>
  bd2 (f_J7_fill_53178 fu S q24 ((-1))) fun z27 S25 =>
  (wrF 0 1 S25 p0 (.inl 0)).bind fun S29 =>
  if isO 1 S29 p1 = true then
  bd2 (f_X1_rankNow fu S29 p1) fun x32 S30 =>
  if isO 0 S30 p0 = true then
  bd2 (f_X0_add fu S30 p0 x32 ((-2))) fun z36 S34 =>
  rc 2 S34 p0 p1 i0 0 0 0 else none else none)
  else ((rdFp 0 5 S p0).bind fun q39 =>
  onP (rdP 4 S q39 i1) none fun q40 =>
  (rdFp 1 10 S p1).bind fun q43 =>
  (rdA 0 S q43 i1).bind fun x44 =>
  bd2 (f_X4_setToRank fu S q40 i0 x44) fun z48 S46 =>
  nmx (i1 + 1) fun x49 =>
  rc 1 S46 p0 p1 i0 x49 0 0)
noncomputable def b_X0_spreadFrom_2 (rc : Nat → xS → Nat → Nat → Int → Int → Int → Int → Option (Int × xS)) (fu : Nat) (S : xS) (p0 p1 : Nat) (i0 i1 i2 i3 : Int) : Option (Int × xS) :=
  (rdFi 0 1 S p0).bind fun x52 =>
  if wI x52 ≤ wI i1 then (some ((0 : Int), S))
  else (if wI 5040 ≤ wI i1 then (some ((0 : Int), S))
  else ((rdFp 0 0 S p0).bind fun q56 =>
  (rdA 0 S q56 i1).bind fun x57 =>
  (rdFp 0 3 S p0).bind fun q60 =>
  bd2 (f_X4_setToRank fu S q60 i0 x57) fun z63 S61 =>
  rc 3 S61 p0 p1 i0 i1 x57 0))
noncomputable def b_X0_spreadFrom_3 (rc : Nat → xS → Nat → Nat → Int → Int → Int → Int → Option (Int × xS)) (fu : Nat) (S : xS) (p0 p1 : Nat) (i0 i1 i2 i3 : Int) : Option (Int × xS) :=
  (rdFi 1 9 S p1).bind fun x65 =>
  if wI x65 ≤ wI i3 then (nmx (i1 + 1) fun x67 =>
  rc 2 S p0 p1 i0 x67 0 0)
  else ((rdFp 0 4 S p0).bind fun q70 =>
  (rdFp 0 3 S p0).bind fun q72 =>
  (rdFp 0 5 S p0).bind fun q74 =>
  onP (rdP 4 S q74 i3) none fun q75 =>
  bd2 (f_X4_setMoved fu S q70 q72 q75 i0) fun z79 S77 =>
  (rdFp 0 4 S77 p0).bind fun q81 =>
  bd2 (f_X4_rankOf fu S77 q81 i0) fun x84 S82 =>
  if isO 0 S82 p0 = true then
  bd2 (f_X0_add fu S82 p0 x84 ((4 * i2) + i3)) fun z87 S85 =>
  nmx (i3 + 1) fun x89 =>
  rc 3 S85 p0 p1 i0 i1 i2 x89 else none)
noncomputable def s_X0_spreadFrom (rc : Nat → xS → Nat → Nat → Int → Int → Int → Int → Option (Int × xS)) (fu lb : Nat) (S : xS) (p0 p1 : Nat) (i0 i1 i2 i3 : Int) : Option (Int × xS) := match lb with
    | 0 => b_X0_spreadFrom_0 rc fu S p0 p1 i0 i1 i2 i3
    | 1 => b_X0_spreadFrom_1 rc fu S p0 p1 i0 i1 i2 i3
    | 2 => b_X0_spreadFrom_2 rc fu S p0 p1 i0 i1 i2 i3
    | _ => b_X0_spreadFrom_3 rc fu S p0 p1 i0 i1 i2 i3
noncomputable def g_X0_spreadFrom (k : Nat) : Nat → xS → Nat → Nat → Int → Int → Int → Int → Option (Int × xS) := Nat.rec (motive := fun _ => Nat → xS → Nat → Nat → Int → Int → Int → Int → Option (Int × xS)) (fun _ _ _ _ _ _ _ _ => none) (fun fu rc => s_X0_spreadFrom rc fu) k
noncomputable def f_X0_spreadFrom (fu : Nat) (S : xS) (p0 : Nat) (p1 : Nat) : Option (Int × xS) := g_X0_spreadFrom fu 0 S p0 p1 0 0 0 0
noncomputable def b_X0_moveTo_0 (rc : Nat → xS → Nat → Int → Int → Int → Int → Option (Int × xS)) (fu : Nat) (S : xS) (p0 : Nat) (i0 i1 i2 i3 : Int) : Option (Int × xS) :=
  (rdFp 0 2 S p0).bind fun q2 =>
  (rdA 0 S q2 i0).bind fun x3 =>
  if wI x3 = wI ((-1)) then (some ((-1), S))
  else (rc 1 S p0 i0 i1 0 i0)
noncomputable def b_X0_moveTo_1 (rc : Nat → xS → Nat → Int → Int → Int → Int → Option (Int × xS)) (fu : Nat) (S : xS) (p0 : Nat) (i0 i1 i2 i3 : Int) : Option (Int × xS) :=
  (rdFp 0 2 S p0).bind fun q7 =>
  (rdA 0 S q7 i3).bind fun x8 =>
  if wI x8 < 0 then (rc 2 S p0 i0 i1 i2 0)
  else (if wI 5040 ≤ wI i2 then (rc 2 S p0 i0 i1 i2 0)
  else (nmx (i2 + 1) fun x12 =>
  (rdFp 0 2 S p0).bind fun q15 =>
  (rdA 0 S q15 i3).bind fun x16 =>
  if wI 4 = 0 then none else
  nmx ((wI x16).tdiv (wI 4)) fun x19 =>
  rc 1 S p0 i0 i1 x12 x19))
noncomputable def b_X0_moveTo_2 (rc : Nat → xS → Nat → Int → Int → Int → Int → Option (Int × xS)) (fu : Nat) (S : xS) (p0 : Nat) (i0 i1 i2 i3 : Int) : Option (Int × xS) :=
  if wI i1 = wI ((-1)) then (some (i2, S))
  else (if wI i1 < wI i2 then (nmx (i2 - 1) fun x23 =>
  rc 3 S p0 i1 i0 x23 0)
  else (some ((-5), S)))
noncomputable def b_X0_moveTo_3 (rc : Nat → xS → Nat → Int → Int → Int → Int → Option (Int × xS)) (fu : Nat) (S : xS) (p0 : Nat) (i0 i1 i2 i3 : Int) : Option (Int × xS) :=
  if wI i2 ≤ wI i0 then ((rdFp 0 2 S p0).bind fun q27 =>
  (rdA 0 S q27 i1).bind fun x28 =>
  if wI 4 = 0 then none else
  some ((wI x28).tmod (wI 4), S))
  else ((rdFp 0 2 S p0).bind fun q32 =>
  (rdA 0 S q32 i1).bind fun x33 =>
  if wI 4 = 0 then none else
  nmx ((wI x33).tdiv (wI 4)) fun x36 =>
  nmx (i2 + (-1)) fun x38 =>
  rc 3 S p0 i0 x36 x38 0)
noncomputable def s_X0_moveTo (rc : Nat → xS → Nat → Int → Int → Int → Int → Option (Int × xS)) (fu lb : Nat) (S : xS) (p0 : Nat) (i0 i1 i2 i3 : Int) : Option (Int × xS) := match lb with
    | 0 => b_X0_moveTo_0 rc fu S p0 i0 i1 i2 i3
    | 1 => b_X0_moveTo_1 rc fu S p0 i0 i1 i2 i3
    | 2 => b_X0_moveTo_2 rc fu S p0 i0 i1 i2 i3
    | _ => b_X0_moveTo_3 rc fu S p0 i0 i1 i2 i3
noncomputable def g_X0_moveTo (k : Nat) : Nat → xS → Nat → Int → Int → Int → Int → Option (Int × xS) := Nat.rec (motive := fun _ => Nat → xS → Nat → Int → Int → Int → Int → Option (Int × xS)) (fun _ _ _ _ _ _ _ => none) (fun fu rc => s_X0_moveTo rc fu) k
noncomputable def f_X0_moveTo (fu : Nat) (S : xS) (p0 : Nat) (i0 : Int) (i1 : Int) : Option (Int × xS) := g_X0_moveTo fu 0 S p0 i0 i1 0 0
noncomputable def b_X4_setToFirst_0 (rc : Nat → xS → Nat → Int → Int → Option (Int × xS)) (fu : Nat) (S : xS) (p0 : Nat) (i0 i1 : Int) : Option (Int × xS) :=
  rc 1 S p0 i0 0
noncomputable def b_X4_setToFirst_1 (rc : Nat → xS → Nat → Int → Int → Option (Int × xS)) (fu : Nat) (S : xS) (p0 : Nat) (i0 i1 : Int) : Option (Int × xS) :=
  if wI i0 ≤ wI i1 then (some ((0 : Int), S))
  else ((wrA 0 S p0 i1 i1).bind fun S3 =>
  nmx (i1 + 1) fun x4 =>
  rc 1 S3 p0 i0 x4)
noncomputable def s_X4_setToFirst (rc : Nat → xS → Nat → Int → Int → Option (Int × xS)) (fu lb : Nat) (S : xS) (p0 : Nat) (i0 i1 : Int) : Option (Int × xS) := match lb with
    | 0 => b_X4_setToFirst_0 rc fu S p0 i0 i1
    | _ => b_X4_setToFirst_1 rc fu S p0 i0 i1
noncomputable def g_X4_setToFirst (k : Nat) : Nat → xS → Nat → Int → Int → Option (Int × xS) := Nat.rec (motive := fun _ => Nat → xS → Nat → Int → Int → Option (Int × xS)) (fun _ _ _ _ _ => none) (fun fu rc => s_X4_setToFirst rc fu) k
noncomputable def f_X4_setToFirst (fu : Nat) (S : xS) (p0 : Nat) (i0 : Int) : Option (Int × xS) := g_X4_setToFirst fu 0 S p0 i0 0
noncomputable def f_X1_setAsAtFirst (fu : Nat) (S : xS) (p0 : Nat) (i0 : Int) : Option (Int × xS) :=
  (wrF 1 0 S p0 (.inl i0)).bind fun S2 =>
  (wrF 1 1 S2 p0 (.inl 2)).bind fun S4 =>
  (wrF 1 2 S4 p0 (.inl 1)).bind fun S6 =>
  (rdFp 1 3 S6 p0).bind fun q8 =>
  bd2 (f_X4_setToFirst fu S6 q8 i0) fun z11 S9 =>
  (rdFp 1 4 S9 p0).bind fun q13 =>
  bd2 (f_J7_fill_53178 fu S9 q13 ((-1))) fun z16 S14 =>
  (rdFp 1 5 S14 p0).bind fun q18 =>
  bd2 (f_J7_fill_53178 fu S14 q18 0) fun z21 S19 =>
  (wrF 1 6 S19 p0 (.inl 0)).bind fun S23 =>
  (wrF 1 9 S23 p0 (.inl 0)).bind fun S25 =>
  (wrF 1 11 S25 p0 (.inl 0)).bind fun S27 =>
  some ((0 : Int), S27)
noncomputable def f_X1_init (fu : Nat) (S : xS) (p0 : Nat) : Option (Int × xS) :=
  nmx (S ++ [.inl (0, List.replicate 7 0)]) fun S1 =>
  (wrF 1 3 S1 p0 (.inr (.inr (some S.length)))).bind fun S3 =>
  nmx (S3 ++ [.inl (0, List.replicate 7 0)]) fun S4 =>
  (wrF 1 4 S4 p0 (.inr (.inr (some S3.length)))).bind fun S6 =>
  nmx (S6 ++ [.inl (0, List.replicate 7 0)]) fun S7 =>
  (wrF 1 5 S7 p0 (.inr (.inr (some S6.length)))).bind fun S9 =>
  nmx (S9 ++ [.inl (0, List.replicate 8 0)]) fun S10 =>
  (wrF 1 7 S10 p0 (.inr (.inr (some S9.length)))).bind fun S12 =>
  nmx (S12 ++ [.inl (0, List.replicate 8 0)]) fun S13 =>
  (wrF 1 8 S13 p0 (.inr (.inr (some S12.length)))).bind fun S15 =>
  nmx (S15 ++ [.inl (0, List.replicate 4 0)]) fun S16 =>
  (wrF 1 10 S16 p0 (.inr (.inr (some S15.length)))).bind fun S18 =>
  nmx (S18 ++ [.inl (0, List.replicate 10 0)]) fun S19 =>
  (wrF 1 12 S19 p0 (.inr (.inr (some S18.length)))).bind fun S21 =>
  nmx (S21 ++ [.inl (0, List.replicate 7 0)]) fun S22 =>
  (wrF 1 13 S22 p0 (.inr (.inr (some S21.length)))).bind fun S24 =>
  if isO 1 S24 p0 = true then
  bd2 (f_X1_setAsAtFirst fu S24 p0 5) fun z27 S25 =>
  some ((0 : Int), S25) else none
noncomputable def f_X1_copyOf (fu : Nat) (S : xS) (p0 : Nat) (p1 : Nat) : Option (Int × xS) :=
  (rdFi 1 0 S p1).bind fun x2 =>
  (wrF 1 0 S p0 (.inl x2)).bind fun S4 =>
  (rdFi 1 1 S4 p1).bind fun x6 =>
  (wrF 1 1 S4 p0 (.inl x6)).bind fun S8 =>
  (rdFi 1 2 S8 p1).bind fun x10 =>
  (wrF 1 2 S8 p0 (.inl x10)).bind fun S12 =>
  (rdFp 1 3 S12 p1).bind fun q14 =>
  (rdFp 1 3 S12 p0).bind fun q16 =>
  (cpyA S12 q14 0 q16 0 7).bind fun S18 =>
  (rdFp 1 4 S18 p1).bind fun q20 =>
  (rdFp 1 4 S18 p0).bind fun q22 =>
  (cpyA S18 q20 0 q22 0 7).bind fun S24 =>
  (rdFp 1 5 S24 p1).bind fun q26 =>
  (rdFp 1 5 S24 p0).bind fun q28 =>
  (cpyA S24 q26 0 q28 0 7).bind fun S30 =>
  (rdFi 1 6 S30 p1).bind fun x32 =>
  (wrF 1 6 S30 p0 (.inl x32)).bind fun S34 =>
  (rdFp 1 7 S34 p1).bind fun q36 =>
  (rdFp 1 7 S34 p0).bind fun q38 =>
  (cpyA S34 q36 0 q38 0 8).bind fun S40 =>
  (rdFp 1 8 S40 p1).bind fun q42 =>
  (rdFp 1 8 S40 p0).bind fun q44 =>
  (cpyA S40 q42 0 q44 0 8).bind fun S46 =>
  (rdFi 1 9 S46 p1).bind fun x48 =>
  (wrF 1 9 S46 p0 (.inl x48)).bind fun S50 =>
  (rdFp 1 10 S50 p1).bind fun q52 =>
  (rdFp 1 10 S50 p0).bind fun q54 =>
  (cpyA S50 q52 0 q54 0 4).bind fun S56 =>
  (rdFi 1 11 S56 p1).bind fun x58 =>
  (wrF 1 11 S56 p0 (.inl x58)).bind fun S60 =>
  (rdFp 1 12 S60 p1).bind fun q62 =>
  (rdFp 1 12 S60 p0).bind fun q64 =>
  (cpyA S60 q62 0 q64 0 10).bind fun S66 =>
  some ((0 : Int), S66)
noncomputable def b_X1_keepPast_0 (rc : Nat → xS → Nat → Option (Int × xS)) (fu : Nat) (S : xS) (p0 : Nat) : Option (Int × xS) :=
  (rdFi 1 11 S p0).bind fun x2 =>
  if wI x2 < wI 10 then (rc 1 S p0)
  else ((rdFp 1 12 S p0).bind fun q5 =>
  (rdFp 1 12 S p0).bind fun q7 =>
  (cpyA S q5 1 q7 0 9).bind fun S9 =>
  (wrF 1 11 S9 p0 (.inl 9)).bind fun S11 =>
  rc 1 S11 p0)
noncomputable def b_X1_keepPast_1 (rc : Nat → xS → Nat → Option (Int × xS)) (fu : Nat) (S : xS) (p0 : Nat) : Option (Int × xS) :=
  (rdFp 1 12 S p0).bind fun q13 =>
  (rdFi 1 11 S p0).bind fun x15 =>
  if isO 1 S p0 = true then
  bd2 (f_X1_rankNow fu S p0) fun x18 S16 =>
  (wrA 0 S16 q13 x15 x18).bind fun S21 =>
  (rdFi 1 11 S21 p0).bind fun x23 =>
  (wrF 1 11 S21 p0 (.inl (x23 + 1))).bind fun S25 =>
  some ((0 : Int), S25) else none
noncomputable def s_X1_keepPast (rc : Nat → xS → Nat → Option (Int × xS)) (fu lb : Nat) (S : xS) (p0 : Nat) : Option (Int × xS) := match lb with
    | 0 => b_X1_keepPast_0 rc fu S p0
    | _ => b_X1_keepPast_1 rc fu S p0
noncomputable def g_X1_keepPast (k : Nat) : Nat → xS → Nat → Option (Int × xS) := Nat.rec (motive := fun _ => Nat → xS → Nat → Option (Int × xS)) (fun _ _ _ => none) (fun fu rc => s_X1_keepPast rc fu) k
noncomputable def f_X1_keepPast (fu : Nat) (S : xS) (p0 : Nat) : Option (Int × xS) := g_X1_keepPast fu 0 S p0
noncomputable def f_X1_goBack (fu : Nat) (S : xS) (p0 : Nat) : Option (Int × xS) :=
  (rdFi 1 11 S p0).bind fun x2 =>
  if wI x2 ≤ 0 then (some ((0 : Int), S))
  else ((rdFi 1 11 S p0).bind fun x5 =>
  (wrF 1 11 S p0 (.inl (x5 - 1))).bind fun S7 =>
  (rdFp 1 3 S7 p0).bind fun q9 =>
  (rdFi 1 0 S7 p0).bind fun x11 =>
  (rdFp 1 12 S7 p0).bind fun q13 =>
  (rdFi 1 11 S7 p0).bind fun x15 =>
  (rdA 0 S7 q13 x15).bind fun x16 =>
  bd2 (f_X4_setToRank fu S7 q9 x11 x16) fun z20 S18 =>
  some ((0 : Int), S18))
noncomputable def b_X1_knownCount_0 (rc : Nat → xS → Nat → Int → Int → Int → Option (Int × xS)) (fu : Nat) (S : xS) (p0 : Nat) (i0 i1 i2 : Int) : Option (Int × xS) :=
  rc 1 S p0 0 0 0
noncomputable def b_X1_knownCount_1 (rc : Nat → xS → Nat → Int → Int → Int → Option (Int × xS)) (fu : Nat) (S : xS) (p0 : Nat) (i0 i1 i2 : Int) : Option (Int × xS) :=
  (rdFi 1 0 S p0).bind fun x2 =>
  if wI x2 ≤ wI i1 then (some (i0, S))
  else ((rdFp 1 4 S p0).bind fun q5 =>
  (rdA 0 S q5 i1).bind fun x6 =>
  if wI x6 = wI ((-1)) then (rc 2 S p0 i1 i0 0)
  else (rc 2 S p0 i1 i0 1))
noncomputable def b_X1_knownCount_2 (rc : Nat → xS → Nat → Int → Int → Int → Option (Int × xS)) (fu : Nat) (S : xS) (p0 : Nat) (i0 i1 i2 : Int) : Option (Int × xS) :=
  nmx (i1 + i2) fun x9 =>
  nmx (i0 + 1) fun x11 =>
  rc 1 S p0 x9 x11 0
noncomputable def s_X1_knownCount (rc : Nat → xS → Nat → Int → Int → Int → Option (Int × xS)) (fu lb : Nat) (S : xS) (p0 : Nat) (i0 i1 i2 : Int) : Option (Int × xS) := match lb with
    | 0 => b_X1_knownCount_0 rc fu S p0 i0 i1 i2
    | 1 => b_X1_knownCount_1 rc fu S p0 i0 i1 i2
    | _ => b_X1_knownCount_2 rc fu S p0 i0 i1 i2
noncomputable def g_X1_knownCount (k : Nat) : Nat → xS → Nat → Int → Int → Int → Option (Int × xS) := Nat.rec (motive := fun _ => Nat → xS → Nat → Int → Int → Int → Option (Int × xS)) (fun _ _ _ _ _ _ => none) (fun fu rc => s_X1_knownCount rc fu) k
noncomputable def f_X1_knownCount (fu : Nat) (S : xS) (p0 : Nat) : Option (Int × xS) := g_X1_knownCount fu 0 S p0 0 0 0
noncomputable def b_X1_isKnownSlip_0 (rc : Nat → xS → Nat → Int → Int → Option (Int × xS)) (fu : Nat) (S : xS) (p0 : Nat) (i0 i1 : Int) : Option (Int × xS) :=
  rc 1 S p0 i0 0
noncomputable def b_X1_isKnownSlip_1 (rc : Nat → xS → Nat → Int → Int → Option (Int × xS)) (fu : Nat) (S : xS) (p0 : Nat) (i0 i1 : Int) : Option (Int × xS) :=
  (rdFi 1 0 S p0).bind fun x2 =>
  if wI x2 ≤ wI i1 then (some (0, S))
  else ((rdFp 1 4 S p0).bind fun q5 =>
  (rdA 0 S q5 i1).bind fun x6 =>
  if wI x6 = wI i0 then (some (1, S))
  else (nmx (i1 + 1) fun x9 =>
  rc 1 S p0 i0 x9))
noncomputable def s_X1_isKnownSlip (rc : Nat → xS → Nat → Int → Int → Option (Int × xS)) (fu lb : Nat) (S : xS) (p0 : Nat) (i0 i1 : Int) : Option (Int × xS) := match lb with
    | 0 => b_X1_isKnownSlip_0 rc fu S p0 i0 i1
    | _ => b_X1_isKnownSlip_1 rc fu S p0 i0 i1
noncomputable def g_X1_isKnownSlip (k : Nat) : Nat → xS → Nat → Int → Int → Option (Int × xS) := Nat.rec (motive := fun _ => Nat → xS → Nat → Int → Int → Option (Int × xS)) (fun _ _ _ _ _ => none) (fun fu rc => s_X1_isKnownSlip rc fu) k
noncomputable def f_X1_isKnownSlip (fu : Nat) (S : xS) (p0 : Nat) (i0 : Int) : Option (Int × xS) := g_X1_isKnownSlip fu 0 S p0 i0 0
noncomputable def f_X1_addReport (fu : Nat) (S : xS) (p0 : Nat) (i0 : Int) (i1 : Int) : Option (Int × xS) :=
  (rdFi 1 6 S p0).bind fun x2 =>
  if wI x2 < wI 8 then ((rdFp 1 7 S p0).bind fun q5 =>
  (rdFi 1 6 S p0).bind fun x7 =>
  (wrA 0 S q5 x7 i0).bind fun S9 =>
  (rdFp 1 8 S9 p0).bind fun q11 =>
  (rdFi 1 6 S9 p0).bind fun x13 =>
  (wrA 0 S9 q11 x13 i1).bind fun S15 =>
  (rdFi 1 6 S15 p0).bind fun x17 =>
  (wrF 1 6 S15 p0 (.inl (x17 + 1))).bind fun S19 =>
  (rdFi 1 6 S19 p0).bind fun x21 =>
  some (x21 - 1, S19))
  else (some ((-4), S))
noncomputable def f_X1_addMove (fu : Nat) (S : xS) (p0 : Nat) (i0 : Int) : Option (Int × xS) :=
  (rdFi 1 9 S p0).bind fun x2 =>
  if wI x2 < wI 4 then ((rdFp 1 10 S p0).bind fun q5 =>
  (rdFi 1 9 S p0).bind fun x7 =>
  (wrA 0 S q5 x7 i0).bind fun S9 =>
  (rdFi 1 9 S9 p0).bind fun x11 =>
  (wrF 1 9 S9 p0 (.inl (x11 + 1))).bind fun S13 =>
  (rdFi 1 9 S13 p0).bind fun x15 =>
  some (x15 - 1, S13))
  else (some ((-4), S))
noncomputable def f_X1_makeMove (fu : Nat) (S : xS) (p0 : Nat) (i0 : Int) (p1 : Nat) : Option (Int × xS) :=
  if isO 1 S p0 = true then
  bd2 (f_X1_keepPast fu S p0) fun z3 S1 =>
  (rdFi 1 0 S1 p0).bind fun x6 =>
  (rdFp 1 10 S1 p0).bind fun q8 =>
  (rdA 0 S1 q8 i0).bind fun x9 =>
  bd2 (f_X4_setToRank fu S1 p1 x6 x9) fun z13 S11 =>
  (rdFp 1 13 S11 p0).bind fun q15 =>
  (rdFp 1 3 S11 p0).bind fun q17 =>
  (rdFi 1 0 S11 p0).bind fun x19 =>
  bd2 (f_X4_setMoved fu S11 q15 q17 p1 x19) fun z22 S20 =>
  (rdFp 1 13 S20 p0).bind fun q24 =>
  (rdFp 1 3 S20 p0).bind fun q26 =>
  (rdFi 1 0 S20 p0).bind fun x28 =>
  (cpyA S20 q24 0 q26 0 x28).bind fun S30 =>
  some ((0 : Int), S30) else none
noncomputable def f_X2_init (fu : Nat) (S : xS) (p0 : Nat) : Option (Int × xS) :=
  nmx (S ++ [.inl (0, List.replicate 7 0)]) fun S1 =>
  (wrF 2 0 S1 p0 (.inr (.inr (some S.length)))).bind fun S3 =>
  (wrF 2 1 S3 p0 (.inl 0)).bind fun S5 =>
  (wrF 2 2 S5 p0 (.inl 0)).bind fun S7 =>
  (wrF 2 3 S7 p0 (.inl 0)).bind fun S10 =>
  some ((0 : Int), S10)
noncomputable def b_X2_closedFrom_0 (rc : Nat → xS → Nat → Int → Int → Int → Option (Int × xS)) (fu : Nat) (S : xS) (p0 : Nat) (i0 i1 i2 : Int) : Option (Int × xS) :=
  rc 1 S p0 i1 i0 0
noncomputable def b_X2_closedFrom_1 (rc : Nat → xS → Nat → Int → Int → Int → Option (Int × xS)) (fu : Nat) (S : xS) (p0 : Nat) (i0 i1 i2 : Int) : Option (Int × xS) :=
  if wI i0 ≤ wI i2 then (some (i1, S))
  else ((rdFi 2 3 S p0).bind fun x3 =>
  if wI (xAnd (xShr x3 i1) 1) = wI 1 then (if wI i0 = 0 then none else
  nmx ((wI (i1 + 1)).tmod (wI i0)) fun x6 =>
  nmx (i2 + 1) fun x8 =>
  rc 1 S p0 i0 x6 x8)
  else (some (i1, S)))
noncomputable def s_X2_closedFrom (rc : Nat → xS → Nat → Int → Int → Int → Option (Int × xS)) (fu lb : Nat) (S : xS) (p0 : Nat) (i0 i1 i2 : Int) : Option (Int × xS) := match lb with
    | 0 => b_X2_closedFrom_0 rc fu S p0 i0 i1 i2
    | _ => b_X2_closedFrom_1 rc fu S p0 i0 i1 i2
noncomputable def g_X2_closedFrom (k : Nat) : Nat → xS → Nat → Int → Int → Int → Option (Int × xS) := Nat.rec (motive := fun _ => Nat → xS → Nat → Int → Int → Int → Option (Int × xS)) (fun _ _ _ _ _ _ => none) (fun fu rc => s_X2_closedFrom rc fu) k
noncomputable def f_X2_closedFrom (fu : Nat) (S : xS) (p0 : Nat) (i0 : Int) (i1 : Int) : Option (Int × xS) := g_X2_closedFrom fu 0 S p0 i0 i1 0
noncomputable def f_X2_nextBox (fu : Nat) (S : xS) (p0 : Nat) (p1 : Nat) (i0 : Int) (i1 : Int) (i2 : Int) : Option (Int × xS) :=
  (rdFi 1 0 S p1).bind fun x2 =>
  if wI i0 = 1 then ((rdFi 2 1 S p0).bind fun x5 =>
  some (x5, S)) else
  if wI i0 = 2 then ((rdFi 2 1 S p0).bind fun x8 =>
  some ((x2 - 1) - x8, S)) else
  if wI i0 = 3 then ((rdFi 2 1 S p0).bind fun x11 =>
  if wI x2 ≤ wI (2 * x11) then ((rdFi 2 1 S p0).bind fun x14 =>
  if wI 2 = 0 then none else
  some ((2 * (x14 - ((wI (x2 + 1)).tdiv (wI 2)))) + 1, S))
  else ((rdFi 2 1 S p0).bind fun x17 =>
  some (2 * x17, S))) else
  if wI i0 = 4 then ((rdFi 1 2 S p1).bind fun x20 =>
  if wI x2 = 0 then none else
  if isO 2 S p0 = true then
  bd2 (f_X2_closedFrom fu S p0 ((wI (i2 + x20)).tmod (wI x2)) x2) fun x24 S22 =>
  some (x24, S22) else none) else
  if wI i0 = 5 then ((rdFi 2 1 S p0).bind fun x28 =>
  if wI x28 = 0 then (some (0, S))
  else ((rdFi 1 2 S p1).bind fun x31 =>
  if wI x2 = 0 then none else
  if isO 2 S p0 = true then
  bd2 (f_X2_closedFrom fu S p0 ((wI (i1 + (xMax 1 x31))).tmod (wI x2)) x2) fun x35 S33 =>
  some (x35, S33) else none)) else
  (some (i2, S))
noncomputable def b_X2_seek_0 (rc : Nat → xS → Nat → Nat → Nat → Nat → Int → Int → Int → Int → Int → Option (Int × xS)) (fu : Nat) (S : xS) (p0 p1 p2 p3 : Nat) (i0 i1 i2 i3 i4 : Int) : Option (Int × xS) :=
  (wrF 2 1 S p0 (.inl 0)).bind fun S2 =>
  (wrF 2 2 S2 p0 (.inl 0)).bind fun S4 =>
  (wrF 2 3 S4 p0 (.inl 0)).bind fun S7 =>
  rc 1 S7 p0 p1 p2 0 i0 i1 0 i0 0
noncomputable def b_X2_seek_1 (rc : Nat → xS → Nat → Nat → Nat → Nat → Int → Int → Int → Int → Int → Option (Int × xS)) (fu : Nat) (S : xS) (p0 p1 p2 p3 : Nat) (i0 i1 i2 i3 i4 : Int) : Option (Int × xS) :=
  (rdFi 2 1 S p0).bind fun x9 =>
  (rdFi 1 1 S p1).bind fun x11 =>
  if wI x11 ≤ wI x9 then (some ((0 : Int), S))
  else ((rdFi 2 1 S p0).bind fun x14 =>
  (rdFi 1 0 S p1).bind fun x16 =>
  if wI x16 ≤ wI x14 then (some ((0 : Int), S))
  else ((rdFi 2 2 S p0).bind fun x19 =>
  if wI x19 = 0 then (if isO 2 S p0 = true then
  bd2 (f_X2_nextBox fu S p0 p1 i1 i2 i3) fun x23 S21 =>
  (rdFp 2 0 S21 p0).bind fun q26 =>
  (rdFi 2 1 S21 p0).bind fun x28 =>
  (wrA 0 S21 q26 x28 x23).bind fun S30 =>
  (rdFi 2 1 S30 p0).bind fun x32 =>
  (wrF 2 1 S30 p0 (.inl (x32 + 1))).bind fun S34 =>
  (rdFi 2 3 S34 p0).bind fun x36 =>
  (wrF 2 3 S34 p0 (.inl (xOr x36 (xShl 1 x23)))).bind fun S38 =>
  (rdA 0 S38 p2 x23).bind fun x39 =>
  if wI x39 = wI i0 then (rc 2 S38 p0 p1 p2 p0 i0 i1 x23 x39 1)
  else (rc 2 S38 p0 p1 p2 p0 i0 i1 x23 x39 0) else none)
  else (some ((0 : Int), S))))
noncomputable def b_X2_seek_2 (rc : Nat → xS → Nat → Nat → Nat → Nat → Int → Int → Int → Int → Int → Option (Int × xS)) (fu : Nat) (S : xS) (p0 p1 p2 p3 : Nat) (i0 i1 i2 i3 i4 : Int) : Option (Int × xS) :=
  if i4 = 0 ∨ i4 = 1 then
  (wrF 2 2 S p3 (.inl i4)).bind fun S43 =>
  rc 1 S43 p0 p1 p2 0 i0 i1 i2 i3 0 else none
noncomputable def s_X2_seek (rc : Nat → xS → Nat → Nat → Nat → Nat → Int → Int → Int → Int → Int → Option (Int × xS)) (fu lb : Nat) (S : xS) (p0 p1 p2 p3 : Nat) (i0 i1 i2 i3 i4 : Int) : Option (Int × xS) := match lb with
    | 0 => b_X2_seek_0 rc fu S p0 p1 p2 p3 i0 i1 i2 i3 i4
    | 1 => b_X2_seek_1 rc fu S p0 p1 p2 p3 i0 i1 i2 i3 i4
    | _ => b_X2_seek_2 rc fu S p0 p1 p2 p3 i0 i1 i2 i3 i4
noncomputable def g_X2_seek (k : Nat) : Nat → xS → Nat → Nat → Nat → Nat → Int → Int → Int → Int → Int → Option (Int × xS) := Nat.rec (motive := fun _ => Nat → xS → Nat → Nat → Nat → Nat → Int → Int → Int → Int → Int → Option (Int × xS)) (fun _ _ _ _ _ _ _ _ _ _ _ => none) (fun fu rc => s_X2_seek rc fu) k
noncomputable def f_X2_seek (fu : Nat) (S : xS) (p0 : Nat) (p1 : Nat) (p2 : Nat) (i0 : Int) (i1 : Int) : Option (Int × xS) := g_X2_seek fu 0 S p0 p1 p2 0 i0 i1 0 0 0
noncomputable def f_X3_init (fu : Nat) (S : xS) (p0 : Nat) : Option (Int × xS) :=
  nmx (S ++ [.inl (1, List.replicate 150 0)]) fun S1 =>
  (wrF 3 0 S1 p0 (.inr (.inr (some S.length)))).bind fun S3 =>
  (wrF 3 1 S3 p0 (.inl 0)).bind fun S5 =>
  (wrF 3 2 S5 p0 (.inl 0)).bind fun S7 =>
  (wrF 3 3 S7 p0 (.inl 0)).bind fun S9 =>
  (wrF 3 4 S9 p0 (.inl 0)).bind fun S11 =>
  (wrF 3 5 S11 p0 (.inl 0)).bind fun S13 =>
  some ((0 : Int), S13)
noncomputable def b_X3_isWithin_0 (rc : Nat → xS → Int → Int → Int → Option (Int × xS)) (fu : Nat) (S : xS) (i0 i1 i2 : Int) : Option (Int × xS) :=
  if wI i0 < wI i1 then (rc 1 S 0 0 0)
  else (if wI i2 < wI i0 then (rc 1 S 0 0 0)
  else (some (1, S)))
noncomputable def b_X3_isWithin_1 (rc : Nat → xS → Int → Int → Int → Option (Int × xS)) (fu : Nat) (S : xS) (i0 i1 i2 : Int) : Option (Int × xS) :=
  some (0, S)
noncomputable def s_X3_isWithin (rc : Nat → xS → Int → Int → Int → Option (Int × xS)) (fu lb : Nat) (S : xS) (i0 i1 i2 : Int) : Option (Int × xS) := match lb with
    | 0 => b_X3_isWithin_0 rc fu S i0 i1 i2
    | _ => b_X3_isWithin_1 rc fu S i0 i1 i2
noncomputable def g_X3_isWithin (k : Nat) : Nat → xS → Int → Int → Int → Option (Int × xS) := Nat.rec (motive := fun _ => Nat → xS → Int → Int → Int → Option (Int × xS)) (fun _ _ _ _ _ => none) (fun fu rc => s_X3_isWithin rc fu) k
noncomputable def f_X3_isWithin (fu : Nat) (S : xS) (i0 : Int) (i1 : Int) (i2 : Int) : Option (Int × xS) := g_X3_isWithin fu 0 S i0 i1 i2
noncomputable def b_X3_takeWord_0 (rc : Nat → xS → Nat → Option (Int × xS)) (fu : Nat) (S : xS) (p0 : Nat) : Option (Int × xS) :=
  (wrF 3 3 S p0 (.inl 1)).bind fun S2 =>
  rc 1 S2 p0
noncomputable def b_X3_takeWord_1 (rc : Nat → xS → Nat → Option (Int × xS)) (fu : Nat) (S : xS) (p0 : Nat) : Option (Int × xS) :=
  (rdFi 3 2 S p0).bind fun x4 =>
  (rdFi 3 1 S p0).bind fun x6 =>
  if wI x6 ≤ wI x4 then (some ((0 : Int), S))
  else ((rdFp 3 0 S p0).bind fun q9 =>
  (rdFi 3 2 S p0).bind fun x11 =>
  (rdA 1 S q9 x11).bind fun x12 =>
  bd2 (f_X3_isWithin fu S x12 97 122) fun x16 S14 =>
  if wI x16 = 0 then (some ((0 : Int), S14))
  else ((rdFi 3 2 S14 p0).bind fun x19 =>
  (wrF 3 2 S14 p0 (.inl (x19 + 1))).bind fun S21 =>
  rc 1 S21 p0))
noncomputable def s_X3_takeWord (rc : Nat → xS → Nat → Option (Int × xS)) (fu lb : Nat) (S : xS) (p0 : Nat) : Option (Int × xS) := match lb with
    | 0 => b_X3_takeWord_0 rc fu S p0
    | _ => b_X3_takeWord_1 rc fu S p0
noncomputable def g_X3_takeWord (k : Nat) : Nat → xS → Nat → Option (Int × xS) := Nat.rec (motive := fun _ => Nat → xS → Nat → Option (Int × xS)) (fun _ _ _ => none) (fun fu rc => s_X3_takeWord rc fu) k
noncomputable def f_X3_takeWord (fu : Nat) (S : xS) (p0 : Nat) : Option (Int × xS) := g_X3_takeWord fu 0 S p0
noncomputable def b_X3_takeFigures_0 (rc : Nat → xS → Nat → Option (Int × xS)) (fu : Nat) (S : xS) (p0 : Nat) : Option (Int × xS) :=
  (wrF 3 5 S p0 (.inl 0)).bind fun S2 =>
  rc 1 S2 p0
noncomputable def b_X3_takeFigures_1 (rc : Nat → xS → Nat → Option (Int × xS)) (fu : Nat) (S : xS) (p0 : Nat) : Option (Int × xS) :=
  (rdFi 3 2 S p0).bind fun x4 =>
  (rdFi 3 1 S p0).bind fun x6 =>
  if wI x6 ≤ wI x4 then (rc 2 S p0)
  else ((rdFp 3 0 S p0).bind fun q9 =>
  (rdFi 3 2 S p0).bind fun x11 =>
  (rdA 1 S q9 x11).bind fun x12 =>
  bd2 (f_X3_isWithin fu S x12 48 57) fun x16 S14 =>
  if wI x16 = 0 then (rc 2 S14 p0)
  else ((rdFi 3 5 S14 p0).bind fun x19 =>
  (rdFp 3 0 S14 p0).bind fun q21 =>
  (rdFi 3 2 S14 p0).bind fun x23 =>
  (rdA 1 S14 q21 x23).bind fun x24 =>
  (wrF 3 5 S14 p0 (.inl (xMin 9999 (((10 * x19) + x24) - 48)))).bind fun S27 =>
  (rdFi 3 2 S27 p0).bind fun x29 =>
  (wrF 3 2 S27 p0 (.inl (x29 + 1))).bind fun S31 =>
  rc 1 S31 p0))
noncomputable def b_X3_takeFigures_2 (rc : Nat → xS → Nat → Option (Int × xS)) (fu : Nat) (S : xS) (p0 : Nat) : Option (Int × xS) :=
  (rdFi 3 2 S p0).bind fun x33 =>
  (rdFi 3 4 S p0).bind fun x35 =>
  if wI 4 < wI (x33 - x35) then ((wrF 3 3 S p0 (.inl 4)).bind fun S38 =>
  some ((0 : Int), S38))
  else ((wrF 3 3 S p0 (.inl 2)).bind fun S40 =>
  some ((0 : Int), S40))
noncomputable def s_X3_takeFigures (rc : Nat → xS → Nat → Option (Int × xS)) (fu lb : Nat) (S : xS) (p0 : Nat) : Option (Int × xS) := match lb with
    | 0 => b_X3_takeFigures_0 rc fu S p0
    | 1 => b_X3_takeFigures_1 rc fu S p0
    | _ => b_X3_takeFigures_2 rc fu S p0
noncomputable def g_X3_takeFigures (k : Nat) : Nat → xS → Nat → Option (Int × xS) := Nat.rec (motive := fun _ => Nat → xS → Nat → Option (Int × xS)) (fun _ _ _ => none) (fun fu rc => s_X3_takeFigures rc fu) k
noncomputable def f_X3_takeFigures (fu : Nat) (S : xS) (p0 : Nat) : Option (Int × xS) := g_X3_takeFigures fu 0 S p0
noncomputable def b_X3_toNextToken_0 (rc : Nat → xS → Nat → Nat → Int → Option (Int × xS)) (fu : Nat) (S : xS) (p0 p1 : Nat) (i0 : Int) : Option (Int × xS) :=
  (rdFi 3 2 S p0).bind fun x2 =>
  (rdFi 3 1 S p0).bind fun x4 =>
  if wI x4 ≤ wI x2 then (rc 1 S p0 0 0)
  else ((rdFp 3 0 S p0).bind fun q7 =>
  (rdFi 3 2 S p0).bind fun x9 =>
  (rdA 1 S q7 x9).bind fun x10 =>
  if wI x10 = wI 32 then ((rdFi 3 2 S p0).bind fun x14 =>
  (wrF 3 2 S p0 (.inl (x14 + 1))).bind fun S16 =>
  rc 0 S16 p0 0 0)
  else (rc 1 S p0 0 0))
noncomputable def b_X3_toNextToken_1 (rc : Nat → xS → Nat → Nat → Int → Option (Int × xS)) (fu : Nat) (S : xS) (p0 p1 : Nat) (i0 : Int) : Option (Int × xS) :=
  (rdFi 3 2 S p0).bind fun x18 =>
  (wrF 3 4 S p0 (.inl x18)).bind fun S20 =>
  (rdFi 3 2 S20 p0).bind fun x22 =>
  (rdFi 3 1 S20 p0).bind fun x24 =>
  if wI x22 < wI x24 then ((rdFp 3 0 S20 p0).bind fun q27 =>
  (rdFi 3 2 S20 p0).bind fun x29 =>
  (rdA 1 S20 q27 x29).bind fun x30 =>
  bd2 (f_X3_isWithin fu S20 x30 97 122) fun x34 S32 =>
  if wI x34 = 0 then ((rdFp 3 0 S32 p0).bind fun q37 =>
  (rdFi 3 2 S32 p0).bind fun x39 =>
  (rdA 1 S32 q37 x39).bind fun x40 =>
  bd2 (f_X3_isWithin fu S32 x40 48 57) fun x44 S42 =>
  if wI x44 = 0 then ((rdFp 3 0 S42 p0).bind fun q47 =>
  (rdFi 3 2 S42 p0).bind fun x49 =>
  (rdA 1 S42 q47 x49).bind fun x50 =>
  if wI x50 = wI 59 then (rc 2 S42 p0 p0 3)
  else (rc 2 S42 p0 p0 4))
  else (if isO 3 S42 p0 = true then
  bd2 (f_X3_takeFigures fu S42 p0) fun z55 S53 =>
  some ((0 : Int), S53) else none))
  else (if isO 3 S32 p0 = true then
  bd2 (f_X3_takeWord fu S32 p0) fun z59 S57 =>
  some ((0 : Int), S57) else none))
  else ((wrF 3 3 S20 p0 (.inl 0)).bind fun S62 =>
  some ((0 : Int), S62))
noncomputable def b_X3_toNextToken_2 (rc : Nat → xS → Nat → Nat → Int → Option (Int × xS)) (fu : Nat) (S : xS) (p0 p1 : Nat) (i0 : Int) : Option (Int × xS) :=
  (wrF 3 3 S p1 (.inl i0)).bind fun S64 =>
  (rdFi 3 2 S64 p0).bind fun x66 =>
  (wrF 3 2 S64 p0 (.inl (x66 + 1))).bind fun S68 =>
  some ((0 : Int), S68)
noncomputable def s_X3_toNextToken (rc : Nat → xS → Nat → Nat → Int → Option (Int × xS)) (fu lb : Nat) (S : xS) (p0 p1 : Nat) (i0 : Int) : Option (Int × xS) := match lb with
    | 0 => b_X3_toNextToken_0 rc fu S p0 p1 i0
    | 1 => b_X3_toNextToken_1 rc fu S p0 p1 i0
    | _ => b_X3_toNextToken_2 rc fu S p0 p1 i0
noncomputable def g_X3_toNextToken (k : Nat) : Nat → xS → Nat → Nat → Int → Option (Int × xS) := Nat.rec (motive := fun _ => Nat → xS → Nat → Nat → Int → Option (Int × xS)) (fun _ _ _ _ _ => none) (fun fu rc => s_X3_toNextToken rc fu) k
noncomputable def f_X3_toNextToken (fu : Nat) (S : xS) (p0 : Nat) : Option (Int × xS) := g_X3_toNextToken fu 0 S p0 0 0
noncomputable def f_X3_wordAt (fu : Nat) (S : xS) (i0 : Int) : Option (Nat × xS) :=
  if wI i0 = 0 then (some (0, S)) else
  if wI i0 = 1 then (some (1, S)) else
  if wI i0 = 2 then (some (2, S)) else
  if wI i0 = 3 then (some (3, S)) else
  if wI i0 = 4 then (some (4, S)) else
  if wI i0 = 5 then (some (5, S)) else
  if wI i0 = 6 then (some (6, S)) else
  if wI i0 = 7 then (some (7, S)) else
  (some (8, S))
noncomputable def b_X3_isTokenWord_0 (rc : Nat → xS → Nat → Nat → Int → Option (Int × xS)) (fu : Nat) (S : xS) (p0 p1 : Nat) (i0 : Int) : Option (Int × xS) :=
  (rdFi 3 2 S p0).bind fun x2 =>
  (rdFi 3 4 S p0).bind fun x4 =>
  (sLen p1).bind fun x5 =>
  if wI (x2 - x4) = wI x5 then (rc 1 S p0 p1 0)
  else (some (0, S))
noncomputable def b_X3_isTokenWord_1 (rc : Nat → xS → Nat → Nat → Int → Option (Int × xS)) (fu : Nat) (S : xS) (p0 p1 : Nat) (i0 : Int) : Option (Int × xS) :=
  (sLen p1).bind fun x8 =>
  if wI x8 ≤ wI i0 then (some (1, S))
  else ((rdFp 3 0 S p0).bind fun q12 =>
  (rdFi 3 4 S p0).bind fun x14 =>
  (rdA 1 S q12 (x14 + i0)).bind fun x15 =>
  (sChr p1 i0).bind fun x17 =>
  if wI x15 = wI x17 then (nmx (i0 + 1) fun x20 =>
  rc 1 S p0 p1 x20)
  else (some (0, S)))
noncomputable def s_X3_isTokenWord (rc : Nat → xS → Nat → Nat → Int → Option (Int × xS)) (fu lb : Nat) (S : xS) (p0 p1 : Nat) (i0 : Int) : Option (Int × xS) := match lb with
    | 0 => b_X3_isTokenWord_0 rc fu S p0 p1 i0
    | _ => b_X3_isTokenWord_1 rc fu S p0 p1 i0
noncomputable def g_X3_isTokenWord (k : Nat) : Nat → xS → Nat → Nat → Int → Option (Int × xS) := Nat.rec (motive := fun _ => Nat → xS → Nat → Nat → Int → Option (Int × xS)) (fun _ _ _ _ _ => none) (fun fu rc => s_X3_isTokenWord rc fu) k
noncomputable def f_X3_isTokenWord (fu : Nat) (S : xS) (p0 : Nat) (p1 : Nat) : Option (Int × xS) := g_X3_isTokenWord fu 0 S p0 p1 0
noncomputable def b_X3_wordNow_0 (rc : Nat → xS → Nat → Int → Option (Int × xS)) (fu : Nat) (S : xS) (p0 : Nat) (i0 : Int) : Option (Int × xS) :=
  rc 1 S p0 0
noncomputable def b_X3_wordNow_1 (rc : Nat → xS → Nat → Int → Option (Int × xS)) (fu : Nat) (S : xS) (p0 : Nat) (i0 : Int) : Option (Int × xS) :=
  if wI 9 ≤ wI i0 then (some ((-1), S))
  else (bd2 (f_X3_wordAt fu S i0) fun q4 S2 =>
  if isO 3 S2 p0 = true then
  bd2 (f_X3_isTokenWord fu S2 p0 q4) fun x7 S5 =>
  if wI x7 = 0 then (nmx (i0 + 1) fun x10 =>
  rc 1 S5 p0 x10)
  else (some (i0, S5)) else none)
noncomputable def s_X3_wordNow (rc : Nat → xS → Nat → Int → Option (Int × xS)) (fu lb : Nat) (S : xS) (p0 : Nat) (i0 : Int) : Option (Int × xS) := match lb with
    | 0 => b_X3_wordNow_0 rc fu S p0 i0
    | _ => b_X3_wordNow_1 rc fu S p0 i0
noncomputable def g_X3_wordNow (k : Nat) : Nat → xS → Nat → Int → Option (Int × xS) := Nat.rec (motive := fun _ => Nat → xS → Nat → Int → Option (Int × xS)) (fun _ _ _ _ => none) (fun fu rc => s_X3_wordNow rc fu) k
noncomputable def f_X3_wordNow (fu : Nat) (S : xS) (p0 : Nat) : Option (Int × xS) := g_X3_wordNow fu 0 S p0 0
noncomputable def b_X3_hasPlace_0 (rc : Nat → xS → Nat → Int → Option (Int × xS)) (fu : Nat) (S : xS) (p0 : Nat) (i0 : Int) : Option (Int × xS) :=
  if wI i0 = 5 then (rc 1 S p0 0) else
  if wI i0 = 6 then (rc 1 S p0 0) else
  if wI i0 = 7 then (some (1, S)) else
  if wI i0 = 8 then ((rdFi 1 9 S p0).bind fun x6 =>
  if wI 4 ≤ wI x6 then (some (0, S))
  else (some (1, S))) else
  (some (1, S))
noncomputable def b_X3_hasPlace_1 (rc : Nat → xS → Nat → Int → Option (Int × xS)) (fu : Nat) (S : xS) (p0 : Nat) (i0 : Int) : Option (Int × xS) :=
  (rdFi 1 6 S p0).bind fun x9 =>
  if wI 8 ≤ wI x9 then (some (0, S))
  else (some (1, S))
noncomputable def s_X3_hasPlace (rc : Nat → xS → Nat → Int → Option (Int × xS)) (fu lb : Nat) (S : xS) (p0 : Nat) (i0 : Int) : Option (Int × xS) := match lb with
    | 0 => b_X3_hasPlace_0 rc fu S p0 i0
    | _ => b_X3_hasPlace_1 rc fu S p0 i0
noncomputable def g_X3_hasPlace (k : Nat) : Nat → xS → Nat → Int → Option (Int × xS) := Nat.rec (motive := fun _ => Nat → xS → Nat → Int → Option (Int × xS)) (fun _ _ _ _ => none) (fun fu rc => s_X3_hasPlace rc fu) k
noncomputable def f_X3_hasPlace (fu : Nat) (S : xS) (p0 : Nat) (i0 : Int) : Option (Int × xS) := g_X3_hasPlace fu 0 S p0 i0
noncomputable def b_X3_isFirstDue_0 (rc : Nat → xS → Nat → Int → Int → Option (Int × xS)) (fu : Nat) (S : xS) (p0 : Nat) (i0 i1 : Int) : Option (Int × xS) :=
  if wI i0 = 0 then (if wI i1 < wI 2 then (rc 1 S 0 0 0)
  else (if wI 7 < wI i1 then (rc 1 S 0 0 0)
  else (some (1, S)))) else
  if wI i0 = 1 then (if wI i1 < wI 1 then (some (0, S))
  else (some (1, S))) else
  if wI i0 = 2 then (if wI 6 < wI i1 then (some (0, S))
  else (some (1, S))) else
  if wI i0 = 3 then (rc 3 S p0 i1 0) else
  if wI i0 = 4 then (rc 3 S p0 i1 0) else
  if wI i0 = 5 then (rc 3 S p0 i1 0) else
  if wI i0 = 6 then (rc 3 S p0 i1 0) else
  if wI i0 = 7 then ((rdFi 1 0 S p0).bind fun x14 =>
  if wI x14 ≤ wI i1 then (rc 2 S 0 0 0)
  else ((rdFp 1 4 S p0).bind fun q17 =>
  (rdA 0 S q17 i1).bind fun x18 =>
  if wI x18 = wI ((-1)) then (some (1, S))
  else (rc 2 S 0 0 0))) else
  if wI i0 = 8 then ((rdFi 1 0 S p0).bind fun x23 =>
  (rdT x23).bind fun x24 =>
  if wI x24 ≤ wI i1 then (some (0, S))
  else (some (1, S))) else
  (rc 3 S p0 i1 0)
noncomputable def b_X3_isFirstDue_1 (rc : Nat → xS → Nat → Int → Int → Option (Int × xS)) (fu : Nat) (S : xS) (p0 : Nat) (i0 i1 : Int) : Option (Int × xS) :=
  some (0, S)
noncomputable def b_X3_isFirstDue_2 (rc : Nat → xS → Nat → Int → Int → Option (Int × xS)) (fu : Nat) (S : xS) (p0 : Nat) (i0 i1 : Int) : Option (Int × xS) :=
  some (0, S)
noncomputable def b_X3_isFirstDue_3 (rc : Nat → xS → Nat → Int → Int → Option (Int × xS)) (fu : Nat) (S : xS) (p0 : Nat) (i0 i1 : Int) : Option (Int × xS) :=
  (rdFi 1 0 S p0).bind fun x28 =>
  if wI x28 ≤ wI i0 then (some (0, S))
  else (some (1, S))
noncomputable def s_X3_isFirstDue (rc : Nat → xS → Nat → Int → Int → Option (Int × xS)) (fu lb : Nat) (S : xS) (p0 : Nat) (i0 i1 : Int) : Option (Int × xS) := match lb with
    | 0 => b_X3_isFirstDue_0 rc fu S p0 i0 i1
    | 1 => b_X3_isFirstDue_1 rc fu S p0 i0 i1
    | 2 => b_X3_isFirstDue_2 rc fu S p0 i0 i1
    | _ => b_X3_isFirstDue_3 rc fu S p0 i0 i1
noncomputable def g_X3_isFirstDue (k : Nat) : Nat → xS → Nat → Int → Int → Option (Int × xS) := Nat.rec (motive := fun _ => Nat → xS → Nat → Int → Int → Option (Int × xS)) (fun _ _ _ _ _ => none) (fun fu rc => s_X3_isFirstDue rc fu) k
noncomputable def f_X3_isFirstDue (fu : Nat) (S : xS) (p0 : Nat) (i0 : Int) (i1 : Int) : Option (Int × xS) := g_X3_isFirstDue fu 0 S p0 i0 i1
noncomputable def b_X3_hasTwoNumbers_0 (rc : Nat → xS → Int → Option (Int × xS)) (fu : Nat) (S : xS) (i0 : Int) : Option (Int × xS) :=
  if wI i0 = wI 3 then (rc 1 S 0)
  else (if wI i0 = wI 4 then (rc 1 S 0)
  else (if wI i0 = wI 5 then (rc 1 S 0)
  else (if wI i0 = wI 7 then (rc 1 S 0)
  else (some (0, S)))))
noncomputable def b_X3_hasTwoNumbers_1 (rc : Nat → xS → Int → Option (Int × xS)) (fu : Nat) (S : xS) (i0 : Int) : Option (Int × xS) :=
  some (1, S)
noncomputable def s_X3_hasTwoNumbers (rc : Nat → xS → Int → Option (Int × xS)) (fu lb : Nat) (S : xS) (i0 : Int) : Option (Int × xS) := match lb with
    | 0 => b_X3_hasTwoNumbers_0 rc fu S i0
    | _ => b_X3_hasTwoNumbers_1 rc fu S i0
noncomputable def g_X3_hasTwoNumbers (k : Nat) : Nat → xS → Int → Option (Int × xS) := Nat.rec (motive := fun _ => Nat → xS → Int → Option (Int × xS)) (fun _ _ _ => none) (fun fu rc => s_X3_hasTwoNumbers rc fu) k
noncomputable def f_X3_hasTwoNumbers (fu : Nat) (S : xS) (i0 : Int) : Option (Int × xS) := g_X3_hasTwoNumbers fu 0 S i0
noncomputable def b_X3_isSecondDue_0 (rc : Nat → xS → Nat → Int → Int → Int → Option (Int × xS)) (fu : Nat) (S : xS) (p0 : Nat) (i0 i1 i2 : Int) : Option (Int × xS) :=
  if wI i0 = 3 then (if wI 6 ≤ wI i2 then (some (0, S))
  else (some (1, S))) else
  if wI i0 = 4 then ((rdFi 1 0 S p0).bind fun x5 =>
  if wI x5 ≤ wI i2 then (rc 1 S 0 0 0 0)
  else (if wI i2 = wI i1 then (rc 1 S 0 0 0 0)
  else (some (1, S)))) else
  if wI i0 = 5 then (if wI i2 < wI 1 then (rc 2 S 0 0 0 0)
  else ((rdFi 1 0 S p0).bind fun x11 =>
  if wI x11 < wI i2 then (rc 2 S 0 0 0 0)
  else (some (1, S)))) else
  ((rdFi 1 0 S p0).bind fun x14 =>
  if wI x14 ≤ wI i2 then (rc 3 S 0 0 0 0)
  else (if isO 1 S p0 = true then
  bd2 (f_X1_isKnownSlip fu S p0 i2) fun x18 S16 =>
  if wI x18 = 0 then (some (1, S16))
  else (rc 3 S16 0 0 0 0) else none))
noncomputable def b_X3_isSecondDue_1 (rc : Nat → xS → Nat → Int → Int → Int → Option (Int × xS)) (fu : Nat) (S : xS) (p0 : Nat) (i0 i1 i2 : Int) : Option (Int × xS) :=
  some (0, S)
noncomputable def b_X3_isSecondDue_2 (rc : Nat → xS → Nat → Int → Int → Int → Option (Int × xS)) (fu : Nat) (S : xS) (p0 : Nat) (i0 i1 i2 : Int) : Option (Int × xS) :=
  some (0, S)
noncomputable def b_X3_isSecondDue_3 (rc : Nat → xS → Nat → Int → Int → Int → Option (Int × xS)) (fu : Nat) (S : xS) (p0 : Nat) (i0 i1 i2 : Int) : Option (Int × xS) :=
  some (0, S)
noncomputable def s_X3_isSecondDue (rc : Nat → xS → Nat → Int → Int → Int → Option (Int × xS)) (fu lb : Nat) (S : xS) (p0 : Nat) (i0 i1 i2 : Int) : Option (Int × xS) := match lb with
    | 0 => b_X3_isSecondDue_0 rc fu S p0 i0 i1 i2
    | 1 => b_X3_isSecondDue_1 rc fu S p0 i0 i1 i2
    | 2 => b_X3_isSecondDue_2 rc fu S p0 i0 i1 i2
    | _ => b_X3_isSecondDue_3 rc fu S p0 i0 i1 i2
noncomputable def g_X3_isSecondDue (k : Nat) : Nat → xS → Nat → Int → Int → Int → Option (Int × xS) := Nat.rec (motive := fun _ => Nat → xS → Nat → Int → Int → Int → Option (Int × xS)) (fun _ _ _ _ _ _ => none) (fun fu rc => s_X3_isSecondDue rc fu) k
noncomputable def f_X3_isSecondDue (fu : Nat) (S : xS) (p0 : Nat) (i0 : Int) (i1 : Int) (i2 : Int) : Option (Int × xS) := g_X3_isSecondDue fu 0 S p0 i0 i1 i2
noncomputable def f_X4_exchange (fu : Nat) (S : xS) (p0 : Nat) (i0 : Int) (i1 : Int) : Option (Int × xS) :=
  (rdA 0 S p0 i0).bind fun x1 =>
  (rdA 0 S p0 i1).bind fun x3 =>
  (wrA 0 S p0 i0 x3).bind fun S6 =>
  (wrA 0 S6 p0 i1 x1).bind fun S8 =>
  some ((0 : Int), S8)
noncomputable def f_X3_takeEffect (fu : Nat) (S : xS) (p0 : Nat) (i0 : Int) (i1 : Int) (i2 : Int) : Option (Int × xS) :=
  if wI i0 = 0 then (if isO 1 S p0 = true then
  bd2 (f_X1_setAsAtFirst fu S p0 i1) fun z4 S2 =>
  some ((0 : Int), S2) else none) else
  if wI i0 = 1 then ((rdFi 1 0 S p0).bind fun x8 =>
  (wrF 1 1 S p0 (.inl (xMin i1 x8))).bind fun S10 =>
  some ((0 : Int), S10)) else
  if wI i0 = 2 then ((wrF 1 2 S p0 (.inl i1)).bind fun S13 =>
  some ((0 : Int), S13)) else
  if wI i0 = 3 then ((rdFp 1 5 S p0).bind fun q16 =>
  (wrA 0 S q16 i1 i2).bind fun S18 =>
  some ((0 : Int), S18)) else
  if wI i0 = 4 then ((rdFp 1 3 S p0).bind fun q21 =>
  bd2 (f_X4_exchange fu S q21 i1 i2) fun z24 S22 =>
  some ((0 : Int), S22)) else
  if wI i0 = 5 then (if isO 1 S p0 = true then
  bd2 (f_X1_addReport fu S p0 i1 i2) fun x28 S26 =>
  some ((0 : Int), S26) else none) else
  if wI i0 = 6 then (if isO 1 S p0 = true then
  bd2 (f_X1_addReport fu S p0 i1 0) fun x33 S31 =>
  some ((0 : Int), S31) else none) else
  if wI i0 = 7 then ((rdFp 1 4 S p0).bind fun q37 =>
  (wrA 0 S q37 i1 i2).bind fun S39 =>
  some ((0 : Int), S39)) else
  (if isO 1 S p0 = true then
  bd2 (f_X1_addMove fu S p0 i1) fun x42 S40 =>
  some ((0 : Int), S40) else none)
noncomputable def b_X3_takeItem_0 (rc : Nat → xS → Nat → Nat → Int → Int → Int → Option (Int × xS)) (fu : Nat) (S : xS) (p0 p1 : Nat) (i0 i1 i2 : Int) : Option (Int × xS) :=
  (rdFi 3 3 S p0).bind fun x2 =>
  if wI x2 = wI 1 then (if isO 3 S p0 = true then
  bd2 (f_X3_wordNow fu S p0) fun x6 S4 =>
  rc 1 S4 p0 p1 i0 x6 0 else none)
  else (rc 1 S p0 p1 i0 ((-1)) 0)
noncomputable def b_X3_takeItem_1 (rc : Nat → xS → Nat → Nat → Int → Int → Int → Option (Int × xS)) (fu : Nat) (S : xS) (p0 p1 : Nat) (i0 i1 i2 : Int) : Option (Int × xS) :=
  if wI i1 = wI ((-1)) then (some (0, S))
  else (if wI i1 = 0 then (rc 2 S p0 p1 i1 i0 1)
  else (rc 2 S p0 p1 i1 i0 0))
noncomputable def b_X3_takeItem_2 (rc : Nat → xS → Nat → Nat → Int → Int → Int → Option (Int × xS)) (fu : Nat) (S : xS) (p0 p1 : Nat) (i0 i1 i2 : Int) : Option (Int × xS) :=
  if wI i1 = wI i2 then (bd2 (f_X3_hasPlace fu S p1 i0) fun x13 S11 =>
  if wI x13 = 0 then (some (0, S11))
  else (if isO 3 S11 p0 = true then
  bd2 (f_X3_toNextToken fu S11 p0) fun z17 S15 =>
  (rdFi 3 5 S15 p0).bind fun x20 =>
  (rdFi 3 3 S15 p0).bind fun x22 =>
  if wI x22 = wI 2 then (bd2 (f_X3_isFirstDue fu S15 p1 i0 x20) fun x26 S24 =>
  if wI x26 = 0 then (some (0, S24))
  else (bd2 (f_X3_hasTwoNumbers fu S24 i0) fun x30 S28 =>
  if wI x30 = 0 then (rc 3 S28 p0 p1 i0 x20 ((-1)))
  else (if isO 3 S28 p0 = true then
  bd2 (f_X3_toNextToken fu S28 p0) fun z34 S32 =>
  (rdFi 3 5 S32 p0).bind fun x37 =>
  (rdFi 3 3 S32 p0).bind fun x39 =>
  if wI x39 = wI 2 then (bd2 (f_X3_isSecondDue fu S32 p1 i0 x20 x37) fun x43 S41 =>
  if wI x43 = 0 then (some (0, S41))
  else (rc 3 S41 p0 p1 i0 x20 x37))
  else (some (0, S32)) else none)))
  else (some (0, S15)) else none))
  else (some (0, S))
noncomputable def b_X3_takeItem_3 (rc : Nat → xS → Nat → Nat → Int → Int → Int → Option (Int × xS)) (fu : Nat) (S : xS) (p0 p1 : Nat) (i0 i1 i2 : Int) : Option (Int × xS) :=
  bd2 (f_X3_takeEffect fu S p1 i0 i1 i2) fun z47 S45 =>
  if isO 3 S45 p0 = true then
  bd2 (f_X3_toNextToken fu S45 p0) fun z50 S48 =>
  (rdFi 3 3 S48 p0).bind fun x53 =>
  if wI x53 = wI 3 then (some (1, S48))
  else (some (0, S48)) else none
noncomputable def s_X3_takeItem (rc : Nat → xS → Nat → Nat → Int → Int → Int → Option (Int × xS)) (fu lb : Nat) (S : xS) (p0 p1 : Nat) (i0 i1 i2 : Int) : Option (Int × xS) := match lb with
    | 0 => b_X3_takeItem_0 rc fu S p0 p1 i0 i1 i2
    | 1 => b_X3_takeItem_1 rc fu S p0 p1 i0 i1 i2
    | 2 => b_X3_takeItem_2 rc fu S p0 p1 i0 i1 i2
    | _ => b_X3_takeItem_3 rc fu S p0 p1 i0 i1 i2
noncomputable def g_X3_takeItem (k : Nat) : Nat → xS → Nat → Nat → Int → Int → Int → Option (Int × xS) := Nat.rec (motive := fun _ => Nat → xS → Nat → Nat → Int → Int → Int → Option (Int × xS)) (fun _ _ _ _ _ _ _ => none) (fun fu rc => s_X3_takeItem rc fu) k
noncomputable def f_X3_takeItem (fu : Nat) (S : xS) (p0 : Nat) (p1 : Nat) (i0 : Int) : Option (Int × xS) := g_X3_takeItem fu 0 S p0 p1 i0 0 0
noncomputable def b_X3_tellItems_0 (rc : Nat → xS → Nat → Nat → Nat → Nat → Int → Int → Option (Int × xS)) (fu : Nat) (S : xS) (p0 p1 p2 p3 : Nat) (i0 i1 : Int) : Option (Int × xS) :=
  (wrF 3 2 S p0 (.inl 0)).bind fun S2 =>
  rc 1 S2 p0 p1 0 0 0 0
noncomputable def b_X3_tellItems_1 (rc : Nat → xS → Nat → Nat → Nat → Nat → Int → Int → Option (Int × xS)) (fu : Nat) (S : xS) (p0 p1 p2 p3 : Nat) (i0 i1 : Int) : Option (Int × xS) :=
  if wI 150 ≤ wI i0 then ((rdFi 3 4 S p0).bind fun x5 =>
  some (((-10)) - x5, S))
  else (if isO 3 S p0 = true then
  bd2 (f_X3_toNextToken fu S p0) fun z8 S6 =>
  (rdFi 3 3 S6 p0).bind fun x11 =>
  if wI x11 = 0 then (if wI i0 ≤ 0 then (rc 2 S6 p0 p1 0 0 i0 0)
  else (some (i0, S6)))
  else (rc 2 S6 p0 p1 0 0 i0 0) else none)
noncomputable def b_X3_tellItems_2 (rc : Nat → xS → Nat → Nat → Nat → Nat → Int → Int → Option (Int × xS)) (fu : Nat) (S : xS) (p0 p1 p2 p3 : Nat) (i0 i1 : Int) : Option (Int × xS) :=
  if wI i0 = 0 then (rc 3 S p0 p1 p0 p1 i0 1)
  else (rc 3 S p0 p1 p0 p1 i0 0)
noncomputable def b_X3_tellItems_3 (rc : Nat → xS → Nat → Nat → Nat → Nat → Int → Int → Option (Int × xS)) (fu : Nat) (S : xS) (p0 p1 p2 p3 : Nat) (i0 i1 : Int) : Option (Int × xS) :=
  if isO 3 S p2 = true then
  bd2 (f_X3_takeItem fu S p2 p3 i1) fun x17 S15 =>
  if wI x17 = 0 then ((rdFi 3 4 S15 p0).bind fun x23 =>
  some (((-10)) - x23, S15))
  else (nmx (i0 + 1) fun x20 =>
  rc 1 S15 p0 p1 0 0 x20 0) else none
noncomputable def s_X3_tellItems (rc : Nat → xS → Nat → Nat → Nat → Nat → Int → Int → Option (Int × xS)) (fu lb : Nat) (S : xS) (p0 p1 p2 p3 : Nat) (i0 i1 : Int) : Option (Int × xS) := match lb with
    | 0 => b_X3_tellItems_0 rc fu S p0 p1 p2 p3 i0 i1
    | 1 => b_X3_tellItems_1 rc fu S p0 p1 p2 p3 i0 i1
    | 2 => b_X3_tellItems_2 rc fu S p0 p1 p2 p3 i0 i1
    | _ => b_X3_tellItems_3 rc fu S p0 p1 p2 p3 i0 i1
noncomputable def g_X3_tellItems (k : Nat) : Nat → xS → Nat → Nat → Nat → Nat → Int → Int → Option (Int × xS) := Nat.rec (motive := fun _ => Nat → xS → Nat → Nat → Nat → Nat → Int → Int → Option (Int × xS)) (fun _ _ _ _ _ _ _ _ => none) (fun fu rc => s_X3_tellItems rc fu) k
noncomputable def f_X3_tellItems (fu : Nat) (S : xS) (p0 : Nat) (p1 : Nat) : Option (Int × xS) := g_X3_tellItems fu 0 S p0 p1 0 0 0 0
noncomputable def b_X4_setToNext_0 (rc : Nat → xS → Nat → Int → Int → Int → Option (Int × xS)) (fu : Nat) (S : xS) (p0 : Nat) (i0 i1 i2 : Int) : Option (Int × xS) :=
  nmx (i0 - 2) fun x1 =>
  rc 1 S p0 i0 x1 0
noncomputable def b_X4_setToNext_1 (rc : Nat → xS → Nat → Int → Int → Int → Option (Int × xS)) (fu : Nat) (S : xS) (p0 : Nat) (i0 i1 i2 : Int) : Option (Int × xS) :=
  if wI i1 < 0 then (rc 2 S p0 i0 i1 0)
  else ((rdA 0 S p0 i1).bind fun x4 =>
  (rdA 0 S p0 (i1 + 1)).bind fun x6 =>
  if wI x4 ≤ wI x6 then (rc 2 S p0 i0 i1 0)
  else (nmx (i1 + (-1)) fun x9 =>
  rc 1 S p0 i0 x9 0))
noncomputable def b_X4_setToNext_2 (rc : Nat → xS → Nat → Int → Int → Int → Option (Int × xS)) (fu : Nat) (S : xS) (p0 : Nat) (i0 i1 i2 : Int) : Option (Int × xS) :=
  if wI i1 < 0 then (rc 5 S p0 i0 i1 0)
  else (nmx (i0 - 1) fun x12 =>
  rc 3 S p0 i0 i1 x12)
noncomputable def b_X4_setToNext_3 (rc : Nat → xS → Nat → Int → Int → Int → Option (Int × xS)) (fu : Nat) (S : xS) (p0 : Nat) (i0 i1 i2 : Int) : Option (Int × xS) :=
  if wI i2 ≤ wI i1 then (rc 4 S p0 i0 i1 i2)
  else ((rdA 0 S p0 i2).bind fun x15 =>
  (rdA 0 S p0 i1).bind fun x17 =>
  if wI x17 ≤ wI x15 then (rc 4 S p0 i0 i1 i2)
  else (nmx (i2 + (-1)) fun x20 =>
  rc 3 S p0 i0 i1 x20))
noncomputable def b_X4_setToNext_4 (rc : Nat → xS → Nat → Int → Int → Int → Option (Int × xS)) (fu : Nat) (S : xS) (p0 : Nat) (i0 i1 i2 : Int) : Option (Int × xS) :=
  bd2 (f_X4_exchange fu S p0 i1 i2) fun z24 S22 =>
  rc 5 S22 p0 i0 i1 0
noncomputable def b_X4_setToNext_5 (rc : Nat → xS → Nat → Int → Int → Int → Option (Int × xS)) (fu : Nat) (S : xS) (p0 : Nat) (i0 i1 i2 : Int) : Option (Int × xS) :=
  nmx (i1 + 1) fun x25 =>
  nmx (i0 - 1) fun x27 =>
  rc 6 S p0 x25 x27 0
noncomputable def b_X4_setToNext_6 (rc : Nat → xS → Nat → Int → Int → Int → Option (Int × xS)) (fu : Nat) (S : xS) (p0 : Nat) (i0 i1 i2 : Int) : Option (Int × xS) :=
  if wI i1 ≤ wI i0 then (some ((0 : Int), S))
  else (bd2 (f_X4_exchange fu S p0 i0 i1) fun z32 S30 =>
  nmx (i0 + 1) fun x33 =>
  nmx (i1 + (-1)) fun x35 =>
  rc 6 S30 p0 x33 x35 0)
noncomputable def s_X4_setToNext (rc : Nat → xS → Nat → Int → Int → Int → Option (Int × xS)) (fu lb : Nat) (S : xS) (p0 : Nat) (i0 i1 i2 : Int) : Option (Int × xS) := match lb with
    | 0 => b_X4_setToNext_0 rc fu S p0 i0 i1 i2
    | 1 => b_X4_setToNext_1 rc fu S p0 i0 i1 i2
    | 2 => b_X4_setToNext_2 rc fu S p0 i0 i1 i2
    | 3 => b_X4_setToNext_3 rc fu S p0 i0 i1 i2
    | 4 => b_X4_setToNext_4 rc fu S p0 i0 i1 i2
    | 5 => b_X4_setToNext_5 rc fu S p0 i0 i1 i2
    | _ => b_X4_setToNext_6 rc fu S p0 i0 i1 i2
noncomputable def g_X4_setToNext (k : Nat) : Nat → xS → Nat → Int → Int → Int → Option (Int × xS) := Nat.rec (motive := fun _ => Nat → xS → Nat → Int → Int → Int → Option (Int × xS)) (fun _ _ _ _ _ _ => none) (fun fu rc => s_X4_setToNext rc fu) k
noncomputable def f_X4_setToNext (fu : Nat) (S : xS) (p0 : Nat) (i0 : Int) : Option (Int × xS) := g_X4_setToNext fu 0 S p0 i0 0 0
noncomputable def b_X4_setBySeed_0 (rc : Nat → xS → Nat → Int → Int → Option (Int × xS)) (fu : Nat) (S : xS) (p0 : Nat) (i0 i1 : Int) : Option (Int × xS) :=
  bd2 (f_X4_setToFirst fu S p0 i0) fun z3 S1 =>
  nmx (wI i1) fun x4 =>
  nmx (i0 - 1) fun x6 =>
  rc 1 S1 p0 x4 x6
noncomputable def b_X4_setBySeed_1 (rc : Nat → xS → Nat → Int → Int → Option (Int × xS)) (fu : Nat) (S : xS) (p0 : Nat) (i0 i1 : Int) : Option (Int × xS) :=
  if wI i1 < wI 1 then (some ((0 : Int), S))
  else (if wL 2147483648 = 0 then none else
  nmx ((wL ((i0 * 1103515245) + 12345)).tmod (wL 2147483648)) fun x10 =>
  if wL 65536 = 0 then none else
  if wL (wI (i1 + 1)) = 0 then none else
  bd2 (f_X4_exchange fu S p0 i1 ((wL ((wL x10).tdiv (wL 65536))).tmod (wL (wI (i1 + 1))))) fun z16 S14 =>
  nmx (i1 + (-1)) fun x17 =>
  rc 1 S14 p0 x10 x17)
noncomputable def s_X4_setBySeed (rc : Nat → xS → Nat → Int → Int → Option (Int × xS)) (fu lb : Nat) (S : xS) (p0 : Nat) (i0 i1 : Int) : Option (Int × xS) := match lb with
    | 0 => b_X4_setBySeed_0 rc fu S p0 i0 i1
    | _ => b_X4_setBySeed_1 rc fu S p0 i0 i1
noncomputable def g_X4_setBySeed (k : Nat) : Nat → xS → Nat → Int → Int → Option (Int × xS) := Nat.rec (motive := fun _ => Nat → xS → Nat → Int → Int → Option (Int × xS)) (fun _ _ _ _ _ => none) (fun fu rc => s_X4_setBySeed rc fu) k
noncomputable def f_X4_setBySeed (fu : Nat) (S : xS) (p0 : Nat) (i0 : Int) (i1 : Int) : Option (Int × xS) := g_X4_setBySeed fu 0 S p0 i0 i1
noncomputable def b_X4_stepsFrom_0 (rc : Nat → xS → Nat → Int → Int → Int → Option (Int × xS)) (fu : Nat) (S : xS) (p0 : Nat) (i0 i1 i2 : Int) : Option (Int × xS) :=
  rc 1 S p0 i1 i0 0
noncomputable def b_X4_stepsFrom_1 (rc : Nat → xS → Nat → Int → Int → Int → Option (Int × xS)) (fu : Nat) (S : xS) (p0 : Nat) (i0 i1 i2 : Int) : Option (Int × xS) :=
  if wI i0 ≤ wI i2 then (some (i1, S))
  else ((rdA 0 S p0 i1).bind fun x2 =>
  nmx (i2 + 1) fun x4 =>
  rc 1 S p0 i0 x2 x4)
noncomputable def s_X4_stepsFrom (rc : Nat → xS → Nat → Int → Int → Int → Option (Int × xS)) (fu lb : Nat) (S : xS) (p0 : Nat) (i0 i1 i2 : Int) : Option (Int × xS) := match lb with
    | 0 => b_X4_stepsFrom_0 rc fu S p0 i0 i1 i2
    | _ => b_X4_stepsFrom_1 rc fu S p0 i0 i1 i2
noncomputable def g_X4_stepsFrom (k : Nat) : Nat → xS → Nat → Int → Int → Int → Option (Int × xS) := Nat.rec (motive := fun _ => Nat → xS → Nat → Int → Int → Int → Option (Int × xS)) (fun _ _ _ _ _ _ => none) (fun fu rc => s_X4_stepsFrom rc fu) k
noncomputable def f_X4_stepsFrom (fu : Nat) (S : xS) (p0 : Nat) (i0 : Int) (i1 : Int) : Option (Int × xS) := g_X4_stepsFrom fu 0 S p0 i0 i1 0
noncomputable def b_X4_ringLength_0 (rc : Nat → xS → Nat → Int → Int → Int → Int → Option (Int × xS)) (fu : Nat) (S : xS) (p0 : Nat) (i0 i1 i2 i3 : Int) : Option (Int × xS) :=
  (rdA 0 S p0 i1).bind fun x1 =>
  rc 1 S p0 i0 i1 1 x1
noncomputable def b_X4_ringLength_1 (rc : Nat → xS → Nat → Int → Int → Int → Int → Option (Int × xS)) (fu : Nat) (S : xS) (p0 : Nat) (i0 i1 i2 i3 : Int) : Option (Int × xS) :=
  if wI i3 = wI i1 then (some (i2, S))
  else (if wI i0 ≤ wI i2 then (some (i2, S))
  else ((rdA 0 S p0 i3).bind fun x5 =>
  nmx (i2 + 1) fun x7 =>
  rc 1 S p0 i0 i1 x7 x5))
noncomputable def s_X4_ringLength (rc : Nat → xS → Nat → Int → Int → Int → Int → Option (Int × xS)) (fu lb : Nat) (S : xS) (p0 : Nat) (i0 i1 i2 i3 : Int) : Option (Int × xS) := match lb with
    | 0 => b_X4_ringLength_0 rc fu S p0 i0 i1 i2 i3
    | _ => b_X4_ringLength_1 rc fu S p0 i0 i1 i2 i3
noncomputable def g_X4_ringLength (k : Nat) : Nat → xS → Nat → Int → Int → Int → Int → Option (Int × xS) := Nat.rec (motive := fun _ => Nat → xS → Nat → Int → Int → Int → Int → Option (Int × xS)) (fun _ _ _ _ _ _ _ => none) (fun fu rc => s_X4_ringLength rc fu) k
noncomputable def f_X4_ringLength (fu : Nat) (S : xS) (p0 : Nat) (i0 : Int) (i1 : Int) : Option (Int × xS) := g_X4_ringLength fu 0 S p0 i0 i1 0 0
noncomputable def b_X4_ringCount_0 (rc : Nat → xS → Nat → Int → Int → Int → Int → Int → Int → Option (Int × xS)) (fu : Nat) (S : xS) (p0 : Nat) (i0 i1 i2 i3 i4 i5 : Int) : Option (Int × xS) :=
  rc 1 S p0 i0 0 0 0 0 0
noncomputable def b_X4_ringCount_1 (rc : Nat → xS → Nat → Int → Int → Int → Int → Int → Int → Option (Int × xS)) (fu : Nat) (S : xS) (p0 : Nat) (i0 i1 i2 i3 i4 i5 : Int) : Option (Int × xS) :=
  if wI i0 ≤ wI i3 then (some (i2, S))
  else (if wI (xAnd (xShr i1 i3) 1) = 0 then (nmx (i2 + 1) fun x3 =>
  rc 2 S p0 i0 i1 x3 i3 i3 0)
  else (rc 3 S p0 i0 i1 i2 i3 0 0))
noncomputable def b_X4_ringCount_2 (rc : Nat → xS → Nat → Int → Int → Int → Int → Int → Int → Option (Int × xS)) (fu : Nat) (S : xS) (p0 : Nat) (i0 i1 i2 i3 i4 i5 : Int) : Option (Int × xS) :=
  if wI i0 ≤ wI i5 then (rc 3 S p0 i0 i1 i2 i3 0 0)
  else (nmx (xOr i1 (xShl 1 i4)) fun x6 =>
  (rdA 0 S p0 i4).bind fun x8 =>
  nmx (i5 + 1) fun x10 =>
  rc 2 S p0 i0 x6 i2 i3 x8 x10)
noncomputable def b_X4_ringCount_3 (rc : Nat → xS → Nat → Int → Int → Int → Int → Int → Int → Option (Int × xS)) (fu : Nat) (S : xS) (p0 : Nat) (i0 i1 i2 i3 i4 i5 : Int) : Option (Int × xS) :=
  nmx (i3 + 1) fun x12 =>
  rc 1 S p0 i0 i1 i2 x12 0 0
noncomputable def s_X4_ringCount (rc : Nat → xS → Nat → Int → Int → Int → Int → Int → Int → Option (Int × xS)) (fu lb : Nat) (S : xS) (p0 : Nat) (i0 i1 i2 i3 i4 i5 : Int) : Option (Int × xS) := match lb with
    | 0 => b_X4_ringCount_0 rc fu S p0 i0 i1 i2 i3 i4 i5
    | 1 => b_X4_ringCount_1 rc fu S p0 i0 i1 i2 i3 i4 i5
    | 2 => b_X4_ringCount_2 rc fu S p0 i0 i1 i2 i3 i4 i5
    | _ => b_X4_ringCount_3 rc fu S p0 i0 i1 i2 i3 i4 i5
noncomputable def g_X4_ringCount (k : Nat) : Nat → xS → Nat → Int → Int → Int → Int → Int → Int → Option (Int × xS) := Nat.rec (motive := fun _ => Nat → xS → Nat → Int → Int → Int → Int → Int → Int → Option (Int × xS)) (fun _ _ _ _ _ _ _ _ _ => none) (fun fu rc => s_X4_ringCount rc fu) k
noncomputable def f_X4_ringCount (fu : Nat) (S : xS) (p0 : Nat) (i0 : Int) : Option (Int × xS) := g_X4_ringCount fu 0 S p0 i0 0 0 0 0 0
noncomputable def b_X4_ringMark_0 (rc : Nat → xS → Nat → Int → Int → Int → Option (Int × xS)) (fu : Nat) (S : xS) (p0 : Nat) (i0 i1 i2 : Int) : Option (Int × xS) :=
  rc 1 S p0 i0 0 0
noncomputable def b_X4_ringMark_1 (rc : Nat → xS → Nat → Int → Int → Int → Option (Int × xS)) (fu : Nat) (S : xS) (p0 : Nat) (i0 i1 i2 : Int) : Option (Int × xS) :=
  if wI i0 ≤ wI i2 then (some (i1, S))
  else (bd2 (f_X4_ringLength fu S p0 i0 i2) fun x4 S2 =>
  nmx (i1 + (xLshl 1 (4 * x4))) fun x5 =>
  nmx (i2 + 1) fun x7 =>
  rc 1 S2 p0 i0 x5 x7)
noncomputable def s_X4_ringMark (rc : Nat → xS → Nat → Int → Int → Int → Option (Int × xS)) (fu lb : Nat) (S : xS) (p0 : Nat) (i0 i1 i2 : Int) : Option (Int × xS) := match lb with
    | 0 => b_X4_ringMark_0 rc fu S p0 i0 i1 i2
    | _ => b_X4_ringMark_1 rc fu S p0 i0 i1 i2
noncomputable def g_X4_ringMark (k : Nat) : Nat → xS → Nat → Int → Int → Int → Option (Int × xS) := Nat.rec (motive := fun _ => Nat → xS → Nat → Int → Int → Int → Option (Int × xS)) (fun _ _ _ _ _ _ => none) (fun fu rc => s_X4_ringMark rc fu) k
noncomputable def f_X4_ringMark (fu : Nat) (S : xS) (p0 : Nat) (i0 : Int) : Option (Int × xS) := g_X4_ringMark fu 0 S p0 i0 0 0
noncomputable def b_X4_boxOf_0 (rc : Nat → xS → Nat → Int → Int → Int → Option (Int × xS)) (fu : Nat) (S : xS) (p0 : Nat) (i0 i1 i2 : Int) : Option (Int × xS) :=
  rc 1 S p0 i0 i1 0
noncomputable def b_X4_boxOf_1 (rc : Nat → xS → Nat → Int → Int → Int → Option (Int × xS)) (fu : Nat) (S : xS) (p0 : Nat) (i0 i1 i2 : Int) : Option (Int × xS) :=
  if wI i0 ≤ wI i2 then (some (0, S))
  else ((rdA 0 S p0 i2).bind fun x2 =>
  if wI x2 = wI i1 then (some (i2, S))
  else (nmx (i2 + 1) fun x5 =>
  rc 1 S p0 i0 i1 x5))
noncomputable def s_X4_boxOf (rc : Nat → xS → Nat → Int → Int → Int → Option (Int × xS)) (fu lb : Nat) (S : xS) (p0 : Nat) (i0 i1 i2 : Int) : Option (Int × xS) := match lb with
    | 0 => b_X4_boxOf_0 rc fu S p0 i0 i1 i2
    | _ => b_X4_boxOf_1 rc fu S p0 i0 i1 i2
noncomputable def g_X4_boxOf (k : Nat) : Nat → xS → Nat → Int → Int → Int → Option (Int × xS) := Nat.rec (motive := fun _ => Nat → xS → Nat → Int → Int → Int → Option (Int × xS)) (fun _ _ _ _ _ _ => none) (fun fu rc => s_X4_boxOf rc fu) k
noncomputable def f_X4_boxOf (fu : Nat) (S : xS) (p0 : Nat) (i0 : Int) (i1 : Int) : Option (Int × xS) := g_X4_boxOf fu 0 S p0 i0 i1 0
noncomputable def b_X4_swapsBetween_0 (rc : Nat → xS → Nat → Nat → Int → Int → Int → Int → Int → Int → Option (Int × xS)) (fu : Nat) (S : xS) (p0 p1 : Nat) (i0 i1 i2 i3 i4 i5 : Int) : Option (Int × xS) :=
  rc 1 S p0 p1 i0 0 0 0 0 0
noncomputable def b_X4_swapsBetween_1 (rc : Nat → xS → Nat → Nat → Int → Int → Int → Int → Int → Int → Option (Int × xS)) (fu : Nat) (S : xS) (p0 p1 : Nat) (i0 i1 i2 i3 i4 i5 : Int) : Option (Int × xS) :=
  if wI i0 ≤ wI i3 then (some (i0 - i2, S))
  else (if wI (xAnd (xShr i1 i3) 1) = 0 then (nmx (i2 + 1) fun x3 =>
  rc 2 S p0 p1 i0 i1 x3 i3 i3 0)
  else (rc 3 S p0 p1 i0 i1 i2 i3 0 0))
noncomputable def b_X4_swapsBetween_2 (rc : Nat → xS → Nat → Nat → Int → Int → Int → Int → Int → Int → Option (Int × xS)) (fu : Nat) (S : xS) (p0 p1 : Nat) (i0 i1 i2 i3 i4 i5 : Int) : Option (Int × xS) :=
  if wI i0 ≤ wI i5 then (rc 3 S p0 p1 i0 i1 i2 i3 0 0)
  else (nmx (xOr i1 (xShl 1 i4)) fun x6 =>
  (rdA 0 S p1 i4).bind fun x8 =>
  bd2 (f_X4_boxOf fu S p0 i0 x8) fun x12 S10 =>
  nmx (i5 + 1) fun x13 =>
  rc 2 S10 p0 p1 i0 x6 i2 i3 x12 x13)
noncomputable def b_X4_swapsBetween_3 (rc : Nat → xS → Nat → Nat → Int → Int → Int → Int → Int → Int → Option (Int × xS)) (fu : Nat) (S : xS) (p0 p1 : Nat) (i0 i1 i2 i3 i4 i5 : Int) : Option (Int × xS) :=
  nmx (i3 + 1) fun x15 =>
  rc 1 S p0 p1 i0 i1 i2 x15 0 0
noncomputable def s_X4_swapsBetween (rc : Nat → xS → Nat → Nat → Int → Int → Int → Int → Int → Int → Option (Int × xS)) (fu lb : Nat) (S : xS) (p0 p1 : Nat) (i0 i1 i2 i3 i4 i5 : Int) : Option (Int × xS) := match lb with
    | 0 => b_X4_swapsBetween_0 rc fu S p0 p1 i0 i1 i2 i3 i4 i5
    | 1 => b_X4_swapsBetween_1 rc fu S p0 p1 i0 i1 i2 i3 i4 i5
    | 2 => b_X4_swapsBetween_2 rc fu S p0 p1 i0 i1 i2 i3 i4 i5
    | _ => b_X4_swapsBetween_3 rc fu S p0 p1 i0 i1 i2 i3 i4 i5
noncomputable def g_X4_swapsBetween (k : Nat) : Nat → xS → Nat → Nat → Int → Int → Int → Int → Int → Int → Option (Int × xS) := Nat.rec (motive := fun _ => Nat → xS → Nat → Nat → Int → Int → Int → Int → Int → Int → Option (Int × xS)) (fun _ _ _ _ _ _ _ _ _ _ => none) (fun fu rc => s_X4_swapsBetween rc fu) k
noncomputable def f_X4_swapsBetween (fu : Nat) (S : xS) (p0 : Nat) (p1 : Nat) (i0 : Int) : Option (Int × xS) := g_X4_swapsBetween fu 0 S p0 p1 i0 0 0 0 0 0
noncomputable def b_X4_areExchangeable_0 (rc : Nat → xS → Nat → Nat → Int → Int → Option (Int × xS)) (fu : Nat) (S : xS) (p0 p1 : Nat) (i0 i1 : Int) : Option (Int × xS) :=
  rc 1 S p0 p1 i0 0
noncomputable def b_X4_areExchangeable_1 (rc : Nat → xS → Nat → Nat → Int → Int → Option (Int × xS)) (fu : Nat) (S : xS) (p0 p1 : Nat) (i0 i1 : Int) : Option (Int × xS) :=
  if wI i0 ≤ wI i1 then (some (1, S))
  else ((rdA 0 S p1 i1).bind fun x2 =>
  (rdA 0 S p0 x2).bind fun x4 =>
  (rdA 0 S p0 i1).bind fun x6 =>
  (rdA 0 S p1 x6).bind fun x8 =>
  if wI x4 = wI x8 then (nmx (i1 + 1) fun x11 =>
  rc 1 S p0 p1 i0 x11)
  else (some (0, S)))
noncomputable def s_X4_areExchangeable (rc : Nat → xS → Nat → Nat → Int → Int → Option (Int × xS)) (fu lb : Nat) (S : xS) (p0 p1 : Nat) (i0 i1 : Int) : Option (Int × xS) := match lb with
    | 0 => b_X4_areExchangeable_0 rc fu S p0 p1 i0 i1
    | _ => b_X4_areExchangeable_1 rc fu S p0 p1 i0 i1
noncomputable def g_X4_areExchangeable (k : Nat) : Nat → xS → Nat → Nat → Int → Int → Option (Int × xS) := Nat.rec (motive := fun _ => Nat → xS → Nat → Nat → Int → Int → Option (Int × xS)) (fun _ _ _ _ _ _ => none) (fun fu rc => s_X4_areExchangeable rc fu) k
noncomputable def f_X4_areExchangeable (fu : Nat) (S : xS) (p0 : Nat) (p1 : Nat) (i0 : Int) : Option (Int × xS) := g_X4_areExchangeable fu 0 S p0 p1 i0 0
noncomputable def b_X4_isRoot_0 (rc : Nat → xS → Nat → Nat → Int → Int → Int → Option (Int × xS)) (fu : Nat) (S : xS) (p0 p1 : Nat) (i0 i1 i2 : Int) : Option (Int × xS) :=
  rc 1 S p0 p1 i0 i1 0
noncomputable def b_X4_isRoot_1 (rc : Nat → xS → Nat → Nat → Int → Int → Int → Option (Int × xS)) (fu : Nat) (S : xS) (p0 p1 : Nat) (i0 i1 i2 : Int) : Option (Int × xS) :=
  if wI i1 ≤ wI i2 then (some (1, S))
  else (bd2 (f_X4_stepsFrom fu S p0 i2 i0) fun x4 S2 =>
  (rdA 0 S2 p1 i2).bind fun x5 =>
  if wI x4 = wI x5 then (nmx (i2 + 1) fun x8 =>
  rc 1 S2 p0 p1 i0 i1 x8)
  else (some (0, S2)))
noncomputable def s_X4_isRoot (rc : Nat → xS → Nat → Nat → Int → Int → Int → Option (Int × xS)) (fu lb : Nat) (S : xS) (p0 p1 : Nat) (i0 i1 i2 : Int) : Option (Int × xS) := match lb with
    | 0 => b_X4_isRoot_0 rc fu S p0 p1 i0 i1 i2
    | _ => b_X4_isRoot_1 rc fu S p0 p1 i0 i1 i2
noncomputable def g_X4_isRoot (k : Nat) : Nat → xS → Nat → Nat → Int → Int → Int → Option (Int × xS) := Nat.rec (motive := fun _ => Nat → xS → Nat → Nat → Int → Int → Int → Option (Int × xS)) (fun _ _ _ _ _ _ _ => none) (fun fu rc => s_X4_isRoot rc fu) k
noncomputable def f_X4_isRoot (fu : Nat) (S : xS) (p0 : Nat) (i0 : Int) (p1 : Nat) (i1 : Int) : Option (Int × xS) := g_X4_isRoot fu 0 S p0 p1 i0 i1 0
noncomputable def f_X5_init (fu : Nat) (S : xS) (p0 : Nat) : Option (Int × xS) :=
  nmx (S ++ [.inr (.inr (1, xNew_X1))]) fun S1 =>
  bd2 (f_X1_init fu S1 S.length) fun z4 S2 =>
  (wrF 4 0 S2 p0 (.inr (.inr (some S.length)))).bind fun S6 =>
  nmx (S6 ++ [.inr (.inr (1, xNew_X1))]) fun S7 =>
  bd2 (f_X1_init fu S7 S6.length) fun z10 S8 =>
  (wrF 4 1 S8 p0 (.inr (.inr (some S6.length)))).bind fun S12 =>
  nmx (S12 ++ [.inr (.inl (3, List.replicate 2 none))]) fun S13 =>
  (wrF 4 2 S13 p0 (.inr (.inr (some S12.length)))).bind fun S15 =>
  nmx (S15 ++ [.inr (.inr (3, xNew_X3))]) fun S16 =>
  bd2 (f_X3_init fu S16 S15.length) fun z19 S17 =>
  (wrF 4 3 S17 p0 (.inr (.inr (some S15.length)))).bind fun S21 =>
  nmx (S21 ++ [.inr (.inr (2, xNew_X2))]) fun S22 =>
  bd2 (f_X2_init fu S22 S21.length) fun z25 S23 =>
  (wrF 4 4 S23 p0 (.inr (.inr (some S21.length)))).bind fun S27 =>
  nmx (S27 ++ [.inl (0, List.replicate 7 0)]) fun S28 =>
  (wrF 4 5 S28 p0 (.inr (.inr (some S27.length)))).bind fun S30 =>
  nmx (S30 ++ [.inl (0, List.replicate 49 0)]) fun S31 =>
  (wrF 4 6 S31 p0 (.inr (.inr (some S30.length)))).bind fun S33 =>
  (wrF 4 7 S33 p0 (.inr (.inr none))).bind fun S35 =>
  (wrF 4 8 S35 p0 (.inr (.inl 0))).bind fun S37 =>
  (wrF 4 9 S37 p0 (.inr (.inl 1))).bind fun S39 =>
  (wrF 4 10 S39 p0 (.inl 0)).bind fun S41 =>
  (wrF 4 11 S41 p0 (.inl 0)).bind fun S43 =>
  (wrF 4 12 S43 p0 (.inl 0)).bind fun S45 =>
  some ((0 : Int), S45)
noncomputable def f_X5_refuseBad (fu : Nat) (S : xS) (p0 : Nat) : Option (Int × xS) :=
  (rdFi 4 10 S p0).bind fun x2 =>
  (wrF 4 10 S p0 (.inl (x2 + 1))).bind fun S4 =>
  some ((-2), S4)
noncomputable def b_X5_boxes_0 (rc : Nat → xS → Nat → Int → Option (Int × xS)) (fu : Nat) (S : xS) (p0 : Nat) (i0 : Int) : Option (Int × xS) :=
  if wI i0 < wI 2 then (rc 1 S p0 0)
  else (if wI i0 ≤ wI 7 then ((rdFp 4 0 S p0).bind fun q4 =>
  (rdFi 1 0 S q4).bind fun x6 =>
  (rdFp 4 0 S p0).bind fun q8 =>
  if isO 1 S q8 = true then
  bd2 (f_X1_setAsAtFirst fu S q8 i0) fun z11 S9 =>
  some (x6, S9) else none)
  else (rc 1 S p0 0))
noncomputable def b_X5_boxes_1 (rc : Nat → xS → Nat → Int → Option (Int × xS)) (fu : Nat) (S : xS) (p0 : Nat) (i0 : Int) : Option (Int × xS) :=
  if isO 4 S p0 = true then
  bd2 (f_X5_refuseBad fu S p0) fun x15 S13 =>
  some (x15, S13) else none
noncomputable def s_X5_boxes (rc : Nat → xS → Nat → Int → Option (Int × xS)) (fu lb : Nat) (S : xS) (p0 : Nat) (i0 : Int) : Option (Int × xS) := match lb with
    | 0 => b_X5_boxes_0 rc fu S p0 i0
    | _ => b_X5_boxes_1 rc fu S p0 i0
noncomputable def g_X5_boxes (k : Nat) : Nat → xS → Nat → Int → Option (Int × xS) := Nat.rec (motive := fun _ => Nat → xS → Nat → Int → Option (Int × xS)) (fun _ _ _ _ => none) (fun fu rc => s_X5_boxes rc fu) k
noncomputable def f_X5_boxes (fu : Nat) (S : xS) (p0 : Nat) (i0 : Int) : Option (Int × xS) := g_X5_boxes fu 0 S p0 i0
noncomputable def b_X5_putLeave_0 (rc : Nat → xS → Nat → Int → Option (Int × xS)) (fu : Nat) (S : xS) (p0 : Nat) (i0 : Int) : Option (Int × xS) :=
  if wI i0 < wI 1 then (rc 1 S p0 0)
  else ((rdFp 4 0 S p0).bind fun q3 =>
  (rdFi 1 0 S q3).bind fun x5 =>
  if wI i0 ≤ wI x5 then ((rdFp 4 0 S p0).bind fun q8 =>
  (rdFi 1 1 S q8).bind fun x10 =>
  (rdFp 4 0 S p0).bind fun q12 =>
  (wrF 1 1 S q12 (.inl i0)).bind fun S14 =>
  some (x10, S14))
  else (rc 1 S p0 0))
noncomputable def b_X5_putLeave_1 (rc : Nat → xS → Nat → Int → Option (Int × xS)) (fu : Nat) (S : xS) (p0 : Nat) (i0 : Int) : Option (Int × xS) :=
  if isO 4 S p0 = true then
  bd2 (f_X5_refuseBad fu S p0) fun x17 S15 =>
  some (x17, S15) else none
noncomputable def s_X5_putLeave (rc : Nat → xS → Nat → Int → Option (Int × xS)) (fu lb : Nat) (S : xS) (p0 : Nat) (i0 : Int) : Option (Int × xS) := match lb with
    | 0 => b_X5_putLeave_0 rc fu S p0 i0
    | _ => b_X5_putLeave_1 rc fu S p0 i0
noncomputable def g_X5_putLeave (k : Nat) : Nat → xS → Nat → Int → Option (Int × xS) := Nat.rec (motive := fun _ => Nat → xS → Nat → Int → Option (Int × xS)) (fun _ _ _ _ => none) (fun fu rc => s_X5_putLeave rc fu) k
noncomputable def f_X5_putLeave (fu : Nat) (S : xS) (p0 : Nat) (i0 : Int) : Option (Int × xS) := g_X5_putLeave fu 0 S p0 i0
noncomputable def b_X5_put_0 (rc : Nat → xS → Nat → Int → Int → Option (Int × xS)) (fu : Nat) (S : xS) (p0 : Nat) (i0 i1 : Int) : Option (Int × xS) :=
  if wI i0 = 0 then (if isO 4 S p0 = true then
  bd2 (f_X5_putLeave fu S p0 i1) fun x15 S13 =>
  some (x15, S13) else none)
  else (if wI i0 = wI 1 then (if wI i1 < 0 then (rc 1 S p0 0 0)
  else (if wI i1 ≤ wI 6 then ((rdFp 4 0 S p0).bind fun q6 =>
  (rdFi 1 2 S q6).bind fun x8 =>
  (rdFp 4 0 S p0).bind fun q10 =>
  (wrF 1 2 S q10 (.inl i1)).bind fun S12 =>
  some (x8, S12))
  else (rc 1 S p0 0 0)))
  else (rc 1 S p0 0 0))
noncomputable def b_X5_put_1 (rc : Nat → xS → Nat → Int → Int → Option (Int × xS)) (fu : Nat) (S : xS) (p0 : Nat) (i0 i1 : Int) : Option (Int × xS) :=
  if isO 4 S p0 = true then
  bd2 (f_X5_refuseBad fu S p0) fun x19 S17 =>
  some (x19, S17) else none
noncomputable def s_X5_put (rc : Nat → xS → Nat → Int → Int → Option (Int × xS)) (fu lb : Nat) (S : xS) (p0 : Nat) (i0 i1 : Int) : Option (Int × xS) := match lb with
    | 0 => b_X5_put_0 rc fu S p0 i0 i1
    | _ => b_X5_put_1 rc fu S p0 i0 i1
noncomputable def g_X5_put (k : Nat) : Nat → xS → Nat → Int → Int → Option (Int × xS) := Nat.rec (motive := fun _ => Nat → xS → Nat → Int → Int → Option (Int × xS)) (fun _ _ _ _ _ => none) (fun fu rc => s_X5_put rc fu) k
noncomputable def f_X5_put (fu : Nat) (S : xS) (p0 : Nat) (i0 : Int) (i1 : Int) : Option (Int × xS) := g_X5_put fu 0 S p0 i0 i1
noncomputable def b_X5_isNoBox_0 (rc : Nat → xS → Nat → Int → Option (Int × xS)) (fu : Nat) (S : xS) (p0 : Nat) (i0 : Int) : Option (Int × xS) :=
  if wI i0 < 0 then (rc 1 S 0 0)
  else ((rdFp 4 0 S p0).bind fun q3 =>
  (rdFi 1 0 S q3).bind fun x5 =>
  if wI i0 < wI x5 then (some (0, S))
  else (rc 1 S 0 0))
noncomputable def b_X5_isNoBox_1 (rc : Nat → xS → Nat → Int → Option (Int × xS)) (fu : Nat) (S : xS) (p0 : Nat) (i0 : Int) : Option (Int × xS) :=
  some (1, S)
noncomputable def s_X5_isNoBox (rc : Nat → xS → Nat → Int → Option (Int × xS)) (fu lb : Nat) (S : xS) (p0 : Nat) (i0 : Int) : Option (Int × xS) := match lb with
    | 0 => b_X5_isNoBox_0 rc fu S p0 i0
    | _ => b_X5_isNoBox_1 rc fu S p0 i0
noncomputable def g_X5_isNoBox (k : Nat) : Nat → xS → Nat → Int → Option (Int × xS) := Nat.rec (motive := fun _ => Nat → xS → Nat → Int → Option (Int × xS)) (fun _ _ _ _ => none) (fun fu rc => s_X5_isNoBox rc fu) k
noncomputable def f_X5_isNoBox (fu : Nat) (S : xS) (p0 : Nat) (i0 : Int) : Option (Int × xS) := g_X5_isNoBox fu 0 S p0 i0
noncomputable def b_X5_rule_0 (rc : Nat → xS → Nat → Int → Int → Option (Int × xS)) (fu : Nat) (S : xS) (p0 : Nat) (i0 i1 : Int) : Option (Int × xS) :=
  if isO 4 S p0 = true then
  bd2 (f_X5_isNoBox fu S p0 i0) fun x3 S1 =>
  if wI x3 = 0 then (if wI i1 < 0 then (rc 1 S1 p0 0 0)
  else (if wI i1 < wI 6 then ((rdFp 4 0 S1 p0).bind fun q9 =>
  (rdFp 1 5 S1 q9).bind fun q11 =>
  (rdA 0 S1 q11 i0).bind fun x12 =>
  (rdFp 4 0 S1 p0).bind fun q15 =>
  (rdFp 1 5 S1 q15).bind fun q17 =>
  (wrA 0 S1 q17 i0 i1).bind fun S19 =>
  some (x12, S19))
  else (rc 1 S1 p0 0 0)))
  else (rc 1 S1 p0 0 0) else none
noncomputable def b_X5_rule_1 (rc : Nat → xS → Nat → Int → Int → Option (Int × xS)) (fu : Nat) (S : xS) (p0 : Nat) (i0 i1 : Int) : Option (Int × xS) :=
  if isO 4 S p0 = true then
  bd2 (f_X5_refuseBad fu S p0) fun x22 S20 =>
  some (x22, S20) else none
noncomputable def s_X5_rule (rc : Nat → xS → Nat → Int → Int → Option (Int × xS)) (fu lb : Nat) (S : xS) (p0 : Nat) (i0 i1 : Int) : Option (Int × xS) := match lb with
    | 0 => b_X5_rule_0 rc fu S p0 i0 i1
    | _ => b_X5_rule_1 rc fu S p0 i0 i1
noncomputable def g_X5_rule (k : Nat) : Nat → xS → Nat → Int → Int → Option (Int × xS) := Nat.rec (motive := fun _ => Nat → xS → Nat → Int → Int → Option (Int × xS)) (fun _ _ _ _ _ => none) (fun fu rc => s_X5_rule rc fu) k
noncomputable def f_X5_rule (fu : Nat) (S : xS) (p0 : Nat) (i0 : Int) (i1 : Int) : Option (Int × xS) := g_X5_rule fu 0 S p0 i0 i1
noncomputable def b_X5_swap_0 (rc : Nat → xS → Nat → Int → Int → Option (Int × xS)) (fu : Nat) (S : xS) (p0 : Nat) (i0 i1 : Int) : Option (Int × xS) :=
  if isO 4 S p0 = true then
  bd2 (f_X5_isNoBox fu S p0 i0) fun x3 S1 =>
  if wI x3 = 0 then (if isO 4 S1 p0 = true then
  bd2 (f_X5_isNoBox fu S1 p0 i1) fun x8 S6 =>
  if wI x8 = 0 then (if wI i0 = wI i1 then (rc 1 S6 p0 0 0)
  else ((rdFp 4 0 S6 p0).bind fun q13 =>
  if isO 1 S6 q13 = true then
  bd2 (f_X1_keepPast fu S6 q13) fun z16 S14 =>
  (rdFp 4 0 S14 p0).bind fun q19 =>
  (rdFp 1 3 S14 q19).bind fun q21 =>
  bd2 (f_X4_exchange fu S14 q21 i0 i1) fun z24 S22 =>
  some (1, S22) else none))
  else (rc 1 S6 p0 0 0) else none)
  else (rc 1 S1 p0 0 0) else none
noncomputable def b_X5_swap_1 (rc : Nat → xS → Nat → Int → Int → Option (Int × xS)) (fu : Nat) (S : xS) (p0 : Nat) (i0 i1 : Int) : Option (Int × xS) :=
  if isO 4 S p0 = true then
  bd2 (f_X5_refuseBad fu S p0) fun x27 S25 =>
  some (x27, S25) else none
noncomputable def s_X5_swap (rc : Nat → xS → Nat → Int → Int → Option (Int × xS)) (fu lb : Nat) (S : xS) (p0 : Nat) (i0 i1 : Int) : Option (Int × xS) := match lb with
    | 0 => b_X5_swap_0 rc fu S p0 i0 i1
    | _ => b_X5_swap_1 rc fu S p0 i0 i1
noncomputable def g_X5_swap (k : Nat) : Nat → xS → Nat → Int → Int → Option (Int × xS) := Nat.rec (motive := fun _ => Nat → xS → Nat → Int → Int → Option (Int × xS)) (fun _ _ _ _ _ => none) (fun fu rc => s_X5_swap rc fu) k
noncomputable def f_X5_swap (fu : Nat) (S : xS) (p0 : Nat) (i0 : Int) (i1 : Int) : Option (Int × xS) := g_X5_swap fu 0 S p0 i0 i1
noncomputable def b_X5_isNoRank_0 (rc : Nat → xS → Nat → Int → Option (Int × xS)) (fu : Nat) (S : xS) (p0 : Nat) (i0 : Int) : Option (Int × xS) :=
  if wI i0 < 0 then (rc 1 S 0 0)
  else ((rdFp 4 0 S p0).bind fun q3 =>
  (rdFi 1 0 S q3).bind fun x5 =>
  (rdT x5).bind fun x6 =>
  if wI i0 < wI x6 then (some (0, S))
  else (rc 1 S 0 0))
noncomputable def b_X5_isNoRank_1 (rc : Nat → xS → Nat → Int → Option (Int × xS)) (fu : Nat) (S : xS) (p0 : Nat) (i0 : Int) : Option (Int × xS) :=
  some (1, S)
noncomputable def s_X5_isNoRank (rc : Nat → xS → Nat → Int → Option (Int × xS)) (fu lb : Nat) (S : xS) (p0 : Nat) (i0 : Int) : Option (Int × xS) := match lb with
    | 0 => b_X5_isNoRank_0 rc fu S p0 i0
    | _ => b_X5_isNoRank_1 rc fu S p0 i0
noncomputable def g_X5_isNoRank (k : Nat) : Nat → xS → Nat → Int → Option (Int × xS) := Nat.rec (motive := fun _ => Nat → xS → Nat → Int → Option (Int × xS)) (fun _ _ _ _ => none) (fun fu rc => s_X5_isNoRank rc fu) k
noncomputable def f_X5_isNoRank (fu : Nat) (S : xS) (p0 : Nat) (i0 : Int) : Option (Int × xS) := g_X5_isNoRank fu 0 S p0 i0
noncomputable def f_X5_lay (fu : Nat) (S : xS) (p0 : Nat) (i0 : Int) : Option (Int × xS) :=
  if isO 4 S p0 = true then
  bd2 (f_X5_isNoRank fu S p0 i0) fun x3 S1 =>
  if wI x3 = 0 then ((rdFp 4 0 S1 p0).bind fun q7 =>
  if isO 1 S1 q7 = true then
  bd2 (f_X1_rankNow fu S1 q7) fun x10 S8 =>
  (rdFp 4 0 S8 p0).bind fun q13 =>
  if isO 1 S8 q13 = true then
  bd2 (f_X1_keepPast fu S8 q13) fun z16 S14 =>
  (rdFp 4 0 S14 p0).bind fun q19 =>
  (rdFp 1 3 S14 q19).bind fun q21 =>
  (rdFp 4 0 S14 p0).bind fun q23 =>
  (rdFi 1 0 S14 q23).bind fun x25 =>
  bd2 (f_X4_setToRank fu S14 q21 x25 i0) fun z28 S26 =>
  some (x10, S26) else none else none)
  else (if isO 4 S1 p0 = true then
  bd2 (f_X5_refuseBad fu S1 p0) fun x31 S29 =>
  some (x31, S29) else none) else none
noncomputable def f_X5_refuseNo (fu : Nat) (S : xS) (p0 : Nat) : Option (Int × xS) :=
  (rdFi 4 11 S p0).bind fun x2 =>
  (wrF 4 11 S p0 (.inl (x2 + 1))).bind fun S4 =>
  some ((-3), S4)
noncomputable def f_X5_undo (fu : Nat) (S : xS) (p0 : Nat) : Option (Int × xS) :=
  (rdFp 4 0 S p0).bind fun q2 =>
  (rdFi 1 11 S q2).bind fun x4 =>
  if wI x4 = 0 then (if isO 4 S p0 = true then
  bd2 (f_X5_refuseNo fu S p0) fun x14 S12 =>
  some (x14, S12) else none)
  else ((rdFp 4 0 S p0).bind fun q7 =>
  if isO 1 S q7 = true then
  bd2 (f_X1_goBack fu S q7) fun z10 S8 =>
  some (1, S8) else none)
noncomputable def b_X5_know_0 (rc : Nat → xS → Nat → Int → Int → Option (Int × xS)) (fu : Nat) (S : xS) (p0 : Nat) (i0 i1 : Int) : Option (Int × xS) :=
  if isO 4 S p0 = true then
  bd2 (f_X5_isNoBox fu S p0 i0) fun x3 S1 =>
  if wI x3 = 0 then (if isO 4 S1 p0 = true then
  bd2 (f_X5_isNoBox fu S1 p0 i1) fun x8 S6 =>
  if wI x8 = 0 then ((rdFp 4 0 S6 p0).bind fun q12 =>
  (rdFp 1 4 S6 q12).bind fun q14 =>
  (rdA 0 S6 q14 i0).bind fun x15 =>
  if wI x15 = wI ((-1)) then ((rdFp 4 0 S6 p0).bind fun q19 =>
  if isO 1 S6 q19 = true then
  bd2 (f_X1_isKnownSlip fu S6 q19 i1) fun x22 S20 =>
  if wI x22 = 0 then ((rdFp 4 0 S20 p0).bind fun q26 =>
  (rdFp 1 4 S20 q26).bind fun q28 =>
  (wrA 0 S20 q28 i0 i1).bind fun S30 =>
  some (1, S30))
  else (rc 2 S20 p0 0 0) else none)
  else (rc 2 S6 p0 0 0))
  else (rc 1 S6 p0 0 0) else none)
  else (rc 1 S1 p0 0 0) else none
noncomputable def b_X5_know_1 (rc : Nat → xS → Nat → Int → Int → Option (Int × xS)) (fu : Nat) (S : xS) (p0 : Nat) (i0 i1 : Int) : Option (Int × xS) :=
  if isO 4 S p0 = true then
  bd2 (f_X5_refuseBad fu S p0) fun x33 S31 =>
  some (x33, S31) else none
noncomputable def b_X5_know_2 (rc : Nat → xS → Nat → Int → Int → Option (Int × xS)) (fu : Nat) (S : xS) (p0 : Nat) (i0 i1 : Int) : Option (Int × xS) :=
  if isO 4 S p0 = true then
  bd2 (f_X5_refuseNo fu S p0) fun x37 S35 =>
  some (x37, S35) else none
noncomputable def s_X5_know (rc : Nat → xS → Nat → Int → Int → Option (Int × xS)) (fu lb : Nat) (S : xS) (p0 : Nat) (i0 i1 : Int) : Option (Int × xS) := match lb with
    | 0 => b_X5_know_0 rc fu S p0 i0 i1
    | 1 => b_X5_know_1 rc fu S p0 i0 i1
    | _ => b_X5_know_2 rc fu S p0 i0 i1
noncomputable def g_X5_know (k : Nat) : Nat → xS → Nat → Int → Int → Option (Int × xS) := Nat.rec (motive := fun _ => Nat → xS → Nat → Int → Int → Option (Int × xS)) (fun _ _ _ _ _ => none) (fun fu rc => s_X5_know rc fu) k
noncomputable def f_X5_know (fu : Nat) (S : xS) (p0 : Nat) (i0 : Int) (i1 : Int) : Option (Int × xS) := g_X5_know fu 0 S p0 i0 i1
noncomputable def f_X5_refuseFull (fu : Nat) (S : xS) (p0 : Nat) : Option (Int × xS) :=
  (rdFi 4 12 S p0).bind fun x2 =>
  (wrF 4 12 S p0 (.inl (x2 + 1))).bind fun S4 =>
  some ((-4), S4)
noncomputable def b_X5_report_0 (rc : Nat → xS → Nat → Int → Int → Option (Int × xS)) (fu : Nat) (S : xS) (p0 : Nat) (i0 i1 : Int) : Option (Int × xS) :=
  if isO 4 S p0 = true then
  bd2 (f_X5_isNoBox fu S p0 i0) fun x3 S1 =>
  if wI x3 = 0 then (if wI i1 < 0 then (rc 1 S1 p0 0 0)
  else ((rdFp 4 0 S1 p0).bind fun q8 =>
  (rdFi 1 0 S1 q8).bind fun x10 =>
  if wI i1 ≤ wI x10 then ((rdFp 4 0 S1 p0).bind fun q13 =>
  (rdFi 1 6 S1 q13).bind fun x15 =>
  if wI x15 < wI 8 then ((rdFp 4 0 S1 p0).bind fun q18 =>
  if isO 1 S1 q18 = true then
  bd2 (f_X1_addReport fu S1 q18 i0 i1) fun x21 S19 =>
  some (x21, S19) else none)
  else (if isO 4 S1 p0 = true then
  bd2 (f_X5_refuseFull fu S1 p0) fun x25 S23 =>
  some (x25, S23) else none))
  else (rc 1 S1 p0 0 0)))
  else (rc 1 S1 p0 0 0) else none
noncomputable def b_X5_report_1 (rc : Nat → xS → Nat → Int → Int → Option (Int × xS)) (fu : Nat) (S : xS) (p0 : Nat) (i0 i1 : Int) : Option (Int × xS) :=
  if isO 4 S p0 = true then
  bd2 (f_X5_refuseBad fu S p0) fun x29 S27 =>
  some (x29, S27) else none
noncomputable def s_X5_report (rc : Nat → xS → Nat → Int → Int → Option (Int × xS)) (fu lb : Nat) (S : xS) (p0 : Nat) (i0 i1 : Int) : Option (Int × xS) := match lb with
    | 0 => b_X5_report_0 rc fu S p0 i0 i1
    | _ => b_X5_report_1 rc fu S p0 i0 i1
noncomputable def g_X5_report (k : Nat) : Nat → xS → Nat → Int → Int → Option (Int × xS) := Nat.rec (motive := fun _ => Nat → xS → Nat → Int → Int → Option (Int × xS)) (fun _ _ _ _ _ => none) (fun fu rc => s_X5_report rc fu) k
noncomputable def f_X5_report (fu : Nat) (S : xS) (p0 : Nat) (i0 : Int) (i1 : Int) : Option (Int × xS) := g_X5_report fu 0 S p0 i0 i1
noncomputable def f_X5_forget (fu : Nat) (S : xS) (p0 : Nat) (i0 : Int) : Option (Int × xS) :=
  if wI i0 = 0 then ((rdFp 4 0 S p0).bind fun q16 =>
  if isO 1 S q16 = true then
  bd2 (f_X1_knownCount fu S q16) fun x19 S17 =>
  (rdFp 4 0 S17 p0).bind fun q22 =>
  (rdFp 1 4 S17 q22).bind fun q24 =>
  bd2 (f_J7_fill_53178 fu S17 q24 ((-1))) fun z27 S25 =>
  some (x19, S25) else none)
  else (if wI i0 = wI 1 then ((rdFp 4 0 S p0).bind fun q8 =>
  (rdFi 1 6 S q8).bind fun x10 =>
  (rdFp 4 0 S p0).bind fun q12 =>
  (wrF 1 6 S q12 (.inl 0)).bind fun S14 =>
  some (x10, S14))
  else (if isO 4 S p0 = true then
  bd2 (f_X5_refuseBad fu S p0) fun x5 S3 =>
  some (x5, S3) else none))
noncomputable def b_X5_type_0 (rc : Nat → xS → Nat → Int → Option (Int × xS)) (fu : Nat) (S : xS) (p0 : Nat) (i0 : Int) : Option (Int × xS) :=
  if wI i0 < 0 then (rc 1 S p0 0)
  else (if wI i0 ≤ wI 127 then ((rdFp 4 3 S p0).bind fun q4 =>
  (rdFi 3 1 S q4).bind fun x6 =>
  if wI x6 < wI 150 then ((rdFp 4 3 S p0).bind fun q9 =>
  (rdFp 3 0 S q9).bind fun q11 =>
  (rdFp 4 3 S p0).bind fun q13 =>
  (rdFi 3 1 S q13).bind fun x15 =>
  if xByte (xByte i0) = xByte i0 then
  (wrA 1 S q11 x15 (xByte i0)).bind fun S17 =>
  (rdFp 4 3 S17 p0).bind fun q20 =>
  (rdFi 3 1 S17 q20).bind fun x22 =>
  (wrF 3 1 S17 q20 (.inl (x22 + 1))).bind fun S24 =>
  (rdFp 4 3 S24 p0).bind fun q26 =>
  (rdFi 3 1 S24 q26).bind fun x28 =>
  some (x28, S24) else none)
  else (if isO 4 S p0 = true then
  bd2 (f_X5_refuseFull fu S p0) fun x31 S29 =>
  some (x31, S29) else none))
  else (rc 1 S p0 0))
noncomputable def b_X5_type_1 (rc : Nat → xS → Nat → Int → Option (Int × xS)) (fu : Nat) (S : xS) (p0 : Nat) (i0 : Int) : Option (Int × xS) :=
  if isO 4 S p0 = true then
  bd2 (f_X5_refuseBad fu S p0) fun x35 S33 =>
  some (x35, S33) else none
noncomputable def s_X5_type (rc : Nat → xS → Nat → Int → Option (Int × xS)) (fu lb : Nat) (S : xS) (p0 : Nat) (i0 : Int) : Option (Int × xS) := match lb with
    | 0 => b_X5_type_0 rc fu S p0 i0
    | _ => b_X5_type_1 rc fu S p0 i0
noncomputable def g_X5_type (k : Nat) : Nat → xS → Nat → Int → Option (Int × xS) := Nat.rec (motive := fun _ => Nat → xS → Nat → Int → Option (Int × xS)) (fun _ _ _ _ => none) (fun fu rc => s_X5_type rc fu) k
noncomputable def f_X5_type (fu : Nat) (S : xS) (p0 : Nat) (i0 : Int) : Option (Int × xS) := g_X5_type fu 0 S p0 i0
noncomputable def f_X5_clear (fu : Nat) (S : xS) (p0 : Nat) : Option (Int × xS) :=
  (rdFp 4 3 S p0).bind fun q2 =>
  (rdFi 3 1 S q2).bind fun x4 =>
  (rdFp 4 3 S p0).bind fun q6 =>
  (wrF 3 1 S q6 (.inl 0)).bind fun S8 =>
  some (x4, S8)
noncomputable def f_X5_read (fu : Nat) (S : xS) (p0 : Nat) : Option (Int × xS) :=
  (rdFp 4 3 S p0).bind fun q2 =>
  (rdFp 4 1 S p0).bind fun q4 =>
  if isO 3 S q2 = true then
  bd2 (f_X3_tellItems fu S q2 q4) fun x7 S5 =>
  if wI x7 < 0 then (some (x7, S5))
  else ((rdFp 4 0 S5 p0).bind fun q11 =>
  (rdFp 4 1 S5 p0).bind fun q13 =>
  if isO 1 S5 q11 = true then
  bd2 (f_X1_copyOf fu S5 q11 q13) fun z16 S14 =>
  some (x7, S14) else none) else none
noncomputable def f_X5_slip (fu : Nat) (S : xS) (p0 : Nat) (i0 : Int) : Option (Int × xS) :=
  if isO 4 S p0 = true then
  bd2 (f_X5_isNoBox fu S p0 i0) fun x3 S1 =>
  if wI x3 = 0 then ((rdFp 4 0 S1 p0).bind fun q7 =>
  (rdFp 1 3 S1 q7).bind fun q9 =>
  (rdA 0 S1 q9 i0).bind fun x10 =>
  some (x10, S1))
  else (if isO 4 S1 p0 = true then
  bd2 (f_X5_refuseBad fu S1 p0) fun x14 S12 =>
  some (x14, S12) else none) else none
noncomputable def f_X5_rank (fu : Nat) (S : xS) (p0 : Nat) : Option (Int × xS) :=
  (rdFp 4 0 S p0).bind fun q2 =>
  if isO 1 S q2 = true then
  bd2 (f_X1_rankNow fu S q2) fun x5 S3 =>
  some (x5, S3) else none
noncomputable def f_X5_refuseQuestion (fu : Nat) (S : xS) (p0 : Nat) : Option (Int × xS) :=
  (rdFi 4 10 S p0).bind fun x2 =>
  (wrF 4 10 S p0 (.inl (x2 + 1))).bind fun S4 =>
  some ((-10), S4)
noncomputable def f_X5_rings (fu : Nat) (S : xS) (p0 : Nat) (i0 : Int) : Option (Int × xS) :=
  if wI i0 = wI ((-1)) then ((rdFp 4 0 S p0).bind fun q23 =>
  (rdFp 1 3 S q23).bind fun q25 =>
  (rdFp 4 0 S p0).bind fun q27 =>
  (rdFi 1 0 S q27).bind fun x29 =>
  bd2 (f_X4_ringCount fu S q25 x29) fun x32 S30 =>
  some (x32, S30))
  else (if isO 4 S p0 = true then
  bd2 (f_X5_isNoBox fu S p0 i0) fun x4 S2 =>
  if wI x4 = 0 then ((rdFp 4 0 S2 p0).bind fun q8 =>
  (rdFp 1 3 S2 q8).bind fun q10 =>
  (rdFp 4 0 S2 p0).bind fun q12 =>
  (rdFi 1 0 S2 q12).bind fun x14 =>
  bd2 (f_X4_ringLength fu S2 q10 x14 i0) fun x17 S15 =>
  some (x17, S15))
  else (if isO 4 S2 p0 = true then
  bd2 (f_X5_refuseQuestion fu S2 p0) fun x20 S18 =>
  some (x20, S18) else none) else none)
noncomputable def b_X5_opened_0 (rc : Nat → xS → Nat → Int → Int → Option (Int × xS)) (fu : Nat) (S : xS) (p0 : Nat) (i0 i1 : Int) : Option (Int × xS) :=
  if isO 4 S p0 = true then
  bd2 (f_X5_isNoBox fu S p0 i0) fun x3 S1 =>
  if wI x3 = 0 then (if wI ((-1)) ≤ wI i1 then ((rdFp 4 4 S1 p0).bind fun q8 =>
  (rdFp 4 0 S1 p0).bind fun q10 =>
  (rdFp 4 0 S1 p0).bind fun q12 =>
  (rdFp 1 3 S1 q12).bind fun q14 =>
  (rdFp 4 0 S1 p0).bind fun q16 =>
  (rdFp 1 5 S1 q16).bind fun q18 =>
  (rdA 0 S1 q18 i0).bind fun x19 =>
  if isO 2 S1 q8 = true then
  bd2 (f_X2_seek fu S1 q8 q10 q14 i0 x19) fun z23 S21 =>
  if wI i1 = wI ((-1)) then ((rdFp 4 4 S21 p0).bind fun q38 =>
  (rdFi 2 1 S21 q38).bind fun x40 =>
  some (x40, S21))
  else ((rdFp 4 4 S21 p0).bind fun q27 =>
  (rdFi 2 1 S21 q27).bind fun x29 =>
  if wI x29 ≤ wI i1 then (some ((-5), S21))
  else ((rdFp 4 4 S21 p0).bind fun q32 =>
  (rdFp 2 0 S21 q32).bind fun q34 =>
  (rdA 0 S21 q34 i1).bind fun x35 =>
  some (x35, S21))) else none)
  else (rc 1 S1 p0 0 0))
  else (rc 1 S1 p0 0 0) else none
noncomputable def b_X5_opened_1 (rc : Nat → xS → Nat → Int → Int → Option (Int × xS)) (fu : Nat) (S : xS) (p0 : Nat) (i0 i1 : Int) : Option (Int × xS) :=
  if isO 4 S p0 = true then
  bd2 (f_X5_refuseQuestion fu S p0) fun x43 S41 =>
  some (x43, S41) else none
noncomputable def s_X5_opened (rc : Nat → xS → Nat → Int → Int → Option (Int × xS)) (fu lb : Nat) (S : xS) (p0 : Nat) (i0 i1 : Int) : Option (Int × xS) := match lb with
    | 0 => b_X5_opened_0 rc fu S p0 i0 i1
    | _ => b_X5_opened_1 rc fu S p0 i0 i1
noncomputable def g_X5_opened (k : Nat) : Nat → xS → Nat → Int → Int → Option (Int × xS) := Nat.rec (motive := fun _ => Nat → xS → Nat → Int → Int → Option (Int × xS)) (fun _ _ _ _ _ => none) (fun fu rc => s_X5_opened rc fu) k
noncomputable def f_X5_opened (fu : Nat) (S : xS) (p0 : Nat) (i0 : Int) (i1 : Int) : Option (Int × xS) := g_X5_opened fu 0 S p0 i0 i1
noncomputable def f_X5_doesFind (fu : Nat) (S : xS) (p0 : Nat) (p1 : Nat) (i0 : Int) (i1 : Int) : Option (Int × xS) :=
  (rdFp 4 4 S p0).bind fun q2 =>
  (rdFp 4 0 S p0).bind fun q4 =>
  if isO 2 S q2 = true then
  bd2 (f_X2_seek fu S q2 q4 p1 i0 i1) fun z7 S5 =>
  (rdFp 4 4 S5 p0).bind fun q10 =>
  (rdFi 2 2 S5 q10).bind fun x12 =>
  if x12 = 0 ∨ x12 = 1 then some (x12, S5) else none else none
noncomputable def b_X5_findersIn_0 (rc : Nat → xS → Nat → Nat → Int → Int → Option (Int × xS)) (fu : Nat) (S : xS) (p0 p1 : Nat) (i0 i1 : Int) : Option (Int × xS) :=
  rc 1 S p0 p1 0 0
noncomputable def b_X5_findersIn_1 (rc : Nat → xS → Nat → Nat → Int → Int → Option (Int × xS)) (fu : Nat) (S : xS) (p0 p1 : Nat) (i0 i1 : Int) : Option (Int × xS) :=
  (rdFp 4 0 S p0).bind fun q2 =>
  (rdFi 1 0 S q2).bind fun x4 =>
  if wI x4 ≤ wI i1 then (some (i0, S))
  else ((rdFp 4 0 S p0).bind fun q7 =>
  (rdFp 1 5 S q7).bind fun q9 =>
  (rdA 0 S q9 i1).bind fun x10 =>
  if isO 4 S p0 = true then
  bd2 (f_X5_doesFind fu S p0 p1 i1 x10) fun x14 S12 =>
  if wI x14 = 0 then (rc 2 S12 p0 p1 i0 i1)
  else (nmx (xOr i0 (xShl 1 i1)) fun x17 =>
  rc 2 S12 p0 p1 x17 i1) else none)
noncomputable def b_X5_findersIn_2 (rc : Nat → xS → Nat → Nat → Int → Int → Option (Int × xS)) (fu : Nat) (S : xS) (p0 p1 : Nat) (i0 i1 : Int) : Option (Int × xS) :=
  nmx (i1 + 1) fun x19 =>
  rc 1 S p0 p1 i0 x19
noncomputable def s_X5_findersIn (rc : Nat → xS → Nat → Nat → Int → Int → Option (Int × xS)) (fu lb : Nat) (S : xS) (p0 p1 : Nat) (i0 i1 : Int) : Option (Int × xS) := match lb with
    | 0 => b_X5_findersIn_0 rc fu S p0 p1 i0 i1
    | 1 => b_X5_findersIn_1 rc fu S p0 p1 i0 i1
    | _ => b_X5_findersIn_2 rc fu S p0 p1 i0 i1
noncomputable def g_X5_findersIn (k : Nat) : Nat → xS → Nat → Nat → Int → Int → Option (Int × xS) := Nat.rec (motive := fun _ => Nat → xS → Nat → Nat → Int → Int → Option (Int × xS)) (fun _ _ _ _ _ _ => none) (fun fu rc => s_X5_findersIn rc fu) k
noncomputable def f_X5_findersIn (fu : Nat) (S : xS) (p0 : Nat) (p1 : Nat) : Option (Int × xS) := g_X5_findersIn fu 0 S p0 p1 0 0
noncomputable def f_X5_finds (fu : Nat) (S : xS) (p0 : Nat) : Option (Int × xS) :=
  (rdFp 4 0 S p0).bind fun q2 =>
  (rdFp 1 3 S q2).bind fun q4 =>
  if isO 4 S p0 = true then
  bd2 (f_X5_findersIn fu S p0 q4) fun x7 S5 =>
  some (x7, S5) else none
noncomputable def b_X5_worked_0 (rc : Nat → xS → Nat → Int → Int → Option (Int × xS)) (fu : Nat) (S : xS) (p0 : Nat) (i0 i1 : Int) : Option (Int × xS) :=
  if wI i0 < 0 then (rc 1 S p0 0 0)
  else (if wI i0 ≤ wI 99 then (rc 2 S p0 i0 0)
  else (rc 1 S p0 0 0))
noncomputable def b_X5_worked_1 (rc : Nat → xS → Nat → Int → Int → Option (Int × xS)) (fu : Nat) (S : xS) (p0 : Nat) (i0 i1 : Int) : Option (Int × xS) :=
  if isO 4 S p0 = true then
  bd2 (f_X5_refuseBad fu S p0) fun x5 S3 =>
  some (x5, S3) else none
noncomputable def b_X5_worked_2 (rc : Nat → xS → Nat → Int → Int → Option (Int × xS)) (fu : Nat) (S : xS) (p0 : Nat) (i0 i1 : Int) : Option (Int × xS) :=
  (rdFp 4 0 S p0).bind fun q8 =>
  (rdFi 1 0 S q8).bind fun x10 =>
  if wI x10 ≤ wI i1 then ((rdFp 4 5 S p0).bind fun q13 =>
  (rdFp 4 0 S p0).bind fun q15 =>
  (rdFi 1 0 S q15).bind fun x17 =>
  bd2 (f_X4_rankOf fu S q13 x17) fun x20 S18 =>
  some (x20, S18))
  else ((rdFp 4 5 S p0).bind fun q22 =>
  (rdFp 4 0 S p0).bind fun q24 =>
  (rdFp 1 3 S q24).bind fun q26 =>
  bd2 (f_X4_stepsFrom fu S q26 i1 i0) fun x29 S27 =>
  (wrA 0 S27 q22 i1 x29).bind fun S31 =>
  nmx (i1 + 1) fun x32 =>
  rc 2 S31 p0 i0 x32)
noncomputable def s_X5_worked (rc : Nat → xS → Nat → Int → Int → Option (Int × xS)) (fu lb : Nat) (S : xS) (p0 : Nat) (i0 i1 : Int) : Option (Int × xS) := match lb with
    | 0 => b_X5_worked_0 rc fu S p0 i0 i1
    | 1 => b_X5_worked_1 rc fu S p0 i0 i1
    | _ => b_X5_worked_2 rc fu S p0 i0 i1
noncomputable def g_X5_worked (k : Nat) : Nat → xS → Nat → Int → Int → Option (Int × xS) := Nat.rec (motive := fun _ => Nat → xS → Nat → Int → Int → Option (Int × xS)) (fun _ _ _ _ _ => none) (fun fu rc => s_X5_worked rc fu) k
noncomputable def f_X5_worked (fu : Nat) (S : xS) (p0 : Nat) (i0 : Int) : Option (Int × xS) := g_X5_worked fu 0 S p0 i0 0
noncomputable def b_X5_commonDivisor_0 (rc : Nat → xS → Int → Int → Int → Option (Int × xS)) (fu : Nat) (S : xS) (i0 i1 i2 : Int) : Option (Int × xS) :=
  rc 1 S i0 i1 0
noncomputable def b_X5_commonDivisor_1 (rc : Nat → xS → Int → Int → Int → Option (Int × xS)) (fu : Nat) (S : xS) (i0 i1 i2 : Int) : Option (Int × xS) :=
  if wI 100 ≤ wI i2 then (rc 2 S i0 0 0)
  else (if wI (xLcmp i1 0) = 0 then (rc 2 S i0 0 0)
  else (if wL i1 = 0 then none else
  nmx ((wL i0).tmod (wL i1)) fun x4 =>
  nmx (i2 + 1) fun x6 =>
  rc 1 S i1 x4 x6))
noncomputable def b_X5_commonDivisor_2 (rc : Nat → xS → Int → Int → Int → Option (Int × xS)) (fu : Nat) (S : xS) (i0 i1 i2 : Int) : Option (Int × xS) :=
  some (xMaxL 1 i0, S)
noncomputable def s_X5_commonDivisor (rc : Nat → xS → Int → Int → Int → Option (Int × xS)) (fu lb : Nat) (S : xS) (i0 i1 i2 : Int) : Option (Int × xS) := match lb with
    | 0 => b_X5_commonDivisor_0 rc fu S i0 i1 i2
    | 1 => b_X5_commonDivisor_1 rc fu S i0 i1 i2
    | _ => b_X5_commonDivisor_2 rc fu S i0 i1 i2
noncomputable def g_X5_commonDivisor (k : Nat) : Nat → xS → Int → Int → Int → Option (Int × xS) := Nat.rec (motive := fun _ => Nat → xS → Int → Int → Int → Option (Int × xS)) (fun _ _ _ _ _ => none) (fun fu rc => s_X5_commonDivisor rc fu) k
noncomputable def f_X5_commonDivisor (fu : Nat) (S : xS) (i0 : Int) (i1 : Int) : Option (Int × xS) := g_X5_commonDivisor fu 0 S i0 i1 0
noncomputable def b_X5_back_0 (rc : Nat → xS → Nat → Int → Int → Option (Int × xS)) (fu : Nat) (S : xS) (p0 : Nat) (i0 i1 : Int) : Option (Int × xS) :=
  rc 1 S p0 1 0
noncomputable def b_X5_back_1 (rc : Nat → xS → Nat → Int → Int → Option (Int × xS)) (fu : Nat) (S : xS) (p0 : Nat) (i0 i1 : Int) : Option (Int × xS) :=
  (rdFp 4 0 S p0).bind fun q2 =>
  (rdFi 1 0 S q2).bind fun x4 =>
  if wI x4 ≤ wI i1 then (some (i0, S))
  else ((rdFp 4 0 S p0).bind fun q7 =>
  (rdFp 1 3 S q7).bind fun q9 =>
  (rdFp 4 0 S p0).bind fun q11 =>
  (rdFi 1 0 S q11).bind fun x13 =>
  bd2 (f_X4_ringLength fu S q9 x13 i1) fun x16 S14 =>
  bd2 (f_X5_commonDivisor fu S14 i0 (wI x16)) fun x19 S17 =>
  if wL x19 = 0 then none else
  nmx (((wL i0).tdiv (wL x19)) * (wI x16)) fun x21 =>
  nmx (i1 + 1) fun x23 =>
  rc 1 S17 p0 x21 x23)
noncomputable def s_X5_back (rc : Nat → xS → Nat → Int → Int → Option (Int × xS)) (fu lb : Nat) (S : xS) (p0 : Nat) (i0 i1 : Int) : Option (Int × xS) := match lb with
    | 0 => b_X5_back_0 rc fu S p0 i0 i1
    | _ => b_X5_back_1 rc fu S p0 i0 i1
noncomputable def g_X5_back (k : Nat) : Nat → xS → Nat → Int → Int → Option (Int × xS) := Nat.rec (motive := fun _ => Nat → xS → Nat → Int → Int → Option (Int × xS)) (fun _ _ _ _ _ => none) (fun fu rc => s_X5_back rc fu) k
noncomputable def f_X5_back (fu : Nat) (S : xS) (p0 : Nat) : Option (Int × xS) := g_X5_back fu 0 S p0 0 0
noncomputable def b_X5_undoes_0 (rc : Nat → xS → Nat → Int → Option (Int × xS)) (fu : Nat) (S : xS) (p0 : Nat) (i0 : Int) : Option (Int × xS) :=
  rc 1 S p0 0
noncomputable def b_X5_undoes_1 (rc : Nat → xS → Nat → Int → Option (Int × xS)) (fu : Nat) (S : xS) (p0 : Nat) (i0 : Int) : Option (Int × xS) :=
  (rdFp 4 0 S p0).bind fun q2 =>
  (rdFi 1 0 S q2).bind fun x4 =>
  if wI x4 ≤ wI i0 then ((rdFp 4 5 S p0).bind fun q7 =>
  (rdFp 4 0 S p0).bind fun q9 =>
  (rdFi 1 0 S q9).bind fun x11 =>
  bd2 (f_X4_rankOf fu S q7 x11) fun x14 S12 =>
  some (x14, S12))
  else ((rdFp 4 5 S p0).bind fun q16 =>
  (rdFp 4 0 S p0).bind fun q18 =>
  (rdFp 1 3 S q18).bind fun q20 =>
  (rdA 0 S q20 i0).bind fun x21 =>
  (wrA 0 S q16 x21 i0).bind fun S24 =>
  nmx (i0 + 1) fun x25 =>
  rc 1 S24 p0 x25)
noncomputable def s_X5_undoes (rc : Nat → xS → Nat → Int → Option (Int × xS)) (fu lb : Nat) (S : xS) (p0 : Nat) (i0 : Int) : Option (Int × xS) := match lb with
    | 0 => b_X5_undoes_0 rc fu S p0 i0
    | _ => b_X5_undoes_1 rc fu S p0 i0
noncomputable def g_X5_undoes (k : Nat) : Nat → xS → Nat → Int → Option (Int × xS) := Nat.rec (motive := fun _ => Nat → xS → Nat → Int → Option (Int × xS)) (fun _ _ _ _ => none) (fun fu rc => s_X5_undoes rc fu) k
noncomputable def f_X5_undoes (fu : Nat) (S : xS) (p0 : Nat) : Option (Int × xS) := g_X5_undoes fu 0 S p0 0
noncomputable def b_X5_goesWith_0 (rc : Nat → xS → Nat → Int → Int → Int → Option (Int × xS)) (fu : Nat) (S : xS) (p0 : Nat) (i0 i1 i2 : Int) : Option (Int × xS) :=
  (rdFp 4 0 S p0).bind fun q2 =>
  (rdFi 1 0 S q2).bind fun x4 =>
  (rdFp 4 5 S p0).bind fun q6 =>
  bd2 (f_X4_setToFirst fu S q6 x4) fun z9 S7 =>
  rc 1 S7 p0 x4 0 0
noncomputable def b_X5_goesWith_1 (rc : Nat → xS → Nat → Int → Int → Int → Option (Int × xS)) (fu : Nat) (S : xS) (p0 : Nat) (i0 i1 i2 : Int) : Option (Int × xS) :=
  (rdT i0).bind fun x10 =>
  if wI x10 ≤ wI i2 then (some (i1, S))
  else ((rdFp 4 0 S p0).bind fun q14 =>
  (rdFp 1 3 S q14).bind fun q16 =>
  (rdFp 4 5 S p0).bind fun q18 =>
  bd2 (f_X4_areExchangeable fu S q16 q18 i0) fun x21 S19 =>
  if wI x21 = 0 then (rc 2 S19 p0 i0 i1 i2)
  else (nmx (i1 + 1) fun x23 =>
  rc 2 S19 p0 i0 x23 i2))
noncomputable def b_X5_goesWith_2 (rc : Nat → xS → Nat → Int → Int → Int → Option (Int × xS)) (fu : Nat) (S : xS) (p0 : Nat) (i0 i1 i2 : Int) : Option (Int × xS) :=
  (rdFp 4 5 S p0).bind fun q26 =>
  bd2 (f_X4_setToNext fu S q26 i0) fun z29 S27 =>
  nmx (i2 + 1) fun x30 =>
  rc 1 S27 p0 i0 i1 x30
noncomputable def s_X5_goesWith (rc : Nat → xS → Nat → Int → Int → Int → Option (Int × xS)) (fu lb : Nat) (S : xS) (p0 : Nat) (i0 i1 i2 : Int) : Option (Int × xS) := match lb with
    | 0 => b_X5_goesWith_0 rc fu S p0 i0 i1 i2
    | 1 => b_X5_goesWith_1 rc fu S p0 i0 i1 i2
    | _ => b_X5_goesWith_2 rc fu S p0 i0 i1 i2
noncomputable def g_X5_goesWith (k : Nat) : Nat → xS → Nat → Int → Int → Int → Option (Int × xS) := Nat.rec (motive := fun _ => Nat → xS → Nat → Int → Int → Int → Option (Int × xS)) (fun _ _ _ _ _ _ => none) (fun fu rc => s_X5_goesWith rc fu) k
noncomputable def f_X5_goesWith (fu : Nat) (S : xS) (p0 : Nat) : Option (Int × xS) := g_X5_goesWith fu 0 S p0 0 0 0
noncomputable def b_X5_roots_0 (rc : Nat → xS → Nat → Int → Int → Int → Int → Option (Int × xS)) (fu : Nat) (S : xS) (p0 : Nat) (i0 i1 i2 i3 : Int) : Option (Int × xS) :=
  if wI i0 < wI 2 then (rc 1 S p0 0 0 0 0)
  else (if wI i0 ≤ wI 9 then ((rdFp 4 0 S p0).bind fun q4 =>
  (rdFi 1 0 S q4).bind fun x6 =>
  (rdFp 4 5 S p0).bind fun q8 =>
  bd2 (f_X4_setToFirst fu S q8 x6) fun z11 S9 =>
  rc 2 S9 p0 i0 x6 0 0)
  else (rc 1 S p0 0 0 0 0))
noncomputable def b_X5_roots_1 (rc : Nat → xS → Nat → Int → Int → Int → Int → Option (Int × xS)) (fu : Nat) (S : xS) (p0 : Nat) (i0 i1 i2 i3 : Int) : Option (Int × xS) :=
  if isO 4 S p0 = true then
  bd2 (f_X5_refuseBad fu S p0) fun x14 S12 =>
  some (x14, S12) else none
noncomputable def b_X5_roots_2 (rc : Nat → xS → Nat → Int → Int → Int → Int → Option (Int × xS)) (fu : Nat) (S : xS) (p0 : Nat) (i0 i1 i2 i3 : Int) : Option (Int × xS) :=
  (rdT i1).bind fun x16 =>
  if wI x16 ≤ wI i3 then (some (i2, S))
  else ((rdFp 4 5 S p0).bind fun q20 =>
  (rdFp 4 0 S p0).bind fun q22 =>
  (rdFp 1 3 S q22).bind fun q24 =>
  bd2 (f_X4_isRoot fu S q20 i0 q24 i1) fun x27 S25 =>
  if wI x27 = 0 then (rc 3 S25 p0 i0 i1 i2 i3)
  else (nmx (i2 + 1) fun x29 =>
  rc 3 S25 p0 i0 i1 x29 i3))
noncomputable def b_X5_roots_3 (rc : Nat → xS → Nat → Int → Int → Int → Int → Option (Int × xS)) (fu : Nat) (S : xS) (p0 : Nat) (i0 i1 i2 i3 : Int) : Option (Int × xS) :=
  (rdFp 4 5 S p0).bind fun q32 =>
  bd2 (f_X4_setToNext fu S q32 i1) fun z35 S33 =>
  nmx (i3 + 1) fun x36 =>
  rc 2 S33 p0 i0 i1 i2 x36
noncomputable def s_X5_roots (rc : Nat → xS → Nat → Int → Int → Int → Int → Option (Int × xS)) (fu lb : Nat) (S : xS) (p0 : Nat) (i0 i1 i2 i3 : Int) : Option (Int × xS) := match lb with
    | 0 => b_X5_roots_0 rc fu S p0 i0 i1 i2 i3
    | 1 => b_X5_roots_1 rc fu S p0 i0 i1 i2 i3
    | 2 => b_X5_roots_2 rc fu S p0 i0 i1 i2 i3
    | _ => b_X5_roots_3 rc fu S p0 i0 i1 i2 i3
noncomputable def g_X5_roots (k : Nat) : Nat → xS → Nat → Int → Int → Int → Int → Option (Int × xS) := Nat.rec (motive := fun _ => Nat → xS → Nat → Int → Int → Int → Int → Option (Int × xS)) (fun _ _ _ _ _ _ _ => none) (fun fu rc => s_X5_roots rc fu) k
noncomputable def f_X5_roots (fu : Nat) (S : xS) (p0 : Nat) (i0 : Int) : Option (Int × xS) := g_X5_roots fu 0 S p0 i0 0 0 0
noncomputable def f_X5_alike (fu : Nat) (S : xS) (p0 : Nat) (i0 : Int) : Option (Int × xS) :=
  if isO 4 S p0 = true then
  bd2 (f_X5_isNoRank fu S p0 i0) fun x3 S1 =>
  if wI x3 = 0 then ((rdFp 4 0 S1 p0).bind fun q7 =>
  (rdFi 1 0 S1 q7).bind fun x9 =>
  (rdFp 4 5 S1 p0).bind fun q11 =>
  bd2 (f_X4_setToRank fu S1 q11 x9 i0) fun z14 S12 =>
  (rdFp 4 5 S12 p0).bind fun q16 =>
  bd2 (f_X4_ringMark fu S12 q16 x9) fun x19 S17 =>
  (rdFp 4 0 S17 p0).bind fun q21 =>
  (rdFp 1 3 S17 q21).bind fun q23 =>
  bd2 (f_X4_ringMark fu S17 q23 x9) fun x26 S24 =>
  if wI (xLcmp x19 x26) = 0 then (some (1, S24))
  else (some (0, S24)))
  else (if isO 4 S1 p0 = true then
  bd2 (f_X5_refuseBad fu S1 p0) fun x30 S28 =>
  some (x30, S28) else none) else none
noncomputable def f_X5_even (fu : Nat) (S : xS) (p0 : Nat) : Option (Int × xS) :=
  (rdFp 4 0 S p0).bind fun q2 =>
  (rdFi 1 0 S q2).bind fun x4 =>
  (rdFp 4 0 S p0).bind fun q6 =>
  (rdFp 1 3 S q6).bind fun q8 =>
  (rdFp 4 0 S p0).bind fun q10 =>
  (rdFi 1 0 S q10).bind fun x12 =>
  bd2 (f_X4_ringCount fu S q8 x12) fun x15 S13 =>
  nmx (x4 - x15) fun x16 =>
  if wI 2 = 0 then none else
  if wI ((wI x16).tmod (wI 2)) = 0 then (some (1, S13))
  else (some (0, S13))
noncomputable def f_X5_move (fu : Nat) (S : xS) (p0 : Nat) (i0 : Int) : Option (Int × xS) :=
  if isO 4 S p0 = true then
  bd2 (f_X5_isNoRank fu S p0 i0) fun x3 S1 =>
  if wI x3 = 0 then ((rdFp 4 0 S1 p0).bind fun q7 =>
  (rdFi 1 9 S1 q7).bind fun x9 =>
  if wI x9 < wI 4 then ((rdFp 4 0 S1 p0).bind fun q12 =>
  if isO 1 S1 q12 = true then
  bd2 (f_X1_addMove fu S1 q12 i0) fun x15 S13 =>
  some (x15, S13) else none)
  else (if isO 4 S1 p0 = true then
  bd2 (f_X5_refuseFull fu S1 p0) fun x19 S17 =>
  some (x19, S17) else none))
  else (if isO 4 S1 p0 = true then
  bd2 (f_X5_refuseBad fu S1 p0) fun x23 S21 =>
  some (x23, S21) else none) else none
noncomputable def f_X5_drop (fu : Nat) (S : xS) (p0 : Nat) : Option (Int × xS) :=
  (rdFp 4 0 S p0).bind fun q2 =>
  (rdFi 1 9 S q2).bind fun x4 =>
  if wI x4 = 0 then (if isO 4 S p0 = true then
  bd2 (f_X5_refuseNo fu S p0) fun x18 S16 =>
  some (x18, S16) else none)
  else ((rdFp 4 0 S p0).bind fun q7 =>
  (rdFi 1 9 S q7).bind fun x9 =>
  (wrF 1 9 S q7 (.inl (x9 - 1))).bind fun S11 =>
  (rdFp 4 0 S11 p0).bind fun q13 =>
  (rdFi 1 9 S11 q13).bind fun x15 =>
  some (x15, S11))
noncomputable def b_X5_make_0 (rc : Nat → xS → Nat → Int → Option (Int × xS)) (fu : Nat) (S : xS) (p0 : Nat) (i0 : Int) : Option (Int × xS) :=
  if wI i0 < 0 then (rc 1 S p0 0)
  else ((rdFp 4 0 S p0).bind fun q3 =>
  (rdFi 1 9 S q3).bind fun x5 =>
  if wI i0 < wI x5 then ((rdFp 4 0 S p0).bind fun q8 =>
  (rdFp 4 5 S p0).bind fun q10 =>
  if isO 1 S q8 = true then
  bd2 (f_X1_makeMove fu S q8 i0 q10) fun z13 S11 =>
  (rdFp 4 0 S11 p0).bind fun q16 =>
  if isO 1 S11 q16 = true then
  bd2 (f_X1_rankNow fu S11 q16) fun x19 S17 =>
  some (x19, S17) else none else none)
  else (rc 1 S p0 0))
noncomputable def b_X5_make_1 (rc : Nat → xS → Nat → Int → Option (Int × xS)) (fu : Nat) (S : xS) (p0 : Nat) (i0 : Int) : Option (Int × xS) :=
  if isO 4 S p0 = true then
  bd2 (f_X5_refuseBad fu S p0) fun x23 S21 =>
  some (x23, S21) else none
noncomputable def s_X5_make (rc : Nat → xS → Nat → Int → Option (Int × xS)) (fu lb : Nat) (S : xS) (p0 : Nat) (i0 : Int) : Option (Int × xS) := match lb with
    | 0 => b_X5_make_0 rc fu S p0 i0
    | _ => b_X5_make_1 rc fu S p0 i0
noncomputable def g_X5_make (k : Nat) : Nat → xS → Nat → Int → Option (Int × xS) := Nat.rec (motive := fun _ => Nat → xS → Nat → Int → Option (Int × xS)) (fun _ _ _ _ => none) (fun fu rc => s_X5_make rc fu) k
noncomputable def f_X5_make (fu : Nat) (S : xS) (p0 : Nat) (i0 : Int) : Option (Int × xS) := g_X5_make fu 0 S p0 i0
noncomputable def b_X5_reachNow_0 (rc : Nat → xS → Nat → Option (Nat × xS)) (fu : Nat) (S : xS) (p0 : Nat) : Option (Nat × xS) :=
  onP (rdFr 4 7 S p0) (nmx (S ++ [.inr (.inr (0, xNew_X0))]) fun S3 =>
  bd2 (f_X0_init fu S3 S.length) fun z6 S4 =>
  (wrF 4 7 S4 p0 (.inr (.inr (some S.length)))).bind fun S8 =>
  rc 1 S8 p0) fun q2 =>
  rc 1 S p0
noncomputable def b_X5_reachNow_1 (rc : Nat → xS → Nat → Option (Nat × xS)) (fu : Nat) (S : xS) (p0 : Nat) : Option (Nat × xS) :=
  onP (rdFr 4 7 S p0) ((rdFp 4 0 S p0).bind fun q12 =>
  none) fun q10 =>
  (rdFp 4 0 S p0).bind fun q14 =>
  if isO 0 S q10 = true then
  bd2 (f_X0_spreadFrom fu S q10 q14) fun z17 S15 =>
  onP (rdFr 4 7 S15 p0) (none) fun q20 =>
  some (q20, S15) else none
noncomputable def s_X5_reachNow (rc : Nat → xS → Nat → Option (Nat × xS)) (fu lb : Nat) (S : xS) (p0 : Nat) : Option (Nat × xS) := match lb with
    | 0 => b_X5_reachNow_0 rc fu S p0
    | _ => b_X5_reachNow_1 rc fu S p0
noncomputable def g_X5_reachNow (k : Nat) : Nat → xS → Nat → Option (Nat × xS) := Nat.rec (motive := fun _ => Nat → xS → Nat → Option (Nat × xS)) (fun _ _ _ => none) (fun fu rc => s_X5_reachNow rc fu) k
noncomputable def f_X5_reachNow (fu : Nat) (S : xS) (p0 : Nat) : Option (Nat × xS) := g_X5_reachNow fu 0 S p0
noncomputable def f_X5_group (fu : Nat) (S : xS) (p0 : Nat) : Option (Int × xS) :=
  if isO 4 S p0 = true then
  bd2 (f_X5_reachNow fu S p0) fun q3 S1 =>
  (rdFi 0 1 S1 q3).bind fun x6 =>
  some (x6, S1) else none
noncomputable def b_X5_fewest_0 (rc : Nat → xS → Nat → Int → Int → Option (Int × xS)) (fu : Nat) (S : xS) (p0 : Nat) (i0 i1 : Int) : Option (Int × xS) :=
  if isO 4 S p0 = true then
  bd2 (f_X5_isNoRank fu S p0 i0) fun x3 S1 =>
  if wI x3 = 0 then (if wI ((-1)) ≤ wI i1 then (if isO 4 S1 p0 = true then
  bd2 (f_X5_reachNow fu S1 p0) fun q9 S7 =>
  if isO 0 S7 q9 = true then
  bd2 (f_X0_moveTo fu S7 q9 i0 i1) fun x13 S11 =>
  some (x13, S11) else none else none)
  else (rc 1 S1 p0 0 0))
  else (rc 1 S1 p0 0 0) else none
noncomputable def b_X5_fewest_1 (rc : Nat → xS → Nat → Int → Int → Option (Int × xS)) (fu : Nat) (S : xS) (p0 : Nat) (i0 i1 : Int) : Option (Int × xS) :=
  if isO 4 S p0 = true then
  bd2 (f_X5_refuseQuestion fu S p0) fun x17 S15 =>
  some (x17, S15) else none
noncomputable def s_X5_fewest (rc : Nat → xS → Nat → Int → Int → Option (Int × xS)) (fu lb : Nat) (S : xS) (p0 : Nat) (i0 i1 : Int) : Option (Int × xS) := match lb with
    | 0 => b_X5_fewest_0 rc fu S p0 i0 i1
    | _ => b_X5_fewest_1 rc fu S p0 i0 i1
noncomputable def g_X5_fewest (k : Nat) : Nat → xS → Nat → Int → Int → Option (Int × xS) := Nat.rec (motive := fun _ => Nat → xS → Nat → Int → Int → Option (Int × xS)) (fun _ _ _ _ _ => none) (fun fu rc => s_X5_fewest rc fu) k
noncomputable def f_X5_fewest (fu : Nat) (S : xS) (p0 : Nat) (i0 : Int) (i1 : Int) : Option (Int × xS) := g_X5_fewest fu 0 S p0 i0 i1
noncomputable def b_X5_doTheseFind_0 (rc : Nat → xS → Nat → Nat → Int → Int → Option (Int × xS)) (fu : Nat) (S : xS) (p0 p1 : Nat) (i0 i1 : Int) : Option (Int × xS) :=
  rc 1 S p0 p1 i0 0
noncomputable def b_X5_doTheseFind_1 (rc : Nat → xS → Nat → Nat → Int → Int → Option (Int × xS)) (fu : Nat) (S : xS) (p0 p1 : Nat) (i0 i1 : Int) : Option (Int × xS) :=
  (rdFp 4 0 S p0).bind fun q2 =>
  (rdFi 1 0 S q2).bind fun x4 =>
  if wI x4 ≤ wI i1 then (some (1, S))
  else (if wI (xAnd (xShr i0 i1) 1) = wI 1 then ((rdFp 4 0 S p0).bind fun q8 =>
  (rdFp 1 5 S q8).bind fun q10 =>
  (rdA 0 S q10 i1).bind fun x11 =>
  if isO 4 S p0 = true then
  bd2 (f_X5_doesFind fu S p0 p1 i1 x11) fun x15 S13 =>
  if wI x15 = 0 then (some (0, S13))
  else (rc 2 S13 p0 p1 i0 i1) else none)
  else (rc 2 S p0 p1 i0 i1))
noncomputable def b_X5_doTheseFind_2 (rc : Nat → xS → Nat → Nat → Int → Int → Option (Int × xS)) (fu : Nat) (S : xS) (p0 p1 : Nat) (i0 i1 : Int) : Option (Int × xS) :=
  nmx (i1 + 1) fun x18 =>
  rc 1 S p0 p1 i0 x18
noncomputable def s_X5_doTheseFind (rc : Nat → xS → Nat → Nat → Int → Int → Option (Int × xS)) (fu lb : Nat) (S : xS) (p0 p1 : Nat) (i0 i1 : Int) : Option (Int × xS) := match lb with
    | 0 => b_X5_doTheseFind_0 rc fu S p0 p1 i0 i1
    | 1 => b_X5_doTheseFind_1 rc fu S p0 p1 i0 i1
    | _ => b_X5_doTheseFind_2 rc fu S p0 p1 i0 i1
noncomputable def g_X5_doTheseFind (k : Nat) : Nat → xS → Nat → Nat → Int → Int → Option (Int × xS) := Nat.rec (motive := fun _ => Nat → xS → Nat → Nat → Int → Int → Option (Int × xS)) (fun _ _ _ _ _ _ => none) (fun fu rc => s_X5_doTheseFind rc fu) k
noncomputable def f_X5_doTheseFind (fu : Nat) (S : xS) (p0 : Nat) (p1 : Nat) (i0 : Int) : Option (Int × xS) := g_X5_doTheseFind fu 0 S p0 p1 i0 0
noncomputable def f_X5_doAllFind (fu : Nat) (S : xS) (p0 : Nat) (p1 : Nat) : Option (Int × xS) :=
  (rdFp 4 0 S p0).bind fun q2 =>
  (rdFi 1 0 S q2).bind fun x4 =>
  if isO 4 S p0 = true then
  bd2 (f_X5_doTheseFind fu S p0 p1 ((xShl 1 x4) - 1)) fun x7 S5 =>
  if x7 = 0 ∨ x7 = 1 then some (x7, S5) else none else none
noncomputable def b_X5_till_0 (rc : Nat → xS → Nat → Nat → Int → Int → Option (Int × xS)) (fu : Nat) (S : xS) (p0 p1 : Nat) (i0 i1 : Int) : Option (Int × xS) :=
  if wI ((-1)) ≤ wI i0 then (if isO 4 S p0 = true then
  bd2 (f_X5_reachNow fu S p0) fun q4 S2 =>
  rc 1 S2 p0 q4 i0 0 else none)
  else (if isO 4 S p0 = true then
  bd2 (f_X5_refuseQuestion fu S p0) fun x8 S6 =>
  some (x8, S6) else none)
noncomputable def b_X5_till_1 (rc : Nat → xS → Nat → Nat → Int → Int → Option (Int × xS)) (fu : Nat) (S : xS) (p0 p1 : Nat) (i0 i1 : Int) : Option (Int × xS) :=
  (rdFi 0 1 S p1).bind fun x11 =>
  if wI x11 ≤ wI i1 then (some ((-1), S))
  else ((rdFp 0 0 S p1).bind fun q14 =>
  (rdA 0 S q14 i1).bind fun x15 =>
  (rdFp 4 5 S p0).bind fun q18 =>
  (rdFp 4 0 S p0).bind fun q20 =>
  (rdFi 1 0 S q20).bind fun x22 =>
  bd2 (f_X4_setToRank fu S q18 x22 x15) fun z25 S23 =>
  (rdFp 4 5 S23 p0).bind fun q27 =>
  if isO 4 S23 p0 = true then
  bd2 (f_X5_doAllFind fu S23 p0 q27) fun x30 S28 =>
  if wI x30 = 0 then (nmx (i1 + 1) fun x33 =>
  rc 1 S28 p0 p1 i0 x33)
  else (if isO 0 S28 p1 = true then
  bd2 (f_X0_moveTo fu S28 p1 x15 i0) fun x37 S35 =>
  some (x37, S35) else none) else none)
noncomputable def s_X5_till (rc : Nat → xS → Nat → Nat → Int → Int → Option (Int × xS)) (fu lb : Nat) (S : xS) (p0 p1 : Nat) (i0 i1 : Int) : Option (Int × xS) := match lb with
    | 0 => b_X5_till_0 rc fu S p0 p1 i0 i1
    | _ => b_X5_till_1 rc fu S p0 p1 i0 i1
noncomputable def g_X5_till (k : Nat) : Nat → xS → Nat → Nat → Int → Int → Option (Int × xS) := Nat.rec (motive := fun _ => Nat → xS → Nat → Nat → Int → Int → Option (Int × xS)) (fun _ _ _ _ _ _ => none) (fun fu rc => s_X5_till rc fu) k
noncomputable def f_X5_till (fu : Nat) (S : xS) (p0 : Nat) (i0 : Int) : Option (Int × xS) := g_X5_till fu 0 S p0 0 i0 0
noncomputable def b_X5_mayTrialBe_0 (rc : Nat → xS → Nat → Int → Int → Option (Int × xS)) (fu : Nat) (S : xS) (p0 : Nat) (i0 i1 : Int) : Option (Int × xS) :=
  rc 1 S p0 0 0
noncomputable def b_X5_mayTrialBe_1 (rc : Nat → xS → Nat → Int → Int → Option (Int × xS)) (fu : Nat) (S : xS) (p0 : Nat) (i0 i1 : Int) : Option (Int × xS) :=
  (rdFp 4 0 S p0).bind fun q2 =>
  (rdFi 1 0 S q2).bind fun x4 =>
  if wI x4 ≤ wI i0 then (rc 3 S p0 0 0)
  else ((rdFp 4 0 S p0).bind fun q7 =>
  (rdFp 1 4 S q7).bind fun q9 =>
  (rdA 0 S q9 i0).bind fun x10 =>
  if wI x10 = wI ((-1)) then (rc 2 S p0 i0 0)
  else ((rdFp 4 0 S p0).bind fun q14 =>
  (rdFp 1 4 S q14).bind fun q16 =>
  (rdA 0 S q16 i0).bind fun x17 =>
  (rdFp 4 5 S p0).bind fun q20 =>
  (rdA 0 S q20 i0).bind fun x21 =>
  if wI x17 = wI x21 then (rc 2 S p0 i0 0)
  else (some (0, S))))
noncomputable def b_X5_mayTrialBe_2 (rc : Nat → xS → Nat → Int → Int → Option (Int × xS)) (fu : Nat) (S : xS) (p0 : Nat) (i0 i1 : Int) : Option (Int × xS) :=
  nmx (i0 + 1) fun x24 =>
  rc 1 S p0 x24 0
noncomputable def b_X5_mayTrialBe_3 (rc : Nat → xS → Nat → Int → Int → Option (Int × xS)) (fu : Nat) (S : xS) (p0 : Nat) (i0 i1 : Int) : Option (Int × xS) :=
  (rdFp 4 0 S p0).bind fun q27 =>
  (rdFi 1 6 S q27).bind fun x29 =>
  if wI x29 ≤ wI i0 then (some (1, S))
  else ((rdFp 4 0 S p0).bind fun q32 =>
  (rdFp 1 7 S q32).bind fun q34 =>
  (rdA 0 S q34 i0).bind fun x35 =>
  (rdFp 4 4 S p0).bind fun q38 =>
  (rdFp 4 0 S p0).bind fun q40 =>
  (rdFp 4 5 S p0).bind fun q42 =>
  (rdFp 4 0 S p0).bind fun q44 =>
  (rdFp 1 5 S q44).bind fun q46 =>
  (rdA 0 S q46 x35).bind fun x47 =>
  if isO 2 S q38 = true then
  bd2 (f_X2_seek fu S q38 q40 q42 x35 x47) fun z51 S49 =>
  (rdFp 4 4 S49 p0).bind fun q54 =>
  (rdFi 2 2 S49 q54).bind fun x56 =>
  if wI x56 = 0 then (rc 4 S49 p0 i0 0)
  else ((rdFp 4 4 S49 p0).bind fun q59 =>
  (rdFi 2 1 S49 q59).bind fun x61 =>
  rc 4 S49 p0 i0 x61) else none)
noncomputable def b_X5_mayTrialBe_4 (rc : Nat → xS → Nat → Int → Int → Option (Int × xS)) (fu : Nat) (S : xS) (p0 : Nat) (i0 i1 : Int) : Option (Int × xS) :=
  (rdFp 4 0 S p0).bind fun q63 =>
  (rdFp 1 8 S q63).bind fun q65 =>
  (rdA 0 S q65 i0).bind fun x66 =>
  if wI i1 = wI x66 then (nmx (i0 + 1) fun x69 =>
  rc 3 S p0 x69 0)
  else (some (0, S))
noncomputable def s_X5_mayTrialBe (rc : Nat → xS → Nat → Int → Int → Option (Int × xS)) (fu lb : Nat) (S : xS) (p0 : Nat) (i0 i1 : Int) : Option (Int × xS) := match lb with
    | 0 => b_X5_mayTrialBe_0 rc fu S p0 i0 i1
    | 1 => b_X5_mayTrialBe_1 rc fu S p0 i0 i1
    | 2 => b_X5_mayTrialBe_2 rc fu S p0 i0 i1
    | 3 => b_X5_mayTrialBe_3 rc fu S p0 i0 i1
    | _ => b_X5_mayTrialBe_4 rc fu S p0 i0 i1
noncomputable def g_X5_mayTrialBe (k : Nat) : Nat → xS → Nat → Int → Int → Option (Int × xS) := Nat.rec (motive := fun _ => Nat → xS → Nat → Int → Int → Option (Int × xS)) (fun _ _ _ _ _ => none) (fun fu rc => s_X5_mayTrialBe rc fu) k
noncomputable def f_X5_mayTrialBe (fu : Nat) (S : xS) (p0 : Nat) : Option (Int × xS) := g_X5_mayTrialBe fu 0 S p0 0 0
noncomputable def b_X5_mayBe_0 (rc : Nat → xS → Nat → Int → Int → Int → Int → Option (Int × xS)) (fu : Nat) (S : xS) (p0 : Nat) (i0 i1 i2 i3 : Int) : Option (Int × xS) :=
  if wI ((-1)) ≤ wI i0 then ((rdFp 4 0 S p0).bind fun q3 =>
  (rdFi 1 0 S q3).bind fun x5 =>
  (rdFp 4 5 S p0).bind fun q7 =>
  bd2 (f_X4_setToFirst fu S q7 x5) fun z10 S8 =>
  rc 1 S8 p0 i0 x5 0 0)
  else (if isO 4 S p0 = true then
  bd2 (f_X5_refuseQuestion fu S p0) fun x13 S11 =>
  some (x13, S11) else none)
noncomputable def b_X5_mayBe_1 (rc : Nat → xS → Nat → Int → Int → Int → Int → Option (Int × xS)) (fu : Nat) (S : xS) (p0 : Nat) (i0 i1 i2 i3 : Int) : Option (Int × xS) :=
  (rdT i1).bind fun x15 =>
  if wI x15 ≤ wI i3 then (if wI i0 = wI ((-1)) then (some (i2, S))
  else (some ((-5), S)))
  else (if isO 4 S p0 = true then
  bd2 (f_X5_mayTrialBe fu S p0) fun x21 S19 =>
  if wI x21 = 0 then (rc 2 S19 p0 i0 i1 i2 i3)
  else (if wI i2 = wI i0 then (some (i3, S19))
  else (nmx (i2 + 1) fun x25 =>
  rc 2 S19 p0 i0 i1 x25 i3)) else none)
noncomputable def b_X5_mayBe_2 (rc : Nat → xS → Nat → Int → Int → Int → Int → Option (Int × xS)) (fu : Nat) (S : xS) (p0 : Nat) (i0 i1 i2 i3 : Int) : Option (Int × xS) :=
  (rdFp 4 5 S p0).bind fun q28 =>
  bd2 (f_X4_setToNext fu S q28 i1) fun z31 S29 =>
  nmx (i3 + 1) fun x32 =>
  rc 1 S29 p0 i0 i1 i2 x32
noncomputable def s_X5_mayBe (rc : Nat → xS → Nat → Int → Int → Int → Int → Option (Int × xS)) (fu lb : Nat) (S : xS) (p0 : Nat) (i0 i1 i2 i3 : Int) : Option (Int × xS) := match lb with
    | 0 => b_X5_mayBe_0 rc fu S p0 i0 i1 i2 i3
    | 1 => b_X5_mayBe_1 rc fu S p0 i0 i1 i2 i3
    | _ => b_X5_mayBe_2 rc fu S p0 i0 i1 i2 i3
noncomputable def g_X5_mayBe (k : Nat) : Nat → xS → Nat → Int → Int → Int → Int → Option (Int × xS) := Nat.rec (motive := fun _ => Nat → xS → Nat → Int → Int → Int → Int → Option (Int × xS)) (fun _ _ _ _ _ _ _ => none) (fun fu rc => s_X5_mayBe rc fu) k
noncomputable def f_X5_mayBe (fu : Nat) (S : xS) (p0 : Nat) (i0 : Int) : Option (Int × xS) := g_X5_mayBe fu 0 S p0 i0 0 0 0
noncomputable def f_X5_setFraction (fu : Nat) (S : xS) (p0 : Nat) (i0 : Int) (i1 : Int) : Option (Int × xS) :=
  bd2 (f_X5_commonDivisor fu S i0 i1) fun x3 S1 =>
  if wL x3 = 0 then none else
  (wrF 4 8 S1 p0 (.inr (.inl ((wL i0).tdiv (wL x3))))).bind fun S6 =>
  if wL x3 = 0 then none else
  (wrF 4 9 S6 p0 (.inr (.inl ((wL i1).tdiv (wL x3))))).bind fun S9 =>
  some ((0 : Int), S9)
noncomputable def b_X5_chance_0 (rc : Nat → xS → Nat → Int → Int → Int → Int → Int → Int → Option (Int × xS)) (fu : Nat) (S : xS) (p0 : Nat) (i0 i1 i2 i3 i4 i5 : Int) : Option (Int × xS) :=
  (rdFp 4 0 S p0).bind fun q2 =>
  (rdFi 1 0 S q2).bind fun x4 =>
  if wI i0 < 0 then (rc 1 S p0 0 0 0 0 0 0)
  else (if wI i0 < wI (xShl 1 x4) then ((rdFp 4 5 S p0).bind fun q8 =>
  bd2 (f_X4_setToFirst fu S q8 x4) fun z11 S9 =>
  rc 2 S9 p0 i0 x4 0 0 0 0)
  else (rc 1 S p0 0 0 0 0 0 0))
noncomputable def b_X5_chance_1 (rc : Nat → xS → Nat → Int → Int → Int → Int → Int → Int → Option (Int × xS)) (fu : Nat) (S : xS) (p0 : Nat) (i0 i1 i2 i3 i4 i5 : Int) : Option (Int × xS) :=
  if isO 4 S p0 = true then
  bd2 (f_X5_refuseBad fu S p0) fun x14 S12 =>
  some (x14, S12) else none
noncomputable def b_X5_chance_2 (rc : Nat → xS → Nat → Int → Int → Int → Int → Int → Int → Option (Int × xS)) (fu : Nat) (S : xS) (p0 : Nat) (i0 i1 i2 i3 i4 i5 : Int) : Option (Int × xS) :=
  (rdT i1).bind fun x16 =>
  if wI x16 ≤ wI i4 then (if wI i2 = 0 then (if isO 4 S p0 = true then
  bd2 (f_X5_refuseNo fu S p0) fun x26 S24 =>
  some (x26, S24) else none)
  else (if isO 4 S p0 = true then
  bd2 (f_X5_setFraction fu S p0 (wI i3) (wI i2)) fun z22 S20 =>
  some (1, S20) else none))
  else (if isO 4 S p0 = true then
  bd2 (f_X5_mayTrialBe fu S p0) fun x30 S28 =>
  if wI x30 = 0 then (rc 4 S28 p0 i0 i1 i2 i3 i4 0)
  else (nmx (i2 + 1) fun x33 =>
  (rdFp 4 5 S28 p0).bind fun q36 =>
  if isO 4 S28 p0 = true then
  bd2 (f_X5_doTheseFind fu S28 p0 q36 i0) fun x39 S37 =>
  if wI x39 = 0 then (rc 3 S37 p0 i0 i1 x33 i4 i3 0)
  else (rc 3 S37 p0 i0 i1 x33 i4 i3 1) else none) else none)
noncomputable def b_X5_chance_3 (rc : Nat → xS → Nat → Int → Int → Int → Int → Int → Int → Option (Int × xS)) (fu : Nat) (S : xS) (p0 : Nat) (i0 i1 i2 i3 i4 i5 : Int) : Option (Int × xS) :=
  nmx (i4 + i5) fun x42 =>
  rc 4 S p0 i0 i1 i2 x42 i3 0
noncomputable def b_X5_chance_4 (rc : Nat → xS → Nat → Int → Int → Int → Int → Int → Int → Option (Int × xS)) (fu : Nat) (S : xS) (p0 : Nat) (i0 i1 i2 i3 i4 i5 : Int) : Option (Int × xS) :=
  (rdFp 4 5 S p0).bind fun q45 =>
  bd2 (f_X4_setToNext fu S q45 i1) fun z48 S46 =>
  nmx (i4 + 1) fun x49 =>
  rc 2 S46 p0 i0 i1 i2 i3 x49 0
noncomputable def s_X5_chance (rc : Nat → xS → Nat → Int → Int → Int → Int → Int → Int → Option (Int × xS)) (fu lb : Nat) (S : xS) (p0 : Nat) (i0 i1 i2 i3 i4 i5 : Int) : Option (Int × xS) := match lb with
    | 0 => b_X5_chance_0 rc fu S p0 i0 i1 i2 i3 i4 i5
    | 1 => b_X5_chance_1 rc fu S p0 i0 i1 i2 i3 i4 i5
    | 2 => b_X5_chance_2 rc fu S p0 i0 i1 i2 i3 i4 i5
    | 3 => b_X5_chance_3 rc fu S p0 i0 i1 i2 i3 i4 i5
    | _ => b_X5_chance_4 rc fu S p0 i0 i1 i2 i3 i4 i5
noncomputable def g_X5_chance (k : Nat) : Nat → xS → Nat → Int → Int → Int → Int → Int → Int → Option (Int × xS) := Nat.rec (motive := fun _ => Nat → xS → Nat → Int → Int → Int → Int → Int → Int → Option (Int × xS)) (fun _ _ _ _ _ _ _ _ _ => none) (fun fu rc => s_X5_chance rc fu) k
noncomputable def f_X5_chance (fu : Nat) (S : xS) (p0 : Nat) (i0 : Int) : Option (Int × xS) := g_X5_chance fu 0 S p0 i0 0 0 0 0 0
noncomputable def b_X5_tallySlips_0 (rc : Nat → xS → Nat → Int → Int → Int → Int → Option (Int × xS)) (fu : Nat) (S : xS) (p0 : Nat) (i0 i1 i2 i3 : Int) : Option (Int × xS) :=
  (rdFp 4 0 S p0).bind fun q2 =>
  (rdFi 1 0 S q2).bind fun x4 =>
  (rdFp 4 6 S p0).bind fun q6 =>
  bd2 (f_J7_fill_53178 fu S q6 0) fun z9 S7 =>
  (rdFp 4 5 S7 p0).bind fun q11 =>
  bd2 (f_X4_setToFirst fu S7 q11 x4) fun z14 S12 =>
  rc 1 S12 p0 x4 0 0 0
noncomputable def b_X5_tallySlips_1 (rc : Nat → xS → Nat → Int → Int → Int → Int → Option (Int × xS)) (fu : Nat) (S : xS) (p0 : Nat) (i0 i1 i2 i3 : Int) : Option (Int × xS) :=
  (rdT i0).bind fun x15 =>
  if wI x15 ≤ wI i2 then (some (i1, S))
  else (if isO 4 S p0 = true then
  bd2 (f_X5_mayTrialBe fu S p0) fun x20 S18 =>
  if wI x20 = 0 then (rc 3 S18 p0 i0 i1 i2 0)
  else (nmx (i1 + 1) fun x23 =>
  rc 2 S18 p0 i0 x23 i2 0) else none)
noncomputable def b_X5_tallySlips_2 (rc : Nat → xS → Nat → Int → Int → Int → Int → Option (Int × xS)) (fu : Nat) (S : xS) (p0 : Nat) (i0 i1 i2 i3 : Int) : Option (Int × xS) :=
  if wI i0 ≤ wI i3 then (rc 3 S p0 i0 i1 i2 0)
  else ((rdFp 4 6 S p0).bind fun q27 =>
  (rdFp 4 5 S p0).bind fun q29 =>
  (rdA 0 S q29 i3).bind fun x30 =>
  (rdA 0 S q27 ((i3 * 7) + x30)).bind fun x32 =>
  (wrA 0 S q27 ((i3 * 7) + x30) (x32 + 1)).bind fun S35 =>
  nmx (i3 + 1) fun x36 =>
  rc 2 S35 p0 i0 i1 i2 x36)
noncomputable def b_X5_tallySlips_3 (rc : Nat → xS → Nat → Int → Int → Int → Int → Option (Int × xS)) (fu : Nat) (S : xS) (p0 : Nat) (i0 i1 i2 i3 : Int) : Option (Int × xS) :=
  (rdFp 4 5 S p0).bind fun q39 =>
  bd2 (f_X4_setToNext fu S q39 i0) fun z42 S40 =>
  nmx (i2 + 1) fun x43 =>
  rc 1 S40 p0 i0 i1 x43 0
noncomputable def s_X5_tallySlips (rc : Nat → xS → Nat → Int → Int → Int → Int → Option (Int × xS)) (fu lb : Nat) (S : xS) (p0 : Nat) (i0 i1 i2 i3 : Int) : Option (Int × xS) := match lb with
    | 0 => b_X5_tallySlips_0 rc fu S p0 i0 i1 i2 i3
    | 1 => b_X5_tallySlips_1 rc fu S p0 i0 i1 i2 i3
    | 2 => b_X5_tallySlips_2 rc fu S p0 i0 i1 i2 i3
    | _ => b_X5_tallySlips_3 rc fu S p0 i0 i1 i2 i3
noncomputable def g_X5_tallySlips (k : Nat) : Nat → xS → Nat → Int → Int → Int → Int → Option (Int × xS) := Nat.rec (motive := fun _ => Nat → xS → Nat → Int → Int → Int → Int → Option (Int × xS)) (fun _ _ _ _ _ _ _ => none) (fun fu rc => s_X5_tallySlips rc fu) k
noncomputable def f_X5_tallySlips (fu : Nat) (S : xS) (p0 : Nat) : Option (Int × xS) := g_X5_tallySlips fu 0 S p0 0 0 0 0
noncomputable def b_X5_sumOfSquares_0 (rc : Nat → xS → Nat → Int → Int → Int → Option (Int × xS)) (fu : Nat) (S : xS) (p0 : Nat) (i0 i1 i2 : Int) : Option (Int × xS) :=
  rc 1 S p0 i0 0 0
noncomputable def b_X5_sumOfSquares_1 (rc : Nat → xS → Nat → Int → Int → Int → Option (Int × xS)) (fu : Nat) (S : xS) (p0 : Nat) (i0 i1 i2 : Int) : Option (Int × xS) :=
  (rdFp 4 0 S p0).bind fun q2 =>
  (rdFi 1 0 S q2).bind fun x4 =>
  if wI x4 ≤ wI i2 then (some (i1, S))
  else ((rdFp 4 6 S p0).bind fun q7 =>
  (rdA 0 S q7 ((i0 * 7) + i2)).bind fun x8 =>
  nmx (wI x8) fun x10 =>
  nmx (i1 + (x10 * x10)) fun x12 =>
  nmx (i2 + 1) fun x14 =>
  rc 1 S p0 i0 x12 x14)
noncomputable def s_X5_sumOfSquares (rc : Nat → xS → Nat → Int → Int → Int → Option (Int × xS)) (fu lb : Nat) (S : xS) (p0 : Nat) (i0 i1 i2 : Int) : Option (Int × xS) := match lb with
    | 0 => b_X5_sumOfSquares_0 rc fu S p0 i0 i1 i2
    | _ => b_X5_sumOfSquares_1 rc fu S p0 i0 i1 i2
noncomputable def g_X5_sumOfSquares (k : Nat) : Nat → xS → Nat → Int → Int → Int → Option (Int × xS) := Nat.rec (motive := fun _ => Nat → xS → Nat → Int → Int → Int → Option (Int × xS)) (fun _ _ _ _ _ _ => none) (fun fu rc => s_X5_sumOfSquares rc fu) k
noncomputable def f_X5_sumOfSquares (fu : Nat) (S : xS) (p0 : Nat) (i0 : Int) : Option (Int × xS) := g_X5_sumOfSquares fu 0 S p0 i0 0 0
noncomputable def b_X5_look_0 (rc : Nat → xS → Nat → Int → Int → Int → Int → Option (Int × xS)) (fu : Nat) (S : xS) (p0 : Nat) (i0 i1 i2 i3 : Int) : Option (Int × xS) :=
  if isO 4 S p0 = true then
  bd2 (f_X5_tallySlips fu S p0) fun x3 S1 =>
  if wI x3 = 0 then (if isO 4 S1 p0 = true then
  bd2 (f_X5_refuseNo fu S1 p0) fun x8 S6 =>
  some (x8, S6) else none)
  else (rc 1 S1 p0 x3 ((-1)) 0 0) else none
noncomputable def b_X5_look_1 (rc : Nat → xS → Nat → Int → Int → Int → Int → Option (Int × xS)) (fu : Nat) (S : xS) (p0 : Nat) (i0 i1 i2 i3 : Int) : Option (Int × xS) :=
  (rdFp 4 0 S p0).bind fun q11 =>
  (rdFi 1 0 S q11).bind fun x13 =>
  if wI x13 ≤ wI i3 then (if wI i1 = wI ((-1)) then (some (i1, S))
  else (if isO 4 S p0 = true then
  bd2 (f_X5_setFraction fu S p0 i2 (wI i0)) fun z18 S16 =>
  some (i1, S16) else none))
  else ((rdFp 4 0 S p0).bind fun q21 =>
  (rdFp 1 4 S q21).bind fun q23 =>
  (rdA 0 S q23 i3).bind fun x24 =>
  if wI x24 = wI ((-1)) then (if isO 4 S p0 = true then
  bd2 (f_X5_sumOfSquares fu S p0 i3) fun x29 S27 =>
  if wI i1 = wI ((-1)) then (rc 2 S27 p0 i0 i3 x29 0)
  else (if 0 ≤ wI (xLcmp x29 i2) then (rc 3 S27 p0 i0 i1 i2 i3)
  else (rc 2 S27 p0 i0 i3 x29 0)) else none)
  else (rc 3 S p0 i0 i1 i2 i3))
noncomputable def b_X5_look_2 (rc : Nat → xS → Nat → Int → Int → Int → Int → Option (Int × xS)) (fu : Nat) (S : xS) (p0 : Nat) (i0 i1 i2 i3 : Int) : Option (Int × xS) :=
  rc 3 S p0 i0 i1 i2 i1
noncomputable def b_X5_look_3 (rc : Nat → xS → Nat → Int → Int → Int → Int → Option (Int × xS)) (fu : Nat) (S : xS) (p0 : Nat) (i0 i1 i2 i3 : Int) : Option (Int × xS) :=
  nmx (i3 + 1) fun x33 =>
  rc 1 S p0 i0 i1 i2 x33
noncomputable def s_X5_look (rc : Nat → xS → Nat → Int → Int → Int → Int → Option (Int × xS)) (fu lb : Nat) (S : xS) (p0 : Nat) (i0 i1 i2 i3 : Int) : Option (Int × xS) := match lb with
    | 0 => b_X5_look_0 rc fu S p0 i0 i1 i2 i3
    | 1 => b_X5_look_1 rc fu S p0 i0 i1 i2 i3
    | 2 => b_X5_look_2 rc fu S p0 i0 i1 i2 i3
    | _ => b_X5_look_3 rc fu S p0 i0 i1 i2 i3
noncomputable def g_X5_look (k : Nat) : Nat → xS → Nat → Int → Int → Int → Int → Option (Int × xS) := Nat.rec (motive := fun _ => Nat → xS → Nat → Int → Int → Int → Int → Option (Int × xS)) (fun _ _ _ _ _ _ _ => none) (fun fu rc => s_X5_look rc fu) k
noncomputable def f_X5_look (fu : Nat) (S : xS) (p0 : Nat) : Option (Int × xS) := g_X5_look fu 0 S p0 0 0 0 0
noncomputable def b_X5_doAllFindBy_0 (rc : Nat → xS → Nat → Nat → Int → Int → Option (Int × xS)) (fu : Nat) (S : xS) (p0 p1 : Nat) (i0 i1 : Int) : Option (Int × xS) :=
  rc 1 S p0 p1 i0 0
noncomputable def b_X5_doAllFindBy_1 (rc : Nat → xS → Nat → Nat → Int → Int → Option (Int × xS)) (fu : Nat) (S : xS) (p0 p1 : Nat) (i0 i1 : Int) : Option (Int × xS) :=
  (rdFp 4 0 S p0).bind fun q2 =>
  (rdFi 1 0 S q2).bind fun x4 =>
  if wI x4 ≤ wI i1 then (some (1, S))
  else (if isO 4 S p0 = true then
  bd2 (f_X5_doesFind fu S p0 p1 i1 i0) fun x8 S6 =>
  if wI x8 = 0 then (some (0, S6))
  else (nmx (i1 + 1) fun x11 =>
  rc 1 S6 p0 p1 i0 x11) else none)
noncomputable def s_X5_doAllFindBy (rc : Nat → xS → Nat → Nat → Int → Int → Option (Int × xS)) (fu lb : Nat) (S : xS) (p0 p1 : Nat) (i0 i1 : Int) : Option (Int × xS) := match lb with
    | 0 => b_X5_doAllFindBy_0 rc fu S p0 p1 i0 i1
    | _ => b_X5_doAllFindBy_1 rc fu S p0 p1 i0 i1
noncomputable def g_X5_doAllFindBy (k : Nat) : Nat → xS → Nat → Nat → Int → Int → Option (Int × xS) := Nat.rec (motive := fun _ => Nat → xS → Nat → Nat → Int → Int → Option (Int × xS)) (fun _ _ _ _ _ _ => none) (fun fu rc => s_X5_doAllFindBy rc fu) k
noncomputable def f_X5_doAllFindBy (fu : Nat) (S : xS) (p0 : Nat) (p1 : Nat) (i0 : Int) : Option (Int × xS) := g_X5_doAllFindBy fu 0 S p0 p1 i0 0
noncomputable def b_X5_tallyRules_0 (rc : Nat → xS → Nat → Nat → Int → Int → Int → Int → Int → Int → Int → Option (Int × xS)) (fu : Nat) (S : xS) (p0 p1 : Nat) (i0 i1 i2 i3 i4 i5 i6 : Int) : Option (Int × xS) :=
  (rdFp 4 0 S p0).bind fun q2 =>
  (rdFi 1 0 S q2).bind fun x4 =>
  (rdFp 4 6 S p0).bind fun q6 =>
  bd2 (f_J7_fill_53178 fu S q6 0) fun z9 S7 =>
  (rdFp 4 5 S7 p0).bind fun q11 =>
  bd2 (f_X4_setToFirst fu S7 q11 x4) fun z14 S12 =>
  rc 1 S12 p0 0 x4 0 0 0 0 0 0
noncomputable def b_X5_tallyRules_1 (rc : Nat → xS → Nat → Nat → Int → Int → Int → Int → Int → Int → Int → Option (Int × xS)) (fu : Nat) (S : xS) (p0 p1 : Nat) (i0 i1 i2 i3 i4 i5 i6 : Int) : Option (Int × xS) :=
  (rdT i0).bind fun x15 =>
  if wI x15 ≤ wI i2 then (some (i1, S))
  else (if isO 4 S p0 = true then
  bd2 (f_X5_mayTrialBe fu S p0) fun x20 S18 =>
  if wI x20 = 0 then (rc 4 S18 p0 0 i0 i1 i2 0 0 0 0)
  else (nmx (i1 + 1) fun x23 =>
  rc 2 S18 p0 0 i0 x23 i2 0 0 0 0) else none)
noncomputable def b_X5_tallyRules_2 (rc : Nat → xS → Nat → Nat → Int → Int → Int → Int → Int → Int → Int → Option (Int × xS)) (fu : Nat) (S : xS) (p0 p1 : Nat) (i0 i1 i2 i3 i4 i5 i6 : Int) : Option (Int × xS) :=
  if wI 6 ≤ wI i3 then (rc 4 S p0 0 i0 i1 i2 0 0 0 0)
  else ((rdFp 4 6 S p0).bind fun q27 =>
  (rdA 0 S q27 i3).bind fun x28 =>
  (rdFp 4 5 S p0).bind fun q31 =>
  if isO 4 S p0 = true then
  bd2 (f_X5_doAllFindBy fu S p0 q31 i3) fun x34 S32 =>
  if wI x34 = 0 then (rc 3 S32 p0 q27 i0 i1 i2 i3 i3 x28 0)
  else (rc 3 S32 p0 q27 i0 i1 i2 i3 i3 x28 1) else none)
noncomputable def b_X5_tallyRules_3 (rc : Nat → xS → Nat → Nat → Int → Int → Int → Int → Int → Int → Int → Option (Int × xS)) (fu : Nat) (S : xS) (p0 p1 : Nat) (i0 i1 i2 i3 i4 i5 i6 : Int) : Option (Int × xS) :=
  (wrA 0 S p1 i4 (i5 + i6)).bind fun S38 =>
  nmx (i3 + 1) fun x39 =>
  rc 2 S38 p0 0 i0 i1 i2 x39 0 0 0
noncomputable def b_X5_tallyRules_4 (rc : Nat → xS → Nat → Nat → Int → Int → Int → Int → Int → Int → Int → Option (Int × xS)) (fu : Nat) (S : xS) (p0 p1 : Nat) (i0 i1 i2 i3 i4 i5 i6 : Int) : Option (Int × xS) :=
  (rdFp 4 5 S p0).bind fun q42 =>
  bd2 (f_X4_setToNext fu S q42 i0) fun z45 S43 =>
  nmx (i2 + 1) fun x46 =>
  rc 1 S43 p0 0 i0 i1 x46 0 0 0 0
noncomputable def s_X5_tallyRules (rc : Nat → xS → Nat → Nat → Int → Int → Int → Int → Int → Int → Int → Option (Int × xS)) (fu lb : Nat) (S : xS) (p0 p1 : Nat) (i0 i1 i2 i3 i4 i5 i6 : Int) : Option (Int × xS) := match lb with
    | 0 => b_X5_tallyRules_0 rc fu S p0 p1 i0 i1 i2 i3 i4 i5 i6
    | 1 => b_X5_tallyRules_1 rc fu S p0 p1 i0 i1 i2 i3 i4 i5 i6
    | 2 => b_X5_tallyRules_2 rc fu S p0 p1 i0 i1 i2 i3 i4 i5 i6
    | 3 => b_X5_tallyRules_3 rc fu S p0 p1 i0 i1 i2 i3 i4 i5 i6
    | _ => b_X5_tallyRules_4 rc fu S p0 p1 i0 i1 i2 i3 i4 i5 i6
noncomputable def g_X5_tallyRules (k : Nat) : Nat → xS → Nat → Nat → Int → Int → Int → Int → Int → Int → Int → Option (Int × xS) := Nat.rec (motive := fun _ => Nat → xS → Nat → Nat → Int → Int → Int → Int → Int → Int → Int → Option (Int × xS)) (fun _ _ _ _ _ _ _ _ _ _ _ => none) (fun fu rc => s_X5_tallyRules rc fu) k
noncomputable def f_X5_tallyRules (fu : Nat) (S : xS) (p0 : Nat) : Option (Int × xS) := g_X5_tallyRules fu 0 S p0 0 0 0 0 0 0 0 0
noncomputable def b_X5_advice_0 (rc : Nat → xS → Nat → Int → Int → Int → Option (Int × xS)) (fu : Nat) (S : xS) (p0 : Nat) (i0 i1 i2 : Int) : Option (Int × xS) :=
  if isO 4 S p0 = true then
  bd2 (f_X5_tallyRules fu S p0) fun x3 S1 =>
  if wI x3 = 0 then (if isO 4 S1 p0 = true then
  bd2 (f_X5_refuseNo fu S1 p0) fun x8 S6 =>
  some (x8, S6) else none)
  else (rc 1 S1 p0 x3 0 1) else none
noncomputable def b_X5_advice_1 (rc : Nat → xS → Nat → Int → Int → Int → Option (Int × xS)) (fu : Nat) (S : xS) (p0 : Nat) (i0 i1 i2 : Int) : Option (Int × xS) :=
  if wI 6 ≤ wI i2 then ((rdFp 4 6 S p0).bind fun q12 =>
  (rdA 0 S q12 i1).bind fun x13 =>
  if isO 4 S p0 = true then
  bd2 (f_X5_setFraction fu S p0 (wI x13) (wI i0)) fun z17 S15 =>
  some (i1, S15) else none)
  else ((rdFp 4 6 S p0).bind fun q20 =>
  (rdA 0 S q20 i2).bind fun x21 =>
  (rdFp 4 6 S p0).bind fun q24 =>
  (rdA 0 S q24 i1).bind fun x25 =>
  if wI x21 ≤ wI x25 then (rc 2 S p0 i0 i1 i2)
  else (rc 2 S p0 i0 i2 i2))
noncomputable def b_X5_advice_2 (rc : Nat → xS → Nat → Int → Int → Int → Option (Int × xS)) (fu : Nat) (S : xS) (p0 : Nat) (i0 i1 i2 : Int) : Option (Int × xS) :=
  nmx (i2 + 1) fun x28 =>
  rc 1 S p0 i0 i1 x28
noncomputable def s_X5_advice (rc : Nat → xS → Nat → Int → Int → Int → Option (Int × xS)) (fu lb : Nat) (S : xS) (p0 : Nat) (i0 i1 i2 : Int) : Option (Int × xS) := match lb with
    | 0 => b_X5_advice_0 rc fu S p0 i0 i1 i2
    | 1 => b_X5_advice_1 rc fu S p0 i0 i1 i2
    | _ => b_X5_advice_2 rc fu S p0 i0 i1 i2
noncomputable def g_X5_advice (k : Nat) : Nat → xS → Nat → Int → Int → Int → Option (Int × xS) := Nat.rec (motive := fun _ => Nat → xS → Nat → Int → Int → Int → Option (Int × xS)) (fun _ _ _ _ _ _ => none) (fun fu rc => s_X5_advice rc fu) k
noncomputable def f_X5_advice (fu : Nat) (S : xS) (p0 : Nat) : Option (Int × xS) := g_X5_advice fu 0 S p0 0 0 0
noncomputable def b_X5_worst_0 (rc : Nat → xS → Nat → Int → Int → Int → Int → Int → Option (Int × xS)) (fu : Nat) (S : xS) (p0 : Nat) (i0 i1 i2 i3 i4 : Int) : Option (Int × xS) :=
  if wI i0 = 0 then (rc 1 S p0 i0 0 0 0 0)
  else (if wI i0 = wI 1 then (rc 1 S p0 i0 0 0 0 0)
  else (if isO 4 S p0 = true then
  bd2 (f_X5_refuseBad fu S p0) fun x5 S3 =>
  some (x5, S3) else none))
noncomputable def b_X5_worst_1 (rc : Nat → xS → Nat → Int → Int → Int → Int → Int → Option (Int × xS)) (fu : Nat) (S : xS) (p0 : Nat) (i0 i1 i2 i3 i4 : Int) : Option (Int × xS) :=
  (rdFp 4 0 S p0).bind fun q8 =>
  (rdFi 1 0 S q8).bind fun x10 =>
  (rdFp 4 5 S p0).bind fun q12 =>
  bd2 (f_X4_setToFirst fu S q12 x10) fun z15 S13 =>
  rc 2 S13 p0 i0 x10 ((-1)) 0 0
noncomputable def b_X5_worst_2 (rc : Nat → xS → Nat → Int → Int → Int → Int → Int → Option (Int × xS)) (fu : Nat) (S : xS) (p0 : Nat) (i0 i1 i2 i3 i4 : Int) : Option (Int × xS) :=
  (rdT i1).bind fun x16 =>
  if wI x16 ≤ wI i4 then (if wI i2 = wI ((-1)) then (if isO 4 S p0 = true then
  bd2 (f_X5_refuseNo fu S p0) fun x23 S21 =>
  some (x23, S21) else none)
  else (if wI i0 = 0 then (some (i2, S))
  else (some (i3, S))))
  else (if isO 4 S p0 = true then
  bd2 (f_X5_mayTrialBe fu S p0) fun x27 S25 =>
  if wI x27 = 0 then (rc 4 S25 p0 i0 i1 i2 i3 i4)
  else ((rdFp 4 5 S25 p0).bind fun q31 =>
  if isO 4 S25 p0 = true then
  bd2 (f_X5_findersIn fu S25 p0 q31) fun x34 S32 =>
  bd2 (f_J6_bitCount_0f7a4 fu S32 x34) fun x38 S36 =>
  if wI i2 = wI ((-1)) then (rc 3 S36 p0 i0 i1 i4 x38 0)
  else (if wI i3 ≤ wI x38 then (rc 4 S36 p0 i0 i1 i2 i3 i4)
  else (rc 3 S36 p0 i0 i1 i4 x38 0)) else none) else none)
noncomputable def b_X5_worst_3 (rc : Nat → xS → Nat → Int → Int → Int → Int → Int → Option (Int × xS)) (fu : Nat) (S : xS) (p0 : Nat) (i0 i1 i2 i3 i4 : Int) : Option (Int × xS) :=
  rc 4 S p0 i0 i1 i2 i3 i2
noncomputable def b_X5_worst_4 (rc : Nat → xS → Nat → Int → Int → Int → Int → Int → Option (Int × xS)) (fu : Nat) (S : xS) (p0 : Nat) (i0 i1 i2 i3 i4 : Int) : Option (Int × xS) :=
  (rdFp 4 5 S p0).bind fun q42 =>
  bd2 (f_X4_setToNext fu S q42 i1) fun z45 S43 =>
  nmx (i4 + 1) fun x46 =>
  rc 2 S43 p0 i0 i1 i2 i3 x46
noncomputable def s_X5_worst (rc : Nat → xS → Nat → Int → Int → Int → Int → Int → Option (Int × xS)) (fu lb : Nat) (S : xS) (p0 : Nat) (i0 i1 i2 i3 i4 : Int) : Option (Int × xS) := match lb with
    | 0 => b_X5_worst_0 rc fu S p0 i0 i1 i2 i3 i4
    | 1 => b_X5_worst_1 rc fu S p0 i0 i1 i2 i3 i4
    | 2 => b_X5_worst_2 rc fu S p0 i0 i1 i2 i3 i4
    | 3 => b_X5_worst_3 rc fu S p0 i0 i1 i2 i3 i4
    | _ => b_X5_worst_4 rc fu S p0 i0 i1 i2 i3 i4
noncomputable def g_X5_worst (k : Nat) : Nat → xS → Nat → Int → Int → Int → Int → Int → Option (Int × xS) := Nat.rec (motive := fun _ => Nat → xS → Nat → Int → Int → Int → Int → Int → Option (Int × xS)) (fun _ _ _ _ _ _ _ _ => none) (fun fu rc => s_X5_worst rc fu) k
noncomputable def f_X5_worst (fu : Nat) (S : xS) (p0 : Nat) (i0 : Int) : Option (Int × xS) := g_X5_worst fu 0 S p0 i0 0 0 0 0
noncomputable def b_X5_mended_0 (rc : Nat → xS → Nat → Int → Int → Int → Option (Int × xS)) (fu : Nat) (S : xS) (p0 : Nat) (i0 i1 i2 : Int) : Option (Int × xS) :=
  (rdFp 4 0 S p0).bind fun q2 =>
  (rdFi 1 0 S q2).bind fun x4 =>
  (rdFp 4 5 S p0).bind fun q6 =>
  bd2 (f_X4_setToFirst fu S q6 x4) fun z9 S7 =>
  rc 1 S7 p0 x4 ((-1)) 0
noncomputable def b_X5_mended_1 (rc : Nat → xS → Nat → Int → Int → Int → Option (Int × xS)) (fu : Nat) (S : xS) (p0 : Nat) (i0 i1 i2 : Int) : Option (Int × xS) :=
  (rdT i0).bind fun x10 =>
  if wI x10 ≤ wI i2 then (some (i1, S))
  else ((rdFp 4 5 S p0).bind fun q14 =>
  if isO 4 S p0 = true then
  bd2 (f_X5_doAllFind fu S p0 q14) fun x17 S15 =>
  if wI x17 = 0 then (rc 3 S15 p0 i0 i1 i2)
  else ((rdFp 4 0 S15 p0).bind fun q21 =>
  (rdFp 1 3 S15 q21).bind fun q23 =>
  (rdFp 4 5 S15 p0).bind fun q25 =>
  bd2 (f_X4_swapsBetween fu S15 q23 q25 i0) fun x28 S26 =>
  if wI i1 = wI ((-1)) then (rc 2 S26 p0 i0 i2 x28)
  else (if wI i1 ≤ wI x28 then (rc 3 S26 p0 i0 i1 i2)
  else (rc 2 S26 p0 i0 i2 x28))) else none)
noncomputable def b_X5_mended_2 (rc : Nat → xS → Nat → Int → Int → Int → Option (Int × xS)) (fu : Nat) (S : xS) (p0 : Nat) (i0 i1 i2 : Int) : Option (Int × xS) :=
  rc 3 S p0 i0 i2 i1
noncomputable def b_X5_mended_3 (rc : Nat → xS → Nat → Int → Int → Int → Option (Int × xS)) (fu : Nat) (S : xS) (p0 : Nat) (i0 i1 i2 : Int) : Option (Int × xS) :=
  (rdFp 4 5 S p0).bind fun q32 =>
  bd2 (f_X4_setToNext fu S q32 i0) fun z35 S33 =>
  nmx (i2 + 1) fun x36 =>
  rc 1 S33 p0 i0 i1 x36
noncomputable def s_X5_mended (rc : Nat → xS → Nat → Int → Int → Int → Option (Int × xS)) (fu lb : Nat) (S : xS) (p0 : Nat) (i0 i1 i2 : Int) : Option (Int × xS) := match lb with
    | 0 => b_X5_mended_0 rc fu S p0 i0 i1 i2
    | 1 => b_X5_mended_1 rc fu S p0 i0 i1 i2
    | 2 => b_X5_mended_2 rc fu S p0 i0 i1 i2
    | _ => b_X5_mended_3 rc fu S p0 i0 i1 i2
noncomputable def g_X5_mended (k : Nat) : Nat → xS → Nat → Int → Int → Int → Option (Int × xS) := Nat.rec (motive := fun _ => Nat → xS → Nat → Int → Int → Int → Option (Int × xS)) (fun _ _ _ _ _ _ => none) (fun fu rc => s_X5_mended rc fu) k
noncomputable def f_X5_mended (fu : Nat) (S : xS) (p0 : Nat) : Option (Int × xS) := g_X5_mended fu 0 S p0 0 0 0
noncomputable def b_X5_third_0 (rc : Nat → xS → Nat → Int → Int → Int → Int → Int → Int → Option (Int × xS)) (fu : Nat) (S : xS) (p0 : Nat) (i0 i1 i2 i3 i4 i5 : Int) : Option (Int × xS) :=
  if wI i0 = 0 then (rc 1 S p0 i0 0 0 0 0 0)
  else (if wI i0 = wI 1 then (rc 1 S p0 i0 0 0 0 0 0)
  else (if isO 4 S p0 = true then
  bd2 (f_X5_refuseBad fu S p0) fun x5 S3 =>
  some (x5, S3) else none))
noncomputable def b_X5_third_1 (rc : Nat → xS → Nat → Int → Int → Int → Int → Int → Int → Option (Int × xS)) (fu : Nat) (S : xS) (p0 : Nat) (i0 i1 i2 i3 i4 i5 : Int) : Option (Int × xS) :=
  if wI i0 = 0 then (rc 2 S p0 1 0 0 0 0 0)
  else (rc 2 S p0 ((-1)) 0 0 0 0 0)
noncomputable def b_X5_third_2 (rc : Nat → xS → Nat → Int → Int → Int → Int → Int → Int → Option (Int × xS)) (fu : Nat) (S : xS) (p0 : Nat) (i0 i1 i2 i3 i4 i5 : Int) : Option (Int × xS) :=
  (rdFp 4 0 S p0).bind fun q9 =>
  (rdFi 1 0 S q9).bind fun x11 =>
  (rdFp 4 0 S p0).bind fun q13 =>
  (rdFp 1 3 S q13).bind fun q15 =>
  if isO 4 S p0 = true then
  bd2 (f_X5_findersIn fu S p0 q15) fun x18 S16 =>
  bd2 (f_J6_bitCount_0f7a4 fu S16 x18) fun x22 S20 =>
  nmx (i0 * x22) fun x23 =>
  (rdFp 4 0 S20 p0).bind fun q26 =>
  (rdFp 1 3 S20 q26).bind fun q28 =>
  (rdFp 4 5 S20 p0).bind fun q30 =>
  (cpyA S20 q28 0 q30 0 7).bind fun S32 =>
  rc 3 S32 p0 i0 x11 x23 ((-1)) 0 0 else none
noncomputable def b_X5_third_3 (rc : Nat → xS → Nat → Int → Int → Int → Int → Int → Int → Option (Int × xS)) (fu : Nat) (S : xS) (p0 : Nat) (i0 i1 i2 i3 i4 i5 : Int) : Option (Int × xS) :=
  if wI i1 ≤ wI i4 then (some (i3, S))
  else (nmx (i4 + 1) fun x34 =>
  rc 4 S p0 i0 i1 i2 i3 i4 x34)
noncomputable def b_X5_third_4 (rc : Nat → xS → Nat → Int → Int → Int → Int → Int → Int → Option (Int × xS)) (fu : Nat) (S : xS) (p0 : Nat) (i0 i1 i2 i3 i4 i5 : Int) : Option (Int × xS) :=
  if wI i1 ≤ wI i5 then (nmx (i4 + 1) fun x37 =>
  rc 3 S p0 i0 i1 i2 i3 x37 0)
  else ((rdFp 4 5 S p0).bind fun q40 =>
  bd2 (f_X4_exchange fu S q40 i4 i5) fun z43 S41 =>
  (rdFp 4 5 S41 p0).bind fun q45 =>
  if isO 4 S41 p0 = true then
  bd2 (f_X5_findersIn fu S41 p0 q45) fun x48 S46 =>
  bd2 (f_J6_bitCount_0f7a4 fu S46 x48) fun x52 S50 =>
  nmx (i0 * x52) fun x53 =>
  (rdFp 4 5 S50 p0).bind fun q56 =>
  bd2 (f_X4_exchange fu S50 q56 i4 i5) fun z59 S57 =>
  if wI x53 ≤ wI i2 then (rc 5 S57 p0 i0 i1 i2 i3 i4 i5)
  else (nmx ((10 * i4) + i5) fun x61 =>
  rc 5 S57 p0 i0 i1 x53 x61 i4 i5) else none)
noncomputable def b_X5_third_5 (rc : Nat → xS → Nat → Int → Int → Int → Int → Int → Int → Option (Int × xS)) (fu : Nat) (S : xS) (p0 : Nat) (i0 i1 i2 i3 i4 i5 : Int) : Option (Int × xS) :=
  nmx (i5 + 1) fun x63 =>
  rc 4 S p0 i0 i1 i2 i3 i4 x63
noncomputable def s_X5_third (rc : Nat → xS → Nat → Int → Int → Int → Int → Int → Int → Option (Int × xS)) (fu lb : Nat) (S : xS) (p0 : Nat) (i0 i1 i2 i3 i4 i5 : Int) : Option (Int × xS) := match lb with
    | 0 => b_X5_third_0 rc fu S p0 i0 i1 i2 i3 i4 i5
    | 1 => b_X5_third_1 rc fu S p0 i0 i1 i2 i3 i4 i5
    | 2 => b_X5_third_2 rc fu S p0 i0 i1 i2 i3 i4 i5
    | 3 => b_X5_third_3 rc fu S p0 i0 i1 i2 i3 i4 i5
    | 4 => b_X5_third_4 rc fu S p0 i0 i1 i2 i3 i4 i5
    | _ => b_X5_third_5 rc fu S p0 i0 i1 i2 i3 i4 i5
noncomputable def g_X5_third (k : Nat) : Nat → xS → Nat → Int → Int → Int → Int → Int → Int → Option (Int × xS) := Nat.rec (motive := fun _ => Nat → xS → Nat → Int → Int → Int → Int → Int → Int → Option (Int × xS)) (fun _ _ _ _ _ _ _ _ _ => none) (fun fu rc => s_X5_third rc fu) k
noncomputable def f_X5_third (fu : Nat) (S : xS) (p0 : Nat) (i0 : Int) : Option (Int × xS) := g_X5_third fu 0 S p0 i0 0 0 0 0 0
noncomputable def b_X5_laid_0 (rc : Nat → xS → Nat → Int → Option (Int × xS)) (fu : Nat) (S : xS) (p0 : Nat) (i0 : Int) : Option (Int × xS) :=
  if wI i0 < 0 then (rc 1 S p0 0)
  else (if wI i0 ≤ wI 999999 then ((rdFp 4 5 S p0).bind fun q4 =>
  (rdFp 4 0 S p0).bind fun q6 =>
  (rdFi 1 0 S q6).bind fun x8 =>
  bd2 (f_X4_setBySeed fu S q4 x8 i0) fun z11 S9 =>
  (rdFp 4 5 S9 p0).bind fun q13 =>
  (rdFp 4 0 S9 p0).bind fun q15 =>
  (rdFi 1 0 S9 q15).bind fun x17 =>
  bd2 (f_X4_rankOf fu S9 q13 x17) fun x20 S18 =>
  some (x20, S18))
  else (rc 1 S p0 0))
noncomputable def b_X5_laid_1 (rc : Nat → xS → Nat → Int → Option (Int × xS)) (fu : Nat) (S : xS) (p0 : Nat) (i0 : Int) : Option (Int × xS) :=
  if isO 4 S p0 = true then
  bd2 (f_X5_refuseBad fu S p0) fun x23 S21 =>
  some (x23, S21) else none
noncomputable def s_X5_laid (rc : Nat → xS → Nat → Int → Option (Int × xS)) (fu lb : Nat) (S : xS) (p0 : Nat) (i0 : Int) : Option (Int × xS) := match lb with
    | 0 => b_X5_laid_0 rc fu S p0 i0
    | _ => b_X5_laid_1 rc fu S p0 i0
noncomputable def g_X5_laid (k : Nat) : Nat → xS → Nat → Int → Option (Int × xS) := Nat.rec (motive := fun _ => Nat → xS → Nat → Int → Option (Int × xS)) (fun _ _ _ _ => none) (fun fu rc => s_X5_laid rc fu) k
noncomputable def f_X5_laid (fu : Nat) (S : xS) (p0 : Nat) (i0 : Int) : Option (Int × xS) := g_X5_laid fu 0 S p0 i0
noncomputable def b_X5_lucky_0 (rc : Nat → xS → Nat → Int → Int → Int → Int → Int → Option (Int × xS)) (fu : Nat) (S : xS) (p0 : Nat) (i0 i1 i2 i3 i4 : Int) : Option (Int × xS) :=
  if wI i0 < 0 then (rc 1 S p0 0 0 0 0 0)
  else (if wI 999999 < wI i0 then (rc 1 S p0 0 0 0 0 0)
  else (if wI i1 < 0 then (rc 1 S p0 0 0 0 0 0)
  else (if wI i1 ≤ wI 60 then (rc 2 S p0 i0 i1 0 0 0)
  else (rc 1 S p0 0 0 0 0 0))))
noncomputable def b_X5_lucky_1 (rc : Nat → xS → Nat → Int → Int → Int → Int → Int → Option (Int × xS)) (fu : Nat) (S : xS) (p0 : Nat) (i0 i1 i2 i3 i4 : Int) : Option (Int × xS) :=
  if isO 4 S p0 = true then
  bd2 (f_X5_refuseBad fu S p0) fun x7 S5 =>
  some (x7, S5) else none
noncomputable def b_X5_lucky_2 (rc : Nat → xS → Nat → Int → Int → Int → Int → Int → Option (Int × xS)) (fu : Nat) (S : xS) (p0 : Nat) (i0 i1 i2 i3 i4 : Int) : Option (Int × xS) :=
  if wI i1 ≤ wI i3 then (some (i2, S))
  else ((rdFp 4 5 S p0).bind fun q11 =>
  (rdFp 4 0 S p0).bind fun q13 =>
  (rdFi 1 0 S q13).bind fun x15 =>
  bd2 (f_X4_setBySeed fu S q11 x15 (i0 + i3)) fun z18 S16 =>
  (rdFp 4 5 S16 p0).bind fun q20 =>
  if isO 4 S16 p0 = true then
  bd2 (f_X5_doAllFind fu S16 p0 q20) fun x23 S21 =>
  if wI x23 = 0 then (rc 3 S21 p0 i0 i1 i3 i2 0)
  else (rc 3 S21 p0 i0 i1 i3 i2 1) else none)
noncomputable def b_X5_lucky_3 (rc : Nat → xS → Nat → Int → Int → Int → Int → Int → Option (Int × xS)) (fu : Nat) (S : xS) (p0 : Nat) (i0 i1 i2 i3 i4 : Int) : Option (Int × xS) :=
  nmx (i3 + i4) fun x26 =>
  nmx (i2 + 1) fun x28 =>
  rc 2 S p0 i0 i1 x26 x28 0
noncomputable def s_X5_lucky (rc : Nat → xS → Nat → Int → Int → Int → Int → Int → Option (Int × xS)) (fu lb : Nat) (S : xS) (p0 : Nat) (i0 i1 i2 i3 i4 : Int) : Option (Int × xS) := match lb with
    | 0 => b_X5_lucky_0 rc fu S p0 i0 i1 i2 i3 i4
    | 1 => b_X5_lucky_1 rc fu S p0 i0 i1 i2 i3 i4
    | 2 => b_X5_lucky_2 rc fu S p0 i0 i1 i2 i3 i4
    | _ => b_X5_lucky_3 rc fu S p0 i0 i1 i2 i3 i4
noncomputable def g_X5_lucky (k : Nat) : Nat → xS → Nat → Int → Int → Int → Int → Int → Option (Int × xS) := Nat.rec (motive := fun _ => Nat → xS → Nat → Int → Int → Int → Int → Int → Option (Int × xS)) (fun _ _ _ _ _ _ _ _ => none) (fun fu rc => s_X5_lucky rc fu) k
noncomputable def f_X5_lucky (fu : Nat) (S : xS) (p0 : Nat) (i0 : Int) (i1 : Int) : Option (Int × xS) := g_X5_lucky fu 0 S p0 i0 i1 0 0 0
noncomputable def f_X5_part (fu : Nat) (S : xS) (p0 : Nat) (i0 : Int) : Option (Int × xS) :=
  if wI i0 = 0 then ((rdFl 4 8 S p0).bind fun x10 =>
  some (x10, S))
  else (if wI i0 = wI 1 then ((rdFl 4 9 S p0).bind fun x8 =>
  some (x8, S))
  else (if isO 4 S p0 = true then
  bd2 (f_X5_refuseBad fu S p0) fun x5 S3 =>
  some (wI x5, S3) else none))
noncomputable def b_X5_image_0 (rc : Nat → xS → Nat → Nat → Int → Option (Int × xS)) (fu : Nat) (S : xS) (p0 p1 : Nat) (i0 : Int) : Option (Int × xS) :=
  if wI i0 < 0 then (rc 1 S p0 0 0)
  else (if wI i0 < wI 2 then ((rdFp 4 2 S p0).bind fun q4 =>
  onP (rdP 3 S q4 i0) (nmx (S ++ [.inr (.inr (1, xNew_X1))]) fun S7 =>
  bd2 (f_X1_init fu S7 S.length) fun z10 S8 =>
  (rdFp 4 2 S8 p0).bind fun q12 =>
  (wrP 3 1 S8 q12 i0 S.length).bind fun S14 =>
  rc 2 S14 p0 S.length 0) fun q5 =>
  rc 2 S p0 q5 0)
  else (rc 1 S p0 0 0))
noncomputable def b_X5_image_1 (rc : Nat → xS → Nat → Nat → Int → Option (Int × xS)) (fu : Nat) (S : xS) (p0 p1 : Nat) (i0 : Int) : Option (Int × xS) :=
  if isO 4 S p0 = true then
  bd2 (f_X5_refuseBad fu S p0) fun x17 S15 =>
  some (x17, S15) else none
noncomputable def b_X5_image_2 (rc : Nat → xS → Nat → Nat → Int → Option (Int × xS)) (fu : Nat) (S : xS) (p0 p1 : Nat) (i0 : Int) : Option (Int × xS) :=
  (rdFp 4 0 S p0).bind fun q20 =>
  if isO 1 S p1 = true then
  bd2 (f_X1_copyOf fu S p1 q20) fun z23 S21 =>
  some (1, S21) else none
noncomputable def s_X5_image (rc : Nat → xS → Nat → Nat → Int → Option (Int × xS)) (fu lb : Nat) (S : xS) (p0 p1 : Nat) (i0 : Int) : Option (Int × xS) := match lb with
    | 0 => b_X5_image_0 rc fu S p0 p1 i0
    | 1 => b_X5_image_1 rc fu S p0 p1 i0
    | _ => b_X5_image_2 rc fu S p0 p1 i0
noncomputable def g_X5_image (k : Nat) : Nat → xS → Nat → Nat → Int → Option (Int × xS) := Nat.rec (motive := fun _ => Nat → xS → Nat → Nat → Int → Option (Int × xS)) (fun _ _ _ _ _ => none) (fun fu rc => s_X5_image rc fu) k
noncomputable def f_X5_image (fu : Nat) (S : xS) (p0 : Nat) (i0 : Int) : Option (Int × xS) := g_X5_image fu 0 S p0 0 i0
noncomputable def b_X5_from_0 (rc : Nat → xS → Nat → Int → Option (Int × xS)) (fu : Nat) (S : xS) (p0 : Nat) (i0 : Int) : Option (Int × xS) :=
  if wI i0 < 0 then (rc 1 S p0 0)
  else (if wI i0 < wI 2 then ((rdFp 4 2 S p0).bind fun q4 =>
  onP (rdP 3 S q4 i0) (if isO 4 S p0 = true then
  bd2 (f_X5_refuseNo fu S p0) fun x9 S7 =>
  some (x9, S7) else none) fun q5 =>
  (rdFp 4 0 S p0).bind fun q12 =>
  if isO 1 S q12 = true then
  bd2 (f_X1_copyOf fu S q12 q5) fun z15 S13 =>
  some (1, S13) else none)
  else (rc 1 S p0 0))
noncomputable def b_X5_from_1 (rc : Nat → xS → Nat → Int → Option (Int × xS)) (fu : Nat) (S : xS) (p0 : Nat) (i0 : Int) : Option (Int × xS) :=
  if isO 4 S p0 = true then
  bd2 (f_X5_refuseBad fu S p0) fun x19 S17 =>
  some (x19, S17) else none
noncomputable def s_X5_from (rc : Nat → xS → Nat → Int → Option (Int × xS)) (fu lb : Nat) (S : xS) (p0 : Nat) (i0 : Int) : Option (Int × xS) := match lb with
    | 0 => b_X5_from_0 rc fu S p0 i0
    | _ => b_X5_from_1 rc fu S p0 i0
noncomputable def g_X5_from (k : Nat) : Nat → xS → Nat → Int → Option (Int × xS) := Nat.rec (motive := fun _ => Nat → xS → Nat → Int → Option (Int × xS)) (fun _ _ _ _ => none) (fun fu rc => s_X5_from rc fu) k
noncomputable def f_X5_from (fu : Nat) (S : xS) (p0 : Nat) (i0 : Int) : Option (Int × xS) := g_X5_from fu 0 S p0 i0
noncomputable def f_X5_status (fu : Nat) (S : xS) (p0 : Nat) (i0 : Int) : Option (Int × xS) :=
  if wI i0 = 0 then ((rdFi 4 10 S p0).bind fun x3 =>
  some (x3, S)) else
  if wI i0 = 1 then ((rdFi 4 11 S p0).bind fun x6 =>
  some (x6, S)) else
  if wI i0 = 2 then ((rdFi 4 12 S p0).bind fun x9 =>
  some (x9, S)) else
  (if isO 4 S p0 = true then
  bd2 (f_X5_refuseBad fu S p0) fun x12 S10 =>
  some ((-1), S10) else none)
noncomputable def f_X5_howMany (fu : Nat) (S : xS) (p0 : Nat) (i0 : Int) : Option (Int × xS) :=
  if wI i0 = 0 then ((rdFp 4 0 S p0).bind fun q3 =>
  (rdFi 1 0 S q3).bind fun x5 =>
  some (x5, S)) else
  if wI i0 = 1 then ((rdFp 4 0 S p0).bind fun q8 =>
  (rdFi 1 1 S q8).bind fun x10 =>
  some (x10, S)) else
  if wI i0 = 2 then ((rdFp 4 0 S p0).bind fun q13 =>
  (rdFi 1 2 S q13).bind fun x15 =>
  some (x15, S)) else
  if wI i0 = 3 then ((rdFp 4 0 S p0).bind fun q18 =>
  if isO 1 S q18 = true then
  bd2 (f_X1_knownCount fu S q18) fun x21 S19 =>
  some (x21, S19) else none) else
  if wI i0 = 4 then ((rdFp 4 0 S p0).bind fun q25 =>
  (rdFi 1 6 S q25).bind fun x27 =>
  some (x27, S)) else
  if wI i0 = 5 then ((rdFp 4 0 S p0).bind fun q30 =>
  (rdFi 1 11 S q30).bind fun x32 =>
  some (x32, S)) else
  if wI i0 = 6 then ((rdFp 4 3 S p0).bind fun q35 =>
  (rdFi 3 1 S q35).bind fun x37 =>
  some (x37, S)) else
  ((rdFp 4 0 S p0).bind fun q39 =>
  (rdFi 1 9 S q39).bind fun x41 =>
  some (x41, S))
noncomputable def b_X5_count_0 (rc : Nat → xS → Nat → Int → Option (Int × xS)) (fu : Nat) (S : xS) (p0 : Nat) (i0 : Int) : Option (Int × xS) :=
  if wI i0 < 0 then (rc 1 S p0 0)
  else (if wI i0 < wI 8 then (if isO 4 S p0 = true then
  bd2 (f_X5_howMany fu S p0 i0) fun x5 S3 =>
  some (x5, S3) else none)
  else (rc 1 S p0 0))
noncomputable def b_X5_count_1 (rc : Nat → xS → Nat → Int → Option (Int × xS)) (fu : Nat) (S : xS) (p0 : Nat) (i0 : Int) : Option (Int × xS) :=
  if isO 4 S p0 = true then
  bd2 (f_X5_refuseBad fu S p0) fun x9 S7 =>
  some (x9, S7) else none
noncomputable def s_X5_count (rc : Nat → xS → Nat → Int → Option (Int × xS)) (fu lb : Nat) (S : xS) (p0 : Nat) (i0 : Int) : Option (Int × xS) := match lb with
    | 0 => b_X5_count_0 rc fu S p0 i0
    | _ => b_X5_count_1 rc fu S p0 i0
noncomputable def g_X5_count (k : Nat) : Nat → xS → Nat → Int → Option (Int × xS) := Nat.rec (motive := fun _ => Nat → xS → Nat → Int → Option (Int × xS)) (fun _ _ _ _ => none) (fun fu rc => s_X5_count rc fu) k
noncomputable def f_X5_count (fu : Nat) (S : xS) (p0 : Nat) (i0 : Int) : Option (Int × xS) := g_X5_count fu 0 S p0 i0
noncomputable def b_X5_digest_0 (rc : Nat → xS → Nat → Int → Int → Option (Int × xS)) (fu : Nat) (S : xS) (p0 : Nat) (i0 i1 : Int) : Option (Int × xS) :=
  rc 1 S p0 823 0
noncomputable def b_X5_digest_1 (rc : Nat → xS → Nat → Int → Int → Option (Int × xS)) (fu : Nat) (S : xS) (p0 : Nat) (i0 i1 : Int) : Option (Int × xS) :=
  if wI 8 ≤ wI i1 then (rc 2 S p0 i0 0)
  else (if isO 4 S p0 = true then
  bd2 (f_X5_howMany fu S p0 i1) fun x4 S2 =>
  nmx ((31 * i0) + (wI x4)) fun x6 =>
  nmx (i1 + 1) fun x8 =>
  rc 1 S2 p0 x6 x8 else none)
noncomputable def b_X5_digest_2 (rc : Nat → xS → Nat → Int → Int → Option (Int × xS)) (fu : Nat) (S : xS) (p0 : Nat) (i0 i1 : Int) : Option (Int × xS) :=
  (rdFp 4 0 S p0).bind fun q11 =>
  (rdFi 1 0 S q11).bind fun x13 =>
  if wI x13 ≤ wI i1 then (rc 3 S p0 i0 0)
  else ((rdFp 4 0 S p0).bind fun q16 =>
  (rdFp 1 3 S q16).bind fun q18 =>
  (rdA 0 S q18 i1).bind fun x19 =>
  nmx ((31 * i0) + (wI x19)) fun x21 =>
  (rdFp 4 0 S p0).bind fun q24 =>
  (rdFp 1 4 S q24).bind fun q26 =>
  (rdA 0 S q26 i1).bind fun x27 =>
  nmx ((31 * x21) + (wI x27)) fun x29 =>
  nmx (i1 + 1) fun x31 =>
  rc 2 S p0 x29 x31)
noncomputable def b_X5_digest_3 (rc : Nat → xS → Nat → Int → Int → Option (Int × xS)) (fu : Nat) (S : xS) (p0 : Nat) (i0 i1 : Int) : Option (Int × xS) :=
  (rdFp 4 0 S p0).bind fun q34 =>
  (rdFi 1 0 S q34).bind fun x36 =>
  if wI x36 ≤ wI i1 then (rc 4 S p0 i0 0)
  else ((rdFp 4 0 S p0).bind fun q39 =>
  (rdFp 1 5 S q39).bind fun q41 =>
  (rdA 0 S q41 i1).bind fun x42 =>
  nmx ((31 * i0) + (wI x42)) fun x44 =>
  nmx (i1 + 1) fun x46 =>
  rc 3 S p0 x44 x46)
noncomputable def b_X5_digest_4 (rc : Nat → xS → Nat → Int → Int → Option (Int × xS)) (fu : Nat) (S : xS) (p0 : Nat) (i0 i1 : Int) : Option (Int × xS) :=
  (rdFp 4 0 S p0).bind fun q49 =>
  (rdFi 1 6 S q49).bind fun x51 =>
  if wI x51 ≤ wI i1 then (rc 5 S p0 i0 0)
  else ((rdFp 4 0 S p0).bind fun q54 =>
  (rdFp 1 7 S q54).bind fun q56 =>
  (rdA 0 S q56 i1).bind fun x57 =>
  nmx ((31 * i0) + (wI x57)) fun x59 =>
  (rdFp 4 0 S p0).bind fun q62 =>
  (rdFp 1 8 S q62).bind fun q64 =>
  (rdA 0 S q64 i1).bind fun x65 =>
  nmx ((31 * x59) + (wI x65)) fun x67 =>
  nmx (i1 + 1) fun x69 =>
  rc 4 S p0 x67 x69)
noncomputable def b_X5_digest_5 (rc : Nat → xS → Nat → Int → Int → Option (Int × xS)) (fu : Nat) (S : xS) (p0 : Nat) (i0 i1 : Int) : Option (Int × xS) :=
  (rdFp 4 0 S p0).bind fun q72 =>
  (rdFi 1 9 S q72).bind fun x74 =>
  if wI x74 ≤ wI i1 then ((rdFl 4 8 S p0).bind fun x77 =>
  nmx ((31 * i0) + x77) fun x78 =>
  (rdFl 4 9 S p0).bind fun x81 =>
  some ((31 * x78) + x81, S))
  else ((rdFp 4 0 S p0).bind fun q83 =>
  (rdFp 1 10 S q83).bind fun q85 =>
  (rdA 0 S q85 i1).bind fun x86 =>
  nmx ((31 * i0) + (wI x86)) fun x88 =>
  nmx (i1 + 1) fun x90 =>
  rc 5 S p0 x88 x90)
noncomputable def s_X5_digest (rc : Nat → xS → Nat → Int → Int → Option (Int × xS)) (fu lb : Nat) (S : xS) (p0 : Nat) (i0 i1 : Int) : Option (Int × xS) := match lb with
    | 0 => b_X5_digest_0 rc fu S p0 i0 i1
    | 1 => b_X5_digest_1 rc fu S p0 i0 i1
    | 2 => b_X5_digest_2 rc fu S p0 i0 i1
    | 3 => b_X5_digest_3 rc fu S p0 i0 i1
    | 4 => b_X5_digest_4 rc fu S p0 i0 i1
    | _ => b_X5_digest_5 rc fu S p0 i0 i1
noncomputable def g_X5_digest (k : Nat) : Nat → xS → Nat → Int → Int → Option (Int × xS) := Nat.rec (motive := fun _ => Nat → xS → Nat → Int → Int → Option (Int × xS)) (fun _ _ _ _ _ => none) (fun fu rc => s_X5_digest rc fu) k
noncomputable def f_X5_digest (fu : Nat) (S : xS) (p0 : Nat) : Option (Int × xS) := g_X5_digest fu 0 S p0 0 0
noncomputable def b_X6_begin_0 (rc : Nat → xS → Nat → Int → Option (Int × xS)) (fu : Nat) (S : xS) (p0 : Nat) (i0 : Int) : Option (Int × xS) :=
  (wrA 0 S p0 0 i0).bind fun S2 =>
  (wrA 0 S2 p0 1 2).bind fun S4 =>
  (wrA 0 S4 p0 2 1).bind fun S6 =>
  rc 1 S6 p0 0
noncomputable def b_X6_begin_1 (rc : Nat → xS → Nat → Int → Option (Int × xS)) (fu : Nat) (S : xS) (p0 : Nat) (i0 : Int) : Option (Int × xS) :=
  if wI 7 ≤ wI i0 then ((wrA 0 S p0 24 0).bind fun S9 =>
  (wrA 0 S9 p0 41 0).bind fun S11 =>
  (wrA 0 S11 p0 46 0).bind fun S13 =>
  some ((0 : Int), S13))
  else ((wrA 0 S p0 (3 + i0) i0).bind fun S15 =>
  (wrA 0 S15 p0 (10 + i0) 0).bind fun S17 =>
  (wrA 0 S17 p0 (17 + i0) ((-1))).bind fun S19 =>
  nmx (i0 + 1) fun x20 =>
  rc 1 S19 p0 x20)
noncomputable def s_X6_begin (rc : Nat → xS → Nat → Int → Option (Int × xS)) (fu lb : Nat) (S : xS) (p0 : Nat) (i0 : Int) : Option (Int × xS) := match lb with
    | 0 => b_X6_begin_0 rc fu S p0 i0
    | _ => b_X6_begin_1 rc fu S p0 i0
noncomputable def g_X6_begin (k : Nat) : Nat → xS → Nat → Int → Option (Int × xS) := Nat.rec (motive := fun _ => Nat → xS → Nat → Int → Option (Int × xS)) (fun _ _ _ _ => none) (fun fu rc => s_X6_begin rc fu) k
noncomputable def f_X6_begin (fu : Nat) (S : xS) (p0 : Nat) (i0 : Int) : Option (Int × xS) := g_X6_begin fu 0 S p0 i0
noncomputable def f_X6_init (fu : Nat) (S : xS) (p0 : Nat) : Option (Int × xS) :=
  nmx (S ++ [.inl (0, List.replicate 57 0)]) fun S1 =>
  (wrF 5 0 S1 p0 (.inr (.inr (some S.length)))).bind fun S3 =>
  nmx (S3 ++ [.inl (0, List.replicate 114 0)]) fun S4 =>
  (wrF 5 1 S4 p0 (.inr (.inr (some S3.length)))).bind fun S6 =>
  nmx (S6 ++ [.inl (2, List.replicate 2 0)]) fun S7 =>
  (wrF 5 2 S7 p0 (.inr (.inr (some S6.length)))).bind fun S9 =>
  nmx (S9 ++ [.inl (0, List.replicate 3 0)]) fun S10 =>
  (wrF 5 3 S10 p0 (.inr (.inr (some S9.length)))).bind fun S12 =>
  (wrF 5 5 S12 p0 (.inr (.inl 1))).bind fun S14 =>
  nmx (S14 ++ [.inl (0, List.replicate 7 0)]) fun S15 =>
  (wrF 5 6 S15 p0 (.inr (.inr (some S14.length)))).bind fun S17 =>
  nmx (S17 ++ [.inl (0, List.replicate 7 0)]) fun S18 =>
  (wrF 5 8 S18 p0 (.inr (.inr (some S17.length)))).bind fun S20 =>
  nmx (S20 ++ [.inl (0, List.replicate 7 0)]) fun S21 =>
  (wrF 5 12 S21 p0 (.inr (.inr (some S20.length)))).bind fun S23 =>
  nmx (S23 ++ [.inl (0, List.replicate 7 0)]) fun S24 =>
  (wrF 5 13 S24 p0 (.inr (.inr (some S23.length)))).bind fun S26 =>
  nmx (S26 ++ [.inl (0, List.replicate 5040 0)]) fun S27 =>
  (wrF 5 14 S27 p0 (.inr (.inr (some S26.length)))).bind fun S29 =>
  nmx (S29 ++ [.inl (0, List.replicate 5040 0)]) fun S30 =>
  (wrF 5 15 S30 p0 (.inr (.inr (some S29.length)))).bind fun S32 =>
  nmx (S32 ++ [.inl (2, List.replicate 5040 0)]) fun S33 =>
  (wrF 5 16 S33 p0 (.inr (.inr (some S32.length)))).bind fun S35 =>
  nmx (S35 ++ [.inl (0, List.replicate 49 0)]) fun S36 =>
  (wrF 5 18 S36 p0 (.inr (.inr (some S35.length)))).bind fun S38 =>
  nmx (S38 ++ [.inl (0, List.replicate 6 0)]) fun S39 =>
  (wrF 5 19 S39 p0 (.inr (.inr (some S38.length)))).bind fun S41 =>
  nmx (S41 ++ [.inl (0, List.replicate 7 0)]) fun S42 =>
  (wrF 5 20 S42 p0 (.inr (.inr (some S41.length)))).bind fun S44 =>
  nmx (S44 ++ [.inl (0, List.replicate 7 0)]) fun S45 =>
  (wrF 5 21 S45 p0 (.inr (.inr (some S44.length)))).bind fun S47 =>
  nmx (S47 ++ [.inl (0, List.replicate 150 0)]) fun S48 =>
  (wrF 5 22 S48 p0 (.inr (.inr (some S47.length)))).bind fun S50 =>
  nmx (S50 ++ [.inl (0, List.replicate 47 0)]) fun S51 =>
  (wrF 5 28 S51 p0 (.inr (.inr (some S50.length)))).bind fun S53 =>
  nmx (S53 ++ [.inl (0, List.replicate 2 0)]) fun S54 =>
  (wrF 5 29 S54 p0 (.inr (.inr (some S53.length)))).bind fun S56 =>
  (rdFp 5 0 S56 p0).bind fun q58 =>
  bd2 (f_X6_begin fu S56 q58 5) fun z61 S59 =>
  some ((0 : Int), S59)
noncomputable def b_X6_in_0 (rc : Nat → xS → Int → Int → Int → Option (Int × xS)) (fu : Nat) (S : xS) (i0 i1 i2 : Int) : Option (Int × xS) :=
  if wI (xLcmp i0 i1) < 0 then (rc 1 S 0 0 0)
  else (if 0 < wI (xLcmp i0 i2) then (rc 1 S 0 0 0)
  else (some (1, S)))
noncomputable def b_X6_in_1 (rc : Nat → xS → Int → Int → Int → Option (Int × xS)) (fu : Nat) (S : xS) (i0 i1 i2 : Int) : Option (Int × xS) :=
  some (0, S)
noncomputable def s_X6_in (rc : Nat → xS → Int → Int → Int → Option (Int × xS)) (fu lb : Nat) (S : xS) (i0 i1 i2 : Int) : Option (Int × xS) := match lb with
    | 0 => b_X6_in_0 rc fu S i0 i1 i2
    | _ => b_X6_in_1 rc fu S i0 i1 i2
noncomputable def g_X6_in (k : Nat) : Nat → xS → Int → Int → Int → Option (Int × xS) := Nat.rec (motive := fun _ => Nat → xS → Int → Int → Int → Option (Int × xS)) (fun _ _ _ _ _ => none) (fun fu rc => s_X6_in rc fu) k
noncomputable def f_X6_in (fu : Nat) (S : xS) (i0 : Int) (i1 : Int) (i2 : Int) : Option (Int × xS) := g_X6_in fu 0 S i0 i1 i2
noncomputable def f_X6_bad (fu : Nat) (S : xS) (p0 : Nat) (i0 : Int) : Option (Int × xS) :=
  (rdFp 5 3 S p0).bind fun q2 =>
  (rdA 0 S q2 0).bind fun x3 =>
  (wrA 0 S q2 0 (x3 + 1)).bind fun S6 =>
  some (i0, S6)
noncomputable def f_X6_no (fu : Nat) (S : xS) (p0 : Nat) : Option (Int × xS) :=
  (rdFp 5 3 S p0).bind fun q2 =>
  (rdA 0 S q2 1).bind fun x3 =>
  (wrA 0 S q2 1 (x3 + 1)).bind fun S6 =>
  some ((-3), S6)
noncomputable def f_X6_full (fu : Nat) (S : xS) (p0 : Nat) : Option (Int × xS) :=
  (rdFp 5 3 S p0).bind fun q2 =>
  (rdA 0 S q2 2).bind fun x3 =>
  (wrA 0 S q2 2 (x3 + 1)).bind fun S6 =>
  some ((-4), S6)
noncomputable def b_X6_bits_0 (rc : Nat → xS → Int → Int → Option (Int × xS)) (fu : Nat) (S : xS) (i0 i1 : Int) : Option (Int × xS) :=
  rc 1 S 0 i0
noncomputable def b_X6_bits_1 (rc : Nat → xS → Int → Int → Option (Int × xS)) (fu : Nat) (S : xS) (i0 i1 : Int) : Option (Int × xS) :=
  if wI i1 ≤ 0 then (some (i0, S))
  else (nmx (i0 + (xAnd i1 1)) fun x2 =>
  nmx (xShr i1 1) fun x4 =>
  rc 1 S x2 x4)
noncomputable def s_X6_bits (rc : Nat → xS → Int → Int → Option (Int × xS)) (fu lb : Nat) (S : xS) (i0 i1 : Int) : Option (Int × xS) := match lb with
    | 0 => b_X6_bits_0 rc fu S i0 i1
    | _ => b_X6_bits_1 rc fu S i0 i1
noncomputable def g_X6_bits (k : Nat) : Nat → xS → Int → Int → Option (Int × xS) := Nat.rec (motive := fun _ => Nat → xS → Int → Int → Option (Int × xS)) (fun _ _ _ _ => none) (fun fu rc => s_X6_bits rc fu) k
noncomputable def f_X6_bits (fu : Nat) (S : xS) (i0 : Int) : Option (Int × xS) := g_X6_bits fu 0 S i0 0
noncomputable def f_X6_n (fu : Nat) (S : xS) (p0 : Nat) : Option (Int × xS) :=
  (rdFp 5 0 S p0).bind fun q2 =>
  (rdA 0 S q2 0).bind fun x3 =>
  some (x3, S)
noncomputable def f_X6_isBox (fu : Nat) (S : xS) (p0 : Nat) (i0 : Int) : Option (Int × xS) :=
  if isO 5 S p0 = true then
  bd2 (f_X6_n fu S p0) fun x3 S1 =>
  bd2 (f_X6_in fu S1 (wI i0) 0 (wI (x3 - 1))) fun x7 S5 =>
  if x7 = 0 ∨ x7 = 1 then some (x7, S5) else none else none
noncomputable def f_X6_boxes (fu : Nat) (S : xS) (p0 : Nat) (i0 : Int) : Option (Int × xS) :=
  bd2 (f_X6_in fu S (wI i0) 2 7) fun x3 S1 =>
  if wI x3 = 0 then (if isO 5 S1 p0 = true then
  bd2 (f_X6_bad fu S1 p0 ((-2))) fun x16 S14 =>
  some (x16, S14) else none)
  else (if isO 5 S1 p0 = true then
  bd2 (f_X6_n fu S1 p0) fun x7 S5 =>
  (rdFp 5 0 S5 p0).bind fun q10 =>
  bd2 (f_X6_begin fu S5 q10 i0) fun z13 S11 =>
  some (x7, S11) else none)
noncomputable def b_X6_put_0 (rc : Nat → xS → Nat → Int → Int → Int → Option (Int × xS)) (fu : Nat) (S : xS) (p0 : Nat) (i0 i1 i2 : Int) : Option (Int × xS) :=
  if wI i0 = 0 then (if isO 5 S p0 = true then
  bd2 (f_X6_n fu S p0) fun x9 S7 =>
  bd2 (f_X6_in fu S7 (wI i1) 1 (wI x9)) fun x13 S11 =>
  rc 2 S11 p0 i0 i1 x13 else none)
  else (if wI i0 = wI 1 then (bd2 (f_X6_in fu S (wI i1) 0 6) fun x5 S3 =>
  if wI x5 = 0 then (rc 1 S3 p0 i0 i1 0)
  else (rc 2 S3 p0 i0 i1 1))
  else (rc 1 S p0 i0 i1 0))
noncomputable def b_X6_put_1 (rc : Nat → xS → Nat → Int → Int → Int → Option (Int × xS)) (fu : Nat) (S : xS) (p0 : Nat) (i0 i1 i2 : Int) : Option (Int × xS) :=
  rc 2 S p0 i0 i1 0
noncomputable def b_X6_put_2 (rc : Nat → xS → Nat → Int → Int → Int → Option (Int × xS)) (fu : Nat) (S : xS) (p0 : Nat) (i0 i1 i2 : Int) : Option (Int × xS) :=
  if wI i2 = 0 then (if isO 5 S p0 = true then
  bd2 (f_X6_bad fu S p0 ((-2))) fun x25 S23 =>
  some (x25, S23) else none)
  else ((rdFp 5 0 S p0).bind fun q16 =>
  (rdA 0 S q16 (1 + i0)).bind fun x17 =>
  (rdFp 5 0 S p0).bind fun q20 =>
  (wrA 0 S q20 (1 + i0) i1).bind fun S22 =>
  some (x17, S22))
noncomputable def s_X6_put (rc : Nat → xS → Nat → Int → Int → Int → Option (Int × xS)) (fu lb : Nat) (S : xS) (p0 : Nat) (i0 i1 i2 : Int) : Option (Int × xS) := match lb with
    | 0 => b_X6_put_0 rc fu S p0 i0 i1 i2
    | 1 => b_X6_put_1 rc fu S p0 i0 i1 i2
    | _ => b_X6_put_2 rc fu S p0 i0 i1 i2
noncomputable def g_X6_put (k : Nat) : Nat → xS → Nat → Int → Int → Int → Option (Int × xS) := Nat.rec (motive := fun _ => Nat → xS → Nat → Int → Int → Int → Option (Int × xS)) (fun _ _ _ _ _ _ => none) (fun fu rc => s_X6_put rc fu) k
noncomputable def f_X6_put (fu : Nat) (S : xS) (p0 : Nat) (i0 : Int) (i1 : Int) : Option (Int × xS) := g_X6_put fu 0 S p0 i0 i1 0
noncomputable def b_X6_rule_0 (rc : Nat → xS → Nat → Int → Int → Option (Int × xS)) (fu : Nat) (S : xS) (p0 : Nat) (i0 i1 : Int) : Option (Int × xS) :=
  if isO 5 S p0 = true then
  bd2 (f_X6_isBox fu S p0 i0) fun x3 S1 =>
  if wI x3 = 0 then (rc 1 S1 p0 0 0)
  else (bd2 (f_X6_in fu S1 (wI i1) 0 5) fun x8 S6 =>
  if wI x8 = 0 then (rc 1 S6 p0 0 0)
  else ((rdFp 5 0 S6 p0).bind fun q11 =>
  (rdA 0 S6 q11 (10 + i0)).bind fun x12 =>
  (rdFp 5 0 S6 p0).bind fun q15 =>
  (wrA 0 S6 q15 (10 + i0) i1).bind fun S17 =>
  some (x12, S17))) else none
noncomputable def b_X6_rule_1 (rc : Nat → xS → Nat → Int → Int → Option (Int × xS)) (fu : Nat) (S : xS) (p0 : Nat) (i0 i1 : Int) : Option (Int × xS) :=
  if isO 5 S p0 = true then
  bd2 (f_X6_bad fu S p0 ((-2))) fun x20 S18 =>
  some (x20, S18) else none
noncomputable def s_X6_rule (rc : Nat → xS → Nat → Int → Int → Option (Int × xS)) (fu lb : Nat) (S : xS) (p0 : Nat) (i0 i1 : Int) : Option (Int × xS) := match lb with
    | 0 => b_X6_rule_0 rc fu S p0 i0 i1
    | _ => b_X6_rule_1 rc fu S p0 i0 i1
noncomputable def g_X6_rule (k : Nat) : Nat → xS → Nat → Int → Int → Option (Int × xS) := Nat.rec (motive := fun _ => Nat → xS → Nat → Int → Int → Option (Int × xS)) (fun _ _ _ _ _ => none) (fun fu rc => s_X6_rule rc fu) k
noncomputable def f_X6_rule (fu : Nat) (S : xS) (p0 : Nat) (i0 : Int) (i1 : Int) : Option (Int × xS) := g_X6_rule fu 0 S p0 i0 i1
noncomputable def b_X6_takeNow_0 (rc : Nat → xS → Nat → Int → Option (Int × xS)) (fu : Nat) (S : xS) (p0 : Nat) (i0 : Int) : Option (Int × xS) :=
  rc 1 S p0 0
noncomputable def b_X6_takeNow_1 (rc : Nat → xS → Nat → Int → Option (Int × xS)) (fu : Nat) (S : xS) (p0 : Nat) (i0 : Int) : Option (Int × xS) :=
  if isO 5 S p0 = true then
  bd2 (f_X6_n fu S p0) fun x3 S1 =>
  if wI x3 ≤ wI i0 then (some ((0 : Int), S1))
  else ((rdFp 5 6 S1 p0).bind fun q7 =>
  (rdFp 5 0 S1 p0).bind fun q9 =>
  (rdA 0 S1 q9 (3 + i0)).bind fun x10 =>
  (wrA 0 S1 q7 i0 x10).bind fun S13 =>
  nmx (i0 + 1) fun x14 =>
  rc 1 S13 p0 x14) else none
noncomputable def s_X6_takeNow (rc : Nat → xS → Nat → Int → Option (Int × xS)) (fu lb : Nat) (S : xS) (p0 : Nat) (i0 : Int) : Option (Int × xS) := match lb with
    | 0 => b_X6_takeNow_0 rc fu S p0 i0
    | _ => b_X6_takeNow_1 rc fu S p0 i0
noncomputable def g_X6_takeNow (k : Nat) : Nat → xS → Nat → Int → Option (Int × xS) := Nat.rec (motive := fun _ => Nat → xS → Nat → Int → Option (Int × xS)) (fun _ _ _ _ => none) (fun fu rc => s_X6_takeNow rc fu) k
noncomputable def f_X6_takeNow (fu : Nat) (S : xS) (p0 : Nat) : Option (Int × xS) := g_X6_takeNow fu 0 S p0 0
noncomputable def b_X6_factorial_0 (rc : Nat → xS → Int → Int → Int → Option (Int × xS)) (fu : Nat) (S : xS) (i0 i1 i2 : Int) : Option (Int × xS) :=
  rc 1 S i0 1 2
noncomputable def b_X6_factorial_1 (rc : Nat → xS → Int → Int → Int → Option (Int × xS)) (fu : Nat) (S : xS) (i0 i1 i2 : Int) : Option (Int × xS) :=
  if wI i0 < wI i2 then (some (i1, S))
  else (nmx (i1 * i2) fun x2 =>
  nmx (i2 + 1) fun x4 =>
  rc 1 S i0 x2 x4)
noncomputable def s_X6_factorial (rc : Nat → xS → Int → Int → Int → Option (Int × xS)) (fu lb : Nat) (S : xS) (i0 i1 i2 : Int) : Option (Int × xS) := match lb with
    | 0 => b_X6_factorial_0 rc fu S i0 i1 i2
    | _ => b_X6_factorial_1 rc fu S i0 i1 i2
noncomputable def g_X6_factorial (k : Nat) : Nat → xS → Int → Int → Int → Option (Int × xS) := Nat.rec (motive := fun _ => Nat → xS → Int → Int → Int → Option (Int × xS)) (fun _ _ _ _ _ => none) (fun fu rc => s_X6_factorial rc fu) k
noncomputable def f_X6_factorial (fu : Nat) (S : xS) (i0 : Int) : Option (Int × xS) := g_X6_factorial fu 0 S i0 0 0
noncomputable def f_X6_ways (fu : Nat) (S : xS) (p0 : Nat) : Option (Int × xS) :=
  if isO 5 S p0 = true then
  bd2 (f_X6_n fu S p0) fun x3 S1 =>
  bd2 (f_X6_factorial fu S1 x3) fun x7 S5 =>
  some (x7, S5) else none
noncomputable def b_X6_rankOf_0 (rc : Nat → xS → Nat → Int → Int → Int → Int → Int → Option (Int × xS)) (fu : Nat) (S : xS) (p0 : Nat) (i0 i1 i2 i3 i4 : Int) : Option (Int × xS) :=
  rc 1 S p0 0 0 0 0 0
noncomputable def b_X6_rankOf_1 (rc : Nat → xS → Nat → Int → Int → Int → Int → Int → Option (Int × xS)) (fu : Nat) (S : xS) (p0 : Nat) (i0 i1 i2 i3 i4 : Int) : Option (Int × xS) :=
  if isO 5 S p0 = true then
  bd2 (f_X6_n fu S p0) fun x3 S1 =>
  if wI x3 ≤ wI i1 then (some (i0, S1))
  else (nmx (i1 + 1) fun x6 =>
  rc 2 S1 p0 i0 i1 0 x6 0) else none
noncomputable def b_X6_rankOf_2 (rc : Nat → xS → Nat → Int → Int → Int → Int → Int → Option (Int × xS)) (fu : Nat) (S : xS) (p0 : Nat) (i0 i1 i2 i3 i4 : Int) : Option (Int × xS) :=
  if isO 5 S p0 = true then
  bd2 (f_X6_n fu S p0) fun x10 S8 =>
  if wI x10 ≤ wI i3 then (if isO 5 S8 p0 = true then
  bd2 (f_X6_n fu S8 p0) fun x15 S13 =>
  bd2 (f_X6_factorial fu S13 ((x15 - 1) - i1)) fun x19 S17 =>
  nmx (i0 + (i2 * x19)) fun x20 =>
  nmx (i1 + 1) fun x22 =>
  rc 1 S17 p0 x20 x22 0 0 0 else none)
  else ((rdFp 5 6 S8 p0).bind fun q25 =>
  (rdA 0 S8 q25 i3).bind fun x26 =>
  (rdFp 5 6 S8 p0).bind fun q29 =>
  (rdA 0 S8 q29 i1).bind fun x30 =>
  if wI x30 ≤ wI x26 then (rc 3 S8 p0 i0 i1 i3 i2 0)
  else (rc 3 S8 p0 i0 i1 i3 i2 1)) else none
noncomputable def b_X6_rankOf_3 (rc : Nat → xS → Nat → Int → Int → Int → Int → Int → Option (Int × xS)) (fu : Nat) (S : xS) (p0 : Nat) (i0 i1 i2 i3 i4 : Int) : Option (Int × xS) :=
  nmx (i3 + i4) fun x33 =>
  nmx (i2 + 1) fun x35 =>
  rc 2 S p0 i0 i1 x33 x35 0
noncomputable def s_X6_rankOf (rc : Nat → xS → Nat → Int → Int → Int → Int → Int → Option (Int × xS)) (fu lb : Nat) (S : xS) (p0 : Nat) (i0 i1 i2 i3 i4 : Int) : Option (Int × xS) := match lb with
    | 0 => b_X6_rankOf_0 rc fu S p0 i0 i1 i2 i3 i4
    | 1 => b_X6_rankOf_1 rc fu S p0 i0 i1 i2 i3 i4
    | 2 => b_X6_rankOf_2 rc fu S p0 i0 i1 i2 i3 i4
    | _ => b_X6_rankOf_3 rc fu S p0 i0 i1 i2 i3 i4
noncomputable def g_X6_rankOf (k : Nat) : Nat → xS → Nat → Int → Int → Int → Int → Int → Option (Int × xS) := Nat.rec (motive := fun _ => Nat → xS → Nat → Int → Int → Int → Int → Int → Option (Int × xS)) (fun _ _ _ _ _ _ _ _ => none) (fun fu rc => s_X6_rankOf rc fu) k
noncomputable def f_X6_rankOf (fu : Nat) (S : xS) (p0 : Nat) : Option (Int × xS) := g_X6_rankOf fu 0 S p0 0 0 0 0 0
noncomputable def b_X6_takeRank_0 (rc : Nat → xS → Nat → Int → Int → Int → Int → Int → Int → Option (Int × xS)) (fu : Nat) (S : xS) (p0 : Nat) (i0 i1 i2 i3 i4 i5 : Int) : Option (Int × xS) :=
  rc 1 S p0 0 i0 0 0 0 0
noncomputable def b_X6_takeRank_1 (rc : Nat → xS → Nat → Int → Int → Int → Int → Int → Int → Option (Int × xS)) (fu : Nat) (S : xS) (p0 : Nat) (i0 i1 i2 i3 i4 i5 : Int) : Option (Int × xS) :=
  if isO 5 S p0 = true then
  bd2 (f_X6_n fu S p0) fun x3 S1 =>
  if wI x3 ≤ wI i2 then (some ((0 : Int), S1))
  else (if isO 5 S1 p0 = true then
  bd2 (f_X6_n fu S1 p0) fun x8 S6 =>
  bd2 (f_X6_factorial fu S6 ((x8 - 1) - i2)) fun x12 S10 =>
  if wI x12 = 0 then none else
  nmx ((wI i1).tdiv (wI x12)) fun x14 =>
  if wI x12 = 0 then none else
  nmx ((wI i1).tmod (wI x12)) fun x17 =>
  rc 2 S10 p0 i0 x17 i2 x14 0 0 else none) else none
noncomputable def b_X6_takeRank_2 (rc : Nat → xS → Nat → Int → Int → Int → Int → Int → Int → Option (Int × xS)) (fu : Nat) (S : xS) (p0 : Nat) (i0 i1 i2 i3 i4 i5 : Int) : Option (Int × xS) :=
  if wI (xAnd (xShr i0 i4) 1) = wI 1 then (rc 3 S p0 i0 i1 i2 i3 i4 0)
  else (if wI i3 ≤ 0 then ((rdFp 5 6 S p0).bind fun q22 =>
  (wrA 0 S q22 i2 i4).bind fun S24 =>
  nmx (xOr i0 (xShl 1 i4)) fun x25 =>
  nmx (i2 + 1) fun x27 =>
  rc 1 S24 p0 x25 i1 x27 0 0 0)
  else (rc 3 S p0 i0 i1 i2 i3 i4 0))
noncomputable def b_X6_takeRank_3 (rc : Nat → xS → Nat → Int → Int → Int → Int → Int → Int → Option (Int × xS)) (fu : Nat) (S : xS) (p0 : Nat) (i0 i1 i2 i3 i4 i5 : Int) : Option (Int × xS) :=
  if wI (xAnd (xShr i0 i4) 1) = 0 then (rc 4 S p0 i0 i1 i2 i4 i3 1)
  else (rc 4 S p0 i0 i1 i2 i4 i3 0)
noncomputable def b_X6_takeRank_4 (rc : Nat → xS → Nat → Int → Int → Int → Int → Int → Int → Option (Int × xS)) (fu : Nat) (S : xS) (p0 : Nat) (i0 i1 i2 i3 i4 i5 : Int) : Option (Int × xS) :=
  nmx (i4 - i5) fun x30 =>
  nmx (i3 + 1) fun x32 =>
  rc 2 S p0 i0 i1 i2 x30 x32 0
noncomputable def s_X6_takeRank (rc : Nat → xS → Nat → Int → Int → Int → Int → Int → Int → Option (Int × xS)) (fu lb : Nat) (S : xS) (p0 : Nat) (i0 i1 i2 i3 i4 i5 : Int) : Option (Int × xS) := match lb with
    | 0 => b_X6_takeRank_0 rc fu S p0 i0 i1 i2 i3 i4 i5
    | 1 => b_X6_takeRank_1 rc fu S p0 i0 i1 i2 i3 i4 i5
    | 2 => b_X6_takeRank_2 rc fu S p0 i0 i1 i2 i3 i4 i5
    | 3 => b_X6_takeRank_3 rc fu S p0 i0 i1 i2 i3 i4 i5
    | _ => b_X6_takeRank_4 rc fu S p0 i0 i1 i2 i3 i4 i5
noncomputable def g_X6_takeRank (k : Nat) : Nat → xS → Nat → Int → Int → Int → Int → Int → Int → Option (Int × xS) := Nat.rec (motive := fun _ => Nat → xS → Nat → Int → Int → Int → Int → Int → Int → Option (Int × xS)) (fun _ _ _ _ _ _ _ _ _ => none) (fun fu rc => s_X6_takeRank rc fu) k
noncomputable def f_X6_takeRank (fu : Nat) (S : xS) (p0 : Nat) (i0 : Int) : Option (Int × xS) := g_X6_takeRank fu 0 S p0 i0 0 0 0 0 0
noncomputable def f_X6_rankNow (fu : Nat) (S : xS) (p0 : Nat) : Option (Int × xS) :=
  if isO 5 S p0 = true then
  bd2 (f_X6_takeNow fu S p0) fun z3 S1 =>
  if isO 5 S1 p0 = true then
  bd2 (f_X6_rankOf fu S1 p0) fun x7 S5 =>
  some (x7, S5) else none else none
noncomputable def b_X6_putWay_0 (rc : Nat → xS → Nat → Int → Option (Int × xS)) (fu : Nat) (S : xS) (p0 : Nat) (i0 : Int) : Option (Int × xS) :=
  (rdFp 5 0 S p0).bind fun q2 =>
  (rdA 0 S q2 46).bind fun x3 =>
  if wI x3 = wI 10 then (rc 1 S p0 0)
  else (rc 2 S p0 0)
noncomputable def b_X6_putWay_1 (rc : Nat → xS → Nat → Int → Option (Int × xS)) (fu : Nat) (S : xS) (p0 : Nat) (i0 : Int) : Option (Int × xS) :=
  if wI 9 ≤ wI i0 then ((rdFp 5 0 S p0).bind fun q8 =>
  (wrA 0 S q8 46 9).bind fun S10 =>
  rc 2 S10 p0 0)
  else ((rdFp 5 0 S p0).bind fun q12 =>
  (rdFp 5 0 S p0).bind fun q14 =>
  (rdA 0 S q14 ((47 + i0) + 1)).bind fun x15 =>
  (wrA 0 S q12 (47 + i0) x15).bind fun S18 =>
  nmx (i0 + 1) fun x19 =>
  rc 1 S18 p0 x19)
noncomputable def b_X6_putWay_2 (rc : Nat → xS → Nat → Int → Option (Int × xS)) (fu : Nat) (S : xS) (p0 : Nat) (i0 : Int) : Option (Int × xS) :=
  (rdFp 5 0 S p0).bind fun q22 =>
  (rdFp 5 0 S p0).bind fun q24 =>
  (rdA 0 S q24 46).bind fun x25 =>
  (rdFi 5 7 S p0).bind fun x28 =>
  (wrA 0 S q22 (47 + x25) x28).bind fun S30 =>
  (rdFp 5 0 S30 p0).bind fun q32 =>
  (rdA 0 S30 q32 46).bind fun x33 =>
  (wrA 0 S30 q32 46 (x33 + 1)).bind fun S36 =>
  rc 3 S36 p0 0
noncomputable def b_X6_putWay_3 (rc : Nat → xS → Nat → Int → Option (Int × xS)) (fu : Nat) (S : xS) (p0 : Nat) (i0 : Int) : Option (Int × xS) :=
  if isO 5 S p0 = true then
  bd2 (f_X6_n fu S p0) fun x39 S37 =>
  if wI x39 ≤ wI i0 then (some ((0 : Int), S37))
  else ((rdFp 5 0 S37 p0).bind fun q43 =>
  (rdFp 5 6 S37 p0).bind fun q45 =>
  (rdA 0 S37 q45 i0).bind fun x46 =>
  (wrA 0 S37 q43 (3 + i0) x46).bind fun S49 =>
  nmx (i0 + 1) fun x50 =>
  rc 3 S49 p0 x50) else none
noncomputable def s_X6_putWay (rc : Nat → xS → Nat → Int → Option (Int × xS)) (fu lb : Nat) (S : xS) (p0 : Nat) (i0 : Int) : Option (Int × xS) := match lb with
    | 0 => b_X6_putWay_0 rc fu S p0 i0
    | 1 => b_X6_putWay_1 rc fu S p0 i0
    | 2 => b_X6_putWay_2 rc fu S p0 i0
    | _ => b_X6_putWay_3 rc fu S p0 i0
noncomputable def g_X6_putWay (k : Nat) : Nat → xS → Nat → Int → Option (Int × xS) := Nat.rec (motive := fun _ => Nat → xS → Nat → Int → Option (Int × xS)) (fun _ _ _ _ => none) (fun fu rc => s_X6_putWay rc fu) k
noncomputable def f_X6_putWay (fu : Nat) (S : xS) (p0 : Nat) : Option (Int × xS) := g_X6_putWay fu 0 S p0 0
noncomputable def f_X6_swapHand (fu : Nat) (S : xS) (p0 : Nat) (i0 : Int) (i1 : Int) : Option (Int × xS) :=
  (rdFp 5 6 S p0).bind fun q2 =>
  (rdA 0 S q2 i0).bind fun x3 =>
  (rdFp 5 6 S p0).bind fun q6 =>
  (rdFp 5 6 S p0).bind fun q8 =>
  (rdA 0 S q8 i1).bind fun x9 =>
  (wrA 0 S q6 i0 x9).bind fun S12 =>
  (rdFp 5 6 S12 p0).bind fun q14 =>
  (wrA 0 S12 q14 i1 x3).bind fun S16 =>
  some ((0 : Int), S16)
noncomputable def b_X6_swap_0 (rc : Nat → xS → Nat → Int → Int → Option (Int × xS)) (fu : Nat) (S : xS) (p0 : Nat) (i0 i1 : Int) : Option (Int × xS) :=
  if isO 5 S p0 = true then
  bd2 (f_X6_isBox fu S p0 i0) fun x3 S1 =>
  if wI x3 = 0 then (rc 1 S1 p0 0 0)
  else (if isO 5 S1 p0 = true then
  bd2 (f_X6_isBox fu S1 p0 i1) fun x8 S6 =>
  if wI x8 = 0 then (rc 1 S6 p0 0 0)
  else (if wI i0 = wI i1 then (rc 1 S6 p0 0 0)
  else (if isO 5 S6 p0 = true then
  bd2 (f_X6_rankNow fu S6 p0) fun x14 S12 =>
  (wrF 5 7 S12 p0 (.inl x14)).bind fun S17 =>
  if isO 5 S17 p0 = true then
  bd2 (f_X6_swapHand fu S17 p0 i0 i1) fun z20 S18 =>
  if isO 5 S18 p0 = true then
  bd2 (f_X6_putWay fu S18 p0) fun z24 S22 =>
  some (1, S22) else none else none else none)) else none) else none
noncomputable def b_X6_swap_1 (rc : Nat → xS → Nat → Int → Int → Option (Int × xS)) (fu : Nat) (S : xS) (p0 : Nat) (i0 i1 : Int) : Option (Int × xS) :=
  if isO 5 S p0 = true then
  bd2 (f_X6_bad fu S p0 ((-2))) fun x28 S26 =>
  some (x28, S26) else none
noncomputable def s_X6_swap (rc : Nat → xS → Nat → Int → Int → Option (Int × xS)) (fu lb : Nat) (S : xS) (p0 : Nat) (i0 i1 : Int) : Option (Int × xS) := match lb with
    | 0 => b_X6_swap_0 rc fu S p0 i0 i1
    | _ => b_X6_swap_1 rc fu S p0 i0 i1
noncomputable def g_X6_swap (k : Nat) : Nat → xS → Nat → Int → Int → Option (Int × xS) := Nat.rec (motive := fun _ => Nat → xS → Nat → Int → Int → Option (Int × xS)) (fun _ _ _ _ _ => none) (fun fu rc => s_X6_swap rc fu) k
noncomputable def f_X6_swap (fu : Nat) (S : xS) (p0 : Nat) (i0 : Int) (i1 : Int) : Option (Int × xS) := g_X6_swap fu 0 S p0 i0 i1
noncomputable def f_X6_lay (fu : Nat) (S : xS) (p0 : Nat) (i0 : Int) : Option (Int × xS) :=
  if isO 5 S p0 = true then
  bd2 (f_X6_ways fu S p0) fun x3 S1 =>
  bd2 (f_X6_in fu S1 (wI i0) 0 (wI (x3 - 1))) fun x7 S5 =>
  if wI x7 = 0 then (if isO 5 S5 p0 = true then
  bd2 (f_X6_bad fu S5 p0 ((-2))) fun x27 S25 =>
  some (x27, S25) else none)
  else (if isO 5 S5 p0 = true then
  bd2 (f_X6_rankNow fu S5 p0) fun x11 S9 =>
  (wrF 5 7 S9 p0 (.inl x11)).bind fun S14 =>
  if isO 5 S14 p0 = true then
  bd2 (f_X6_takeRank fu S14 p0 i0) fun z17 S15 =>
  if isO 5 S15 p0 = true then
  bd2 (f_X6_putWay fu S15 p0) fun z21 S19 =>
  (rdFi 5 7 S19 p0).bind fun x24 =>
  some (x24, S19) else none else none else none) else none
noncomputable def b_X6_undo_0 (rc : Nat → xS → Nat → Int → Option (Int × xS)) (fu : Nat) (S : xS) (p0 : Nat) (i0 : Int) : Option (Int × xS) :=
  (rdFp 5 0 S p0).bind fun q2 =>
  (rdA 0 S q2 46).bind fun x3 =>
  if wI x3 = 0 then (if isO 5 S p0 = true then
  bd2 (f_X6_no fu S p0) fun x26 S24 =>
  some (x26, S24) else none)
  else ((rdFp 5 0 S p0).bind fun q7 =>
  (rdA 0 S q7 46).bind fun x8 =>
  (wrA 0 S q7 46 (x8 - 1)).bind fun S11 =>
  (rdFp 5 0 S11 p0).bind fun q13 =>
  (rdFp 5 0 S11 p0).bind fun q15 =>
  (rdA 0 S11 q15 46).bind fun x16 =>
  (rdA 0 S11 q13 (47 + x16)).bind fun x18 =>
  if isO 5 S11 p0 = true then
  bd2 (f_X6_takeRank fu S11 p0 x18) fun z22 S20 =>
  rc 1 S20 p0 0 else none)
noncomputable def b_X6_undo_1 (rc : Nat → xS → Nat → Int → Option (Int × xS)) (fu : Nat) (S : xS) (p0 : Nat) (i0 : Int) : Option (Int × xS) :=
  if isO 5 S p0 = true then
  bd2 (f_X6_n fu S p0) fun x30 S28 =>
  if wI x30 ≤ wI i0 then (some (1, S28))
  else ((rdFp 5 0 S28 p0).bind fun q34 =>
  (rdFp 5 6 S28 p0).bind fun q36 =>
  (rdA 0 S28 q36 i0).bind fun x37 =>
  (wrA 0 S28 q34 (3 + i0) x37).bind fun S40 =>
  nmx (i0 + 1) fun x41 =>
  rc 1 S40 p0 x41) else none
noncomputable def s_X6_undo (rc : Nat → xS → Nat → Int → Option (Int × xS)) (fu lb : Nat) (S : xS) (p0 : Nat) (i0 : Int) : Option (Int × xS) := match lb with
    | 0 => b_X6_undo_0 rc fu S p0 i0
    | _ => b_X6_undo_1 rc fu S p0 i0
noncomputable def g_X6_undo (k : Nat) : Nat → xS → Nat → Int → Option (Int × xS) := Nat.rec (motive := fun _ => Nat → xS → Nat → Int → Option (Int × xS)) (fun _ _ _ _ => none) (fun fu rc => s_X6_undo rc fu) k
noncomputable def f_X6_undo (fu : Nat) (S : xS) (p0 : Nat) : Option (Int × xS) := g_X6_undo fu 0 S p0 0
noncomputable def b_X6_isKnown_0 (rc : Nat → xS → Nat → Int → Int → Int → Option (Int × xS)) (fu : Nat) (S : xS) (p0 : Nat) (i0 i1 i2 : Int) : Option (Int × xS) :=
  rc 1 S p0 i0 0 0
noncomputable def b_X6_isKnown_1 (rc : Nat → xS → Nat → Int → Int → Int → Option (Int × xS)) (fu : Nat) (S : xS) (p0 : Nat) (i0 i1 i2 : Int) : Option (Int × xS) :=
  (rdA 0 S p0 0).bind fun x1 =>
  if wI x1 ≤ wI i2 then (if i1 = 0 ∨ i1 = 1 then some (i1, S) else none)
  else (if wI i1 = 0 then ((rdA 0 S p0 (17 + i2)).bind fun x6 =>
  if wI x6 = wI i0 then (rc 2 S p0 i0 i2 0)
  else (rc 3 S p0 i0 i2 0))
  else (rc 2 S p0 i0 i2 0))
noncomputable def b_X6_isKnown_2 (rc : Nat → xS → Nat → Int → Int → Int → Option (Int × xS)) (fu : Nat) (S : xS) (p0 : Nat) (i0 i1 i2 : Int) : Option (Int × xS) :=
  rc 3 S p0 i0 i1 1
noncomputable def b_X6_isKnown_3 (rc : Nat → xS → Nat → Int → Int → Int → Option (Int × xS)) (fu : Nat) (S : xS) (p0 : Nat) (i0 i1 i2 : Int) : Option (Int × xS) :=
  nmx (i1 + 1) fun x9 =>
  rc 1 S p0 i0 i2 x9
noncomputable def s_X6_isKnown (rc : Nat → xS → Nat → Int → Int → Int → Option (Int × xS)) (fu lb : Nat) (S : xS) (p0 : Nat) (i0 i1 i2 : Int) : Option (Int × xS) := match lb with
    | 0 => b_X6_isKnown_0 rc fu S p0 i0 i1 i2
    | 1 => b_X6_isKnown_1 rc fu S p0 i0 i1 i2
    | 2 => b_X6_isKnown_2 rc fu S p0 i0 i1 i2
    | _ => b_X6_isKnown_3 rc fu S p0 i0 i1 i2
noncomputable def g_X6_isKnown (k : Nat) : Nat → xS → Nat → Int → Int → Int → Option (Int × xS) := Nat.rec (motive := fun _ => Nat → xS → Nat → Int → Int → Int → Option (Int × xS)) (fun _ _ _ _ _ _ => none) (fun fu rc => s_X6_isKnown rc fu) k
noncomputable def f_X6_isKnown (fu : Nat) (S : xS) (p0 : Nat) (i0 : Int) : Option (Int × xS) := g_X6_isKnown fu 0 S p0 i0 0 0
noncomputable def b_X6_know_0 (rc : Nat → xS → Nat → Int → Int → Option (Int × xS)) (fu : Nat) (S : xS) (p0 : Nat) (i0 i1 : Int) : Option (Int × xS) :=
  if isO 5 S p0 = true then
  bd2 (f_X6_isBox fu S p0 i0) fun x3 S1 =>
  if wI x3 = 0 then (rc 1 S1 p0 0 0)
  else (if isO 5 S1 p0 = true then
  bd2 (f_X6_isBox fu S1 p0 i1) fun x8 S6 =>
  if wI x8 = 0 then (rc 1 S6 p0 0 0)
  else ((rdFp 5 0 S6 p0).bind fun q12 =>
  (rdA 0 S6 q12 (17 + i0)).bind fun x13 =>
  if wI x13 = wI ((-1)) then ((rdFp 5 0 S6 p0).bind fun q17 =>
  bd2 (f_X6_isKnown fu S6 q17 i1) fun x20 S18 =>
  if wI x20 = 0 then ((rdFp 5 0 S18 p0).bind fun q23 =>
  (wrA 0 S18 q23 (17 + i0) i1).bind fun S25 =>
  some (1, S25))
  else (rc 2 S18 p0 0 0))
  else (rc 2 S6 p0 0 0)) else none) else none
noncomputable def b_X6_know_1 (rc : Nat → xS → Nat → Int → Int → Option (Int × xS)) (fu : Nat) (S : xS) (p0 : Nat) (i0 i1 : Int) : Option (Int × xS) :=
  if isO 5 S p0 = true then
  bd2 (f_X6_bad fu S p0 ((-2))) fun x28 S26 =>
  some (x28, S26) else none
noncomputable def b_X6_know_2 (rc : Nat → xS → Nat → Int → Int → Option (Int × xS)) (fu : Nat) (S : xS) (p0 : Nat) (i0 i1 : Int) : Option (Int × xS) :=
  if isO 5 S p0 = true then
  bd2 (f_X6_no fu S p0) fun x32 S30 =>
  some (x32, S30) else none
noncomputable def s_X6_know (rc : Nat → xS → Nat → Int → Int → Option (Int × xS)) (fu lb : Nat) (S : xS) (p0 : Nat) (i0 i1 : Int) : Option (Int × xS) := match lb with
    | 0 => b_X6_know_0 rc fu S p0 i0 i1
    | 1 => b_X6_know_1 rc fu S p0 i0 i1
    | _ => b_X6_know_2 rc fu S p0 i0 i1
noncomputable def g_X6_know (k : Nat) : Nat → xS → Nat → Int → Int → Option (Int × xS) := Nat.rec (motive := fun _ => Nat → xS → Nat → Int → Int → Option (Int × xS)) (fun _ _ _ _ _ => none) (fun fu rc => s_X6_know rc fu) k
noncomputable def f_X6_know (fu : Nat) (S : xS) (p0 : Nat) (i0 : Int) (i1 : Int) : Option (Int × xS) := g_X6_know fu 0 S p0 i0 i1
noncomputable def f_X6_layReport (fu : Nat) (S : xS) (p0 : Nat) (i0 : Int) (i1 : Int) : Option (Int × xS) :=
  (rdA 0 S p0 24).bind fun x1 =>
  (wrA 0 S p0 (25 + (2 * x1)) i0).bind fun S4 =>
  (rdA 0 S4 p0 24).bind fun x5 =>
  (wrA 0 S4 p0 ((25 + (2 * x5)) + 1) i1).bind fun S8 =>
  (rdA 0 S8 p0 24).bind fun x9 =>
  (wrA 0 S8 p0 24 (x9 + 1)).bind fun S12 =>
  some ((0 : Int), S12)
noncomputable def b_X6_report_0 (rc : Nat → xS → Nat → Int → Int → Option (Int × xS)) (fu : Nat) (S : xS) (p0 : Nat) (i0 i1 : Int) : Option (Int × xS) :=
  if isO 5 S p0 = true then
  bd2 (f_X6_isBox fu S p0 i0) fun x3 S1 =>
  if wI x3 = 0 then (rc 1 S1 p0 0 0)
  else (if isO 5 S1 p0 = true then
  bd2 (f_X6_n fu S1 p0) fun x8 S6 =>
  bd2 (f_X6_in fu S6 (wI i1) 0 (wI x8)) fun x12 S10 =>
  if wI x12 = 0 then (rc 1 S10 p0 0 0)
  else ((rdFp 5 0 S10 p0).bind fun q15 =>
  (rdA 0 S10 q15 24).bind fun x16 =>
  if wI x16 = wI 8 then (if isO 5 S10 p0 = true then
  bd2 (f_X6_full fu S10 p0) fun x30 S28 =>
  some (x30, S28) else none)
  else ((rdFp 5 0 S10 p0).bind fun q20 =>
  bd2 (f_X6_layReport fu S10 q20 i0 i1) fun z23 S21 =>
  (rdFp 5 0 S21 p0).bind fun q25 =>
  (rdA 0 S21 q25 24).bind fun x26 =>
  some (x26 - 1, S21))) else none) else none
noncomputable def b_X6_report_1 (rc : Nat → xS → Nat → Int → Int → Option (Int × xS)) (fu : Nat) (S : xS) (p0 : Nat) (i0 i1 : Int) : Option (Int × xS) :=
  if isO 5 S p0 = true then
  bd2 (f_X6_bad fu S p0 ((-2))) fun x34 S32 =>
  some (x34, S32) else none
noncomputable def s_X6_report (rc : Nat → xS → Nat → Int → Int → Option (Int × xS)) (fu lb : Nat) (S : xS) (p0 : Nat) (i0 i1 : Int) : Option (Int × xS) := match lb with
    | 0 => b_X6_report_0 rc fu S p0 i0 i1
    | _ => b_X6_report_1 rc fu S p0 i0 i1
noncomputable def g_X6_report (k : Nat) : Nat → xS → Nat → Int → Int → Option (Int × xS) := Nat.rec (motive := fun _ => Nat → xS → Nat → Int → Int → Option (Int × xS)) (fun _ _ _ _ _ => none) (fun fu rc => s_X6_report rc fu) k
noncomputable def f_X6_report (fu : Nat) (S : xS) (p0 : Nat) (i0 : Int) (i1 : Int) : Option (Int × xS) := g_X6_report fu 0 S p0 i0 i1
noncomputable def b_X6_known_0 (rc : Nat → xS → Nat → Int → Int → Int → Option (Int × xS)) (fu : Nat) (S : xS) (p0 : Nat) (i0 i1 i2 : Int) : Option (Int × xS) :=
  rc 1 S p0 0 0 0
noncomputable def b_X6_known_1 (rc : Nat → xS → Nat → Int → Int → Int → Option (Int × xS)) (fu : Nat) (S : xS) (p0 : Nat) (i0 i1 i2 : Int) : Option (Int × xS) :=
  if isO 5 S p0 = true then
  bd2 (f_X6_n fu S p0) fun x3 S1 =>
  if wI x3 ≤ wI i1 then (some (i0, S1))
  else ((rdFp 5 0 S1 p0).bind fun q7 =>
  (rdA 0 S1 q7 (17 + i1)).bind fun x8 =>
  if wI x8 = wI ((-1)) then (rc 2 S1 p0 i1 i0 0)
  else (rc 2 S1 p0 i1 i0 1)) else none
noncomputable def b_X6_known_2 (rc : Nat → xS → Nat → Int → Int → Int → Option (Int × xS)) (fu : Nat) (S : xS) (p0 : Nat) (i0 i1 i2 : Int) : Option (Int × xS) :=
  nmx (i1 + i2) fun x11 =>
  nmx (i0 + 1) fun x13 =>
  rc 1 S p0 x11 x13 0
noncomputable def s_X6_known (rc : Nat → xS → Nat → Int → Int → Int → Option (Int × xS)) (fu lb : Nat) (S : xS) (p0 : Nat) (i0 i1 i2 : Int) : Option (Int × xS) := match lb with
    | 0 => b_X6_known_0 rc fu S p0 i0 i1 i2
    | 1 => b_X6_known_1 rc fu S p0 i0 i1 i2
    | _ => b_X6_known_2 rc fu S p0 i0 i1 i2
noncomputable def g_X6_known (k : Nat) : Nat → xS → Nat → Int → Int → Int → Option (Int × xS) := Nat.rec (motive := fun _ => Nat → xS → Nat → Int → Int → Int → Option (Int × xS)) (fun _ _ _ _ _ _ => none) (fun fu rc => s_X6_known rc fu) k
noncomputable def f_X6_known (fu : Nat) (S : xS) (p0 : Nat) : Option (Int × xS) := g_X6_known fu 0 S p0 0 0 0
noncomputable def b_X6_forget_0 (rc : Nat → xS → Nat → Int → Int → Int → Option (Int × xS)) (fu : Nat) (S : xS) (p0 : Nat) (i0 i1 i2 : Int) : Option (Int × xS) :=
  bd2 (f_X6_in fu S (wI i0) 0 1) fun x3 S1 =>
  if wI x3 = 0 then (if isO 5 S1 p0 = true then
  bd2 (f_X6_bad fu S1 p0 ((-2))) fun x16 S14 =>
  some (x16, S14) else none)
  else (if wI i0 = 0 then (if isO 5 S1 p0 = true then
  bd2 (f_X6_known fu S1 p0) fun x12 S10 =>
  rc 1 S10 p0 i0 x12 0 else none)
  else ((rdFp 5 0 S1 p0).bind fun q7 =>
  (rdA 0 S1 q7 24).bind fun x8 =>
  rc 1 S1 p0 i0 x8 0))
noncomputable def b_X6_forget_1 (rc : Nat → xS → Nat → Int → Int → Int → Option (Int × xS)) (fu : Nat) (S : xS) (p0 : Nat) (i0 i1 i2 : Int) : Option (Int × xS) :=
  rc 2 S p0 i0 i1 0
noncomputable def b_X6_forget_2 (rc : Nat → xS → Nat → Int → Int → Int → Option (Int × xS)) (fu : Nat) (S : xS) (p0 : Nat) (i0 i1 i2 : Int) : Option (Int × xS) :=
  if wI 7 ≤ wI i2 then (rc 3 S p0 i0 i1 0)
  else (if wI i0 = 0 then ((rdFp 5 0 S p0).bind fun q21 =>
  (wrA 0 S q21 (17 + i2) ((-1))).bind fun S23 =>
  nmx (i2 + 1) fun x24 =>
  rc 2 S23 p0 i0 i1 x24)
  else (rc 3 S p0 i0 i1 0))
noncomputable def b_X6_forget_3 (rc : Nat → xS → Nat → Int → Int → Int → Option (Int × xS)) (fu : Nat) (S : xS) (p0 : Nat) (i0 i1 i2 : Int) : Option (Int × xS) :=
  (rdFp 5 0 S p0).bind fun q27 =>
  if wI i0 = wI 1 then ((wrA 0 S q27 24 0).bind fun S36 =>
  some (i1, S36))
  else ((rdFp 5 0 S p0).bind fun q30 =>
  (rdA 0 S q30 24).bind fun x31 =>
  (wrA 0 S q27 24 x31).bind fun S34 =>
  some (i1, S34))
noncomputable def s_X6_forget (rc : Nat → xS → Nat → Int → Int → Int → Option (Int × xS)) (fu lb : Nat) (S : xS) (p0 : Nat) (i0 i1 i2 : Int) : Option (Int × xS) := match lb with
    | 0 => b_X6_forget_0 rc fu S p0 i0 i1 i2
    | 1 => b_X6_forget_1 rc fu S p0 i0 i1 i2
    | 2 => b_X6_forget_2 rc fu S p0 i0 i1 i2
    | _ => b_X6_forget_3 rc fu S p0 i0 i1 i2
noncomputable def g_X6_forget (k : Nat) : Nat → xS → Nat → Int → Int → Int → Option (Int × xS) := Nat.rec (motive := fun _ => Nat → xS → Nat → Int → Int → Int → Option (Int × xS)) (fun _ _ _ _ _ _ => none) (fun fu rc => s_X6_forget rc fu) k
noncomputable def f_X6_forget (fu : Nat) (S : xS) (p0 : Nat) (i0 : Int) : Option (Int × xS) := g_X6_forget fu 0 S p0 i0 0 0
noncomputable def b_X6_free_0 (rc : Nat → xS → Nat → Int → Int → Option (Int × xS)) (fu : Nat) (S : xS) (p0 : Nat) (i0 i1 : Int) : Option (Int × xS) :=
  rc 1 S p0 i1 i0
noncomputable def b_X6_free_1 (rc : Nat → xS → Nat → Int → Int → Option (Int × xS)) (fu : Nat) (S : xS) (p0 : Nat) (i0 i1 : Int) : Option (Int × xS) :=
  if wI (xAnd (xShr i0 i1) 1) = wI 1 then (if isO 5 S p0 = true then
  bd2 (f_X6_n fu S p0) fun x4 S2 =>
  if wI x4 = 0 then none else
  nmx ((wI (i1 + 1)).tmod (wI x4)) fun x7 =>
  rc 1 S2 p0 i0 x7 else none)
  else (some (i1, S))
noncomputable def s_X6_free (rc : Nat → xS → Nat → Int → Int → Option (Int × xS)) (fu lb : Nat) (S : xS) (p0 : Nat) (i0 i1 : Int) : Option (Int × xS) := match lb with
    | 0 => b_X6_free_0 rc fu S p0 i0 i1
    | _ => b_X6_free_1 rc fu S p0 i0 i1
noncomputable def g_X6_free (k : Nat) : Nat → xS → Nat → Int → Int → Option (Int × xS) := Nat.rec (motive := fun _ => Nat → xS → Nat → Int → Int → Option (Int × xS)) (fun _ _ _ _ _ => none) (fun fu rc => s_X6_free rc fu) k
noncomputable def f_X6_free (fu : Nat) (S : xS) (p0 : Nat) (i0 : Int) (i1 : Int) : Option (Int × xS) := g_X6_free fu 0 S p0 i0 i1
noncomputable def f_X6_evenBox (fu : Nat) (S : xS) (p0 : Nat) (i0 : Int) : Option (Int × xS) :=
  if isO 5 S p0 = true then
  bd2 (f_X6_n fu S p0) fun x3 S1 =>
  if wI 2 = 0 then none else
  nmx ((wI (x3 + 1)).tdiv (wI 2)) fun x6 =>
  if wI x6 ≤ wI i0 then (some ((2 * (i0 - x6)) + 1, S1))
  else (some (2 * i0, S1)) else none
noncomputable def b_X6_boxOf_0 (rc : Nat → xS → Nat → Nat → Int → Int → Int → Int → Int → Option (Int × xS)) (fu : Nat) (S : xS) (p0 p1 : Nat) (i0 i1 i2 i3 i4 : Int) : Option (Int × xS) :=
  if wI i1 = 0 then (rc 1 S p0 0 i0 i1 i2 0 0)
  else ((rdFp 5 8 S p0).bind fun q3 =>
  (rdA 0 S q3 (i1 - 1)).bind fun x4 =>
  rc 1 S p0 0 i0 i1 i2 x4 0)
noncomputable def b_X6_boxOf_1 (rc : Nat → xS → Nat → Nat → Int → Int → Int → Int → Int → Option (Int × xS)) (fu : Nat) (S : xS) (p0 p1 : Nat) (i0 i1 i2 i3 i4 : Int) : Option (Int × xS) :=
  if wI i1 = 0 then (rc 2 S p0 0 i0 i1 i2 i3 i0)
  else ((rdFp 5 6 S p0).bind fun q8 =>
  (rdA 0 S q8 i3).bind fun x9 =>
  rc 2 S p0 0 i0 i1 i2 i3 x9)
noncomputable def b_X6_boxOf_2 (rc : Nat → xS → Nat → Nat → Int → Int → Int → Int → Int → Option (Int × xS)) (fu : Nat) (S : xS) (p0 p1 : Nat) (i0 i1 i2 i3 i4 : Int) : Option (Int × xS) :=
  (rdFp 5 0 S p0).bind fun q12 =>
  (rdA 0 S q12 (10 + i0)).bind fun x13 =>
  if wI x13 = 1 then (some (i1, S)) else
  if wI x13 = 2 then (if isO 5 S p0 = true then
  bd2 (f_X6_n fu S p0) fun x19 S17 =>
  some ((x19 - 1) - i1, S17) else none) else
  if wI x13 = 3 then (if isO 5 S p0 = true then
  bd2 (f_X6_evenBox fu S p0 i1) fun x24 S22 =>
  some (x24, S22) else none) else
  if wI x13 = 4 then ((rdFp 5 0 S p0).bind fun q28 =>
  (rdA 0 S q28 2).bind fun x29 =>
  if isO 5 S p0 = true then
  bd2 (f_X6_n fu S p0) fun x33 S31 =>
  if wI x33 = 0 then none else
  if isO 5 S31 p0 = true then
  bd2 (f_X6_free fu S31 p0 ((wI (i4 + x29)).tmod (wI x33)) i2) fun x38 S36 =>
  some (x38, S36) else none else none) else
  if wI x13 = 5 then (if wI i1 = 0 then (some (0, S))
  else ((rdFp 5 0 S p0).bind fun q43 =>
  (rdA 0 S q43 2).bind fun x44 =>
  if wI x44 = 0 then (rc 3 S p0 p0 i2 i3 1 0 0)
  else ((rdFp 5 0 S p0).bind fun q48 =>
  (rdA 0 S q48 2).bind fun x49 =>
  rc 3 S p0 p0 i2 i3 x49 0 0))) else
  (some (i4, S))
noncomputable def b_X6_boxOf_3 (rc : Nat → xS → Nat → Nat → Int → Int → Int → Int → Int → Option (Int × xS)) (fu : Nat) (S : xS) (p0 p1 : Nat) (i0 i1 i2 i3 i4 : Int) : Option (Int × xS) :=
  if isO 5 S p0 = true then
  bd2 (f_X6_n fu S p0) fun x53 S51 =>
  if wI x53 = 0 then none else
  if isO 5 S51 p1 = true then
  bd2 (f_X6_free fu S51 p1 ((wI (i1 + i2)).tmod (wI x53)) i0) fun x58 S56 =>
  some (x58, S56) else none else none
noncomputable def s_X6_boxOf (rc : Nat → xS → Nat → Nat → Int → Int → Int → Int → Int → Option (Int × xS)) (fu lb : Nat) (S : xS) (p0 p1 : Nat) (i0 i1 i2 i3 i4 : Int) : Option (Int × xS) := match lb with
    | 0 => b_X6_boxOf_0 rc fu S p0 p1 i0 i1 i2 i3 i4
    | 1 => b_X6_boxOf_1 rc fu S p0 p1 i0 i1 i2 i3 i4
    | 2 => b_X6_boxOf_2 rc fu S p0 p1 i0 i1 i2 i3 i4
    | _ => b_X6_boxOf_3 rc fu S p0 p1 i0 i1 i2 i3 i4
noncomputable def g_X6_boxOf (k : Nat) : Nat → xS → Nat → Nat → Int → Int → Int → Int → Int → Option (Int × xS) := Nat.rec (motive := fun _ => Nat → xS → Nat → Nat → Int → Int → Int → Int → Int → Option (Int × xS)) (fun _ _ _ _ _ _ _ _ _ => none) (fun fu rc => s_X6_boxOf rc fu) k
noncomputable def f_X6_boxOf (fu : Nat) (S : xS) (p0 : Nat) (i0 : Int) (i1 : Int) (i2 : Int) : Option (Int × xS) := g_X6_boxOf fu 0 S p0 0 i0 i1 i2 0 0
noncomputable def b_X6_seek_0 (rc : Nat → xS → Nat → Nat → Int → Int → Int → Option (Int × xS)) (fu : Nat) (S : xS) (p0 p1 : Nat) (i0 i1 i2 : Int) : Option (Int × xS) :=
  (wrF 5 9 S p0 (.inl 0)).bind fun S2 =>
  (wrF 5 10 S2 p0 (.inl 0)).bind fun S4 =>
  rc 1 S4 p0 0 i0 0 0
noncomputable def b_X6_seek_1 (rc : Nat → xS → Nat → Nat → Int → Int → Int → Option (Int × xS)) (fu : Nat) (S : xS) (p0 p1 : Nat) (i0 i1 i2 : Int) : Option (Int × xS) :=
  (rdFi 5 10 S p0).bind fun x7 =>
  if wI x7 = 0 then ((rdFi 5 9 S p0).bind fun x10 =>
  (rdFp 5 0 S p0).bind fun q12 =>
  (rdA 0 S q12 1).bind fun x13 =>
  if wI x13 ≤ wI x10 then (some ((0 : Int), S))
  else ((rdFi 5 9 S p0).bind fun x17 =>
  if isO 5 S p0 = true then
  bd2 (f_X6_boxOf fu S p0 i0 x17 i1) fun x20 S18 =>
  (rdFp 5 8 S18 p0).bind fun q23 =>
  (rdFi 5 9 S18 p0).bind fun x25 =>
  (wrA 0 S18 q23 x25 x20).bind fun S27 =>
  (rdFi 5 9 S27 p0).bind fun x29 =>
  (wrF 5 9 S27 p0 (.inl (x29 + 1))).bind fun S31 =>
  nmx (xOr i1 (xShl 1 x20)) fun x32 =>
  (rdFp 5 6 S31 p0).bind fun q35 =>
  (rdA 0 S31 q35 x20).bind fun x36 =>
  if wI x36 = wI i0 then (rc 2 S31 p0 p0 i0 x32 1)
  else (rc 2 S31 p0 p0 i0 x32 0) else none))
  else (some ((0 : Int), S))
noncomputable def b_X6_seek_2 (rc : Nat → xS → Nat → Nat → Int → Int → Int → Option (Int × xS)) (fu : Nat) (S : xS) (p0 p1 : Nat) (i0 i1 i2 : Int) : Option (Int × xS) :=
  if i2 = 0 ∨ i2 = 1 then
  (wrF 5 10 S p1 (.inl i2)).bind fun S40 =>
  rc 1 S40 p0 0 i0 i1 0 else none
noncomputable def s_X6_seek (rc : Nat → xS → Nat → Nat → Int → Int → Int → Option (Int × xS)) (fu lb : Nat) (S : xS) (p0 p1 : Nat) (i0 i1 i2 : Int) : Option (Int × xS) := match lb with
    | 0 => b_X6_seek_0 rc fu S p0 p1 i0 i1 i2
    | 1 => b_X6_seek_1 rc fu S p0 p1 i0 i1 i2
    | _ => b_X6_seek_2 rc fu S p0 p1 i0 i1 i2
noncomputable def g_X6_seek (k : Nat) : Nat → xS → Nat → Nat → Int → Int → Int → Option (Int × xS) := Nat.rec (motive := fun _ => Nat → xS → Nat → Nat → Int → Int → Int → Option (Int × xS)) (fun _ _ _ _ _ _ _ => none) (fun fu rc => s_X6_seek rc fu) k
noncomputable def f_X6_seek (fu : Nat) (S : xS) (p0 : Nat) (i0 : Int) : Option (Int × xS) := g_X6_seek fu 0 S p0 0 i0 0 0
noncomputable def b_X6_findsHand_0 (rc : Nat → xS → Nat → Int → Int → Int → Option (Int × xS)) (fu : Nat) (S : xS) (p0 : Nat) (i0 i1 i2 : Int) : Option (Int × xS) :=
  rc 1 S p0 0 0 0
noncomputable def b_X6_findsHand_1 (rc : Nat → xS → Nat → Int → Int → Int → Option (Int × xS)) (fu : Nat) (S : xS) (p0 : Nat) (i0 i1 i2 : Int) : Option (Int × xS) :=
  if isO 5 S p0 = true then
  bd2 (f_X6_n fu S p0) fun x3 S1 =>
  if wI x3 ≤ wI i1 then (some (i0, S1))
  else (if isO 5 S1 p0 = true then
  bd2 (f_X6_seek fu S1 p0 i1) fun z8 S6 =>
  (rdFi 5 10 S6 p0).bind fun x11 =>
  if wI x11 = 0 then (rc 2 S6 p0 i1 i0 0)
  else (rc 2 S6 p0 i1 i0 (xShl 1 i1)) else none) else none
noncomputable def b_X6_findsHand_2 (rc : Nat → xS → Nat → Int → Int → Int → Option (Int × xS)) (fu : Nat) (S : xS) (p0 : Nat) (i0 i1 i2 : Int) : Option (Int × xS) :=
  nmx (xOr i1 i2) fun x13 =>
  nmx (i0 + 1) fun x15 =>
  rc 1 S p0 x13 x15 0
noncomputable def s_X6_findsHand (rc : Nat → xS → Nat → Int → Int → Int → Option (Int × xS)) (fu lb : Nat) (S : xS) (p0 : Nat) (i0 i1 i2 : Int) : Option (Int × xS) := match lb with
    | 0 => b_X6_findsHand_0 rc fu S p0 i0 i1 i2
    | 1 => b_X6_findsHand_1 rc fu S p0 i0 i1 i2
    | _ => b_X6_findsHand_2 rc fu S p0 i0 i1 i2
noncomputable def g_X6_findsHand (k : Nat) : Nat → xS → Nat → Int → Int → Int → Option (Int × xS) := Nat.rec (motive := fun _ => Nat → xS → Nat → Int → Int → Int → Option (Int × xS)) (fun _ _ _ _ _ _ => none) (fun fu rc => s_X6_findsHand rc fu) k
noncomputable def f_X6_findsHand (fu : Nat) (S : xS) (p0 : Nat) : Option (Int × xS) := g_X6_findsHand fu 0 S p0 0 0 0
noncomputable def f_X6_all (fu : Nat) (S : xS) (p0 : Nat) : Option (Int × xS) :=
  if isO 5 S p0 = true then
  bd2 (f_X6_n fu S p0) fun x3 S1 =>
  some ((xShl 1 x3) - 1, S1) else none
noncomputable def f_X6_slip (fu : Nat) (S : xS) (p0 : Nat) (i0 : Int) : Option (Int × xS) :=
  if isO 5 S p0 = true then
  bd2 (f_X6_isBox fu S p0 i0) fun x3 S1 =>
  if wI x3 = 0 then (if isO 5 S1 p0 = true then
  bd2 (f_X6_bad fu S1 p0 ((-2))) fun x8 S6 =>
  some (x8, S6) else none)
  else ((rdFp 5 0 S1 p0).bind fun q11 =>
  (rdA 0 S1 q11 (3 + i0)).bind fun x12 =>
  some (x12, S1)) else none
noncomputable def f_X6_rank (fu : Nat) (S : xS) (p0 : Nat) : Option (Int × xS) :=
  if isO 5 S p0 = true then
  bd2 (f_X6_rankNow fu S p0) fun x3 S1 =>
  some (x3, S1) else none
noncomputable def b_X6_ringOf_0 (rc : Nat → xS → Nat → Int → Int → Int → Option (Int × xS)) (fu : Nat) (S : xS) (p0 : Nat) (i0 i1 i2 : Int) : Option (Int × xS) :=
  (rdFp 5 6 S p0).bind fun q2 =>
  (rdA 0 S q2 i0).bind fun x3 =>
  rc 1 S p0 i0 1 x3
noncomputable def b_X6_ringOf_1 (rc : Nat → xS → Nat → Int → Int → Int → Option (Int × xS)) (fu : Nat) (S : xS) (p0 : Nat) (i0 i1 i2 : Int) : Option (Int × xS) :=
  if wI i2 = wI i0 then (some (i1, S))
  else ((rdFp 5 6 S p0).bind fun q7 =>
  (rdA 0 S q7 i2).bind fun x8 =>
  nmx (i1 + 1) fun x10 =>
  rc 1 S p0 i0 x10 x8)
noncomputable def s_X6_ringOf (rc : Nat → xS → Nat → Int → Int → Int → Option (Int × xS)) (fu lb : Nat) (S : xS) (p0 : Nat) (i0 i1 i2 : Int) : Option (Int × xS) := match lb with
    | 0 => b_X6_ringOf_0 rc fu S p0 i0 i1 i2
    | _ => b_X6_ringOf_1 rc fu S p0 i0 i1 i2
noncomputable def g_X6_ringOf (k : Nat) : Nat → xS → Nat → Int → Int → Int → Option (Int × xS) := Nat.rec (motive := fun _ => Nat → xS → Nat → Int → Int → Int → Option (Int × xS)) (fun _ _ _ _ _ _ => none) (fun fu rc => s_X6_ringOf rc fu) k
noncomputable def f_X6_ringOf (fu : Nat) (S : xS) (p0 : Nat) (i0 : Int) : Option (Int × xS) := g_X6_ringOf fu 0 S p0 i0 0 0
noncomputable def b_X6_ringsHand_0 (rc : Nat → xS → Nat → Int → Int → Int → Int → Option (Int × xS)) (fu : Nat) (S : xS) (p0 : Nat) (i0 i1 i2 i3 : Int) : Option (Int × xS) :=
  rc 1 S p0 0 0 0 0
noncomputable def b_X6_ringsHand_1 (rc : Nat → xS → Nat → Int → Int → Int → Int → Option (Int × xS)) (fu : Nat) (S : xS) (p0 : Nat) (i0 i1 i2 i3 : Int) : Option (Int × xS) :=
  if isO 5 S p0 = true then
  bd2 (f_X6_n fu S p0) fun x3 S1 =>
  if wI x3 ≤ wI i1 then (some (i0, S1))
  else ((rdFp 5 6 S1 p0).bind fun q7 =>
  (rdA 0 S1 q7 i1).bind fun x8 =>
  rc 2 S1 p0 i0 i1 1 x8) else none
noncomputable def b_X6_ringsHand_2 (rc : Nat → xS → Nat → Int → Int → Int → Int → Option (Int × xS)) (fu : Nat) (S : xS) (p0 : Nat) (i0 i1 i2 i3 : Int) : Option (Int × xS) :=
  if wI i3 = wI i1 then (if wI i2 = 0 then (rc 5 S p0 i1 i0 0 0)
  else (rc 5 S p0 i1 i0 1 0))
  else (if wI i2 = 0 then (rc 3 S p0 i0 i1 i3 0)
  else (if wI i3 ≤ wI i1 then (rc 3 S p0 i0 i1 i3 0)
  else (rc 4 S p0 i0 i1 i3 1)))
noncomputable def b_X6_ringsHand_3 (rc : Nat → xS → Nat → Int → Int → Int → Int → Option (Int × xS)) (fu : Nat) (S : xS) (p0 : Nat) (i0 i1 i2 i3 : Int) : Option (Int × xS) :=
  rc 4 S p0 i0 i1 i2 0
noncomputable def b_X6_ringsHand_4 (rc : Nat → xS → Nat → Int → Int → Int → Int → Option (Int × xS)) (fu : Nat) (S : xS) (p0 : Nat) (i0 i1 i2 i3 : Int) : Option (Int × xS) :=
  (rdFp 5 6 S p0).bind fun q15 =>
  (rdA 0 S q15 i2).bind fun x16 =>
  rc 2 S p0 i0 i1 i3 x16
noncomputable def b_X6_ringsHand_5 (rc : Nat → xS → Nat → Int → Int → Int → Int → Option (Int × xS)) (fu : Nat) (S : xS) (p0 : Nat) (i0 i1 i2 i3 : Int) : Option (Int × xS) :=
  nmx (i1 + i2) fun x18 =>
  nmx (i0 + 1) fun x20 =>
  rc 1 S p0 x18 x20 0 0
noncomputable def s_X6_ringsHand (rc : Nat → xS → Nat → Int → Int → Int → Int → Option (Int × xS)) (fu lb : Nat) (S : xS) (p0 : Nat) (i0 i1 i2 i3 : Int) : Option (Int × xS) := match lb with
    | 0 => b_X6_ringsHand_0 rc fu S p0 i0 i1 i2 i3
    | 1 => b_X6_ringsHand_1 rc fu S p0 i0 i1 i2 i3
    | 2 => b_X6_ringsHand_2 rc fu S p0 i0 i1 i2 i3
    | 3 => b_X6_ringsHand_3 rc fu S p0 i0 i1 i2 i3
    | 4 => b_X6_ringsHand_4 rc fu S p0 i0 i1 i2 i3
    | _ => b_X6_ringsHand_5 rc fu S p0 i0 i1 i2 i3
noncomputable def g_X6_ringsHand (k : Nat) : Nat → xS → Nat → Int → Int → Int → Int → Option (Int × xS) := Nat.rec (motive := fun _ => Nat → xS → Nat → Int → Int → Int → Int → Option (Int × xS)) (fun _ _ _ _ _ _ _ => none) (fun fu rc => s_X6_ringsHand rc fu) k
noncomputable def f_X6_ringsHand (fu : Nat) (S : xS) (p0 : Nat) : Option (Int × xS) := g_X6_ringsHand fu 0 S p0 0 0 0 0
noncomputable def b_X6_rings_0 (rc : Nat → xS → Nat → Int → Option (Int × xS)) (fu : Nat) (S : xS) (p0 : Nat) (i0 : Int) : Option (Int × xS) :=
  if wI i0 = wI ((-1)) then (rc 1 S p0 i0)
  else (if isO 5 S p0 = true then
  bd2 (f_X6_isBox fu S p0 i0) fun x4 S2 =>
  if wI x4 = 0 then (if isO 5 S2 p0 = true then
  bd2 (f_X6_bad fu S2 p0 ((-10))) fun x9 S7 =>
  some (x9, S7) else none)
  else (rc 1 S2 p0 i0) else none)
noncomputable def b_X6_rings_1 (rc : Nat → xS → Nat → Int → Option (Int × xS)) (fu : Nat) (S : xS) (p0 : Nat) (i0 : Int) : Option (Int × xS) :=
  if isO 5 S p0 = true then
  bd2 (f_X6_takeNow fu S p0) fun z13 S11 =>
  if wI i0 = wI ((-1)) then (if isO 5 S11 p0 = true then
  bd2 (f_X6_ringsHand fu S11 p0) fun x22 S20 =>
  some (x22, S20) else none)
  else (if isO 5 S11 p0 = true then
  bd2 (f_X6_ringOf fu S11 p0 i0) fun x18 S16 =>
  some (x18, S16) else none) else none
noncomputable def s_X6_rings (rc : Nat → xS → Nat → Int → Option (Int × xS)) (fu lb : Nat) (S : xS) (p0 : Nat) (i0 : Int) : Option (Int × xS) := match lb with
    | 0 => b_X6_rings_0 rc fu S p0 i0
    | _ => b_X6_rings_1 rc fu S p0 i0
noncomputable def g_X6_rings (k : Nat) : Nat → xS → Nat → Int → Option (Int × xS) := Nat.rec (motive := fun _ => Nat → xS → Nat → Int → Option (Int × xS)) (fun _ _ _ _ => none) (fun fu rc => s_X6_rings rc fu) k
noncomputable def f_X6_rings (fu : Nat) (S : xS) (p0 : Nat) (i0 : Int) : Option (Int × xS) := g_X6_rings fu 0 S p0 i0
noncomputable def b_X6_opened_0 (rc : Nat → xS → Nat → Int → Int → Option (Int × xS)) (fu : Nat) (S : xS) (p0 : Nat) (i0 i1 : Int) : Option (Int × xS) :=
  if isO 5 S p0 = true then
  bd2 (f_X6_isBox fu S p0 i0) fun x3 S1 =>
  if wI x3 = 0 then (rc 1 S1 p0 0 0)
  else (if wI ((-1)) ≤ wI i1 then (if isO 5 S1 p0 = true then
  bd2 (f_X6_takeNow fu S1 p0) fun z9 S7 =>
  if isO 5 S7 p0 = true then
  bd2 (f_X6_seek fu S7 p0 i0) fun z13 S11 =>
  if wI i1 = wI ((-1)) then ((rdFi 5 9 S11 p0).bind fun x24 =>
  some (x24, S11))
  else ((rdFi 5 9 S11 p0).bind fun x17 =>
  if wI x17 ≤ wI i1 then (some ((-5), S11))
  else ((rdFp 5 8 S11 p0).bind fun q20 =>
  (rdA 0 S11 q20 i1).bind fun x21 =>
  some (x21, S11))) else none else none)
  else (rc 1 S1 p0 0 0)) else none
noncomputable def b_X6_opened_1 (rc : Nat → xS → Nat → Int → Int → Option (Int × xS)) (fu : Nat) (S : xS) (p0 : Nat) (i0 i1 : Int) : Option (Int × xS) :=
  if isO 5 S p0 = true then
  bd2 (f_X6_bad fu S p0 ((-10))) fun x27 S25 =>
  some (x27, S25) else none
noncomputable def s_X6_opened (rc : Nat → xS → Nat → Int → Int → Option (Int × xS)) (fu lb : Nat) (S : xS) (p0 : Nat) (i0 i1 : Int) : Option (Int × xS) := match lb with
    | 0 => b_X6_opened_0 rc fu S p0 i0 i1
    | _ => b_X6_opened_1 rc fu S p0 i0 i1
noncomputable def g_X6_opened (k : Nat) : Nat → xS → Nat → Int → Int → Option (Int × xS) := Nat.rec (motive := fun _ => Nat → xS → Nat → Int → Int → Option (Int × xS)) (fun _ _ _ _ _ => none) (fun fu rc => s_X6_opened rc fu) k
noncomputable def f_X6_opened (fu : Nat) (S : xS) (p0 : Nat) (i0 : Int) (i1 : Int) : Option (Int × xS) := g_X6_opened fu 0 S p0 i0 i1
noncomputable def f_X6_finds (fu : Nat) (S : xS) (p0 : Nat) : Option (Int × xS) :=
  if isO 5 S p0 = true then
  bd2 (f_X6_takeNow fu S p0) fun z3 S1 =>
  if isO 5 S1 p0 = true then
  bd2 (f_X6_findsHand fu S1 p0) fun x7 S5 =>
  some (x7, S5) else none else none
noncomputable def b_X6_workHand_0 (rc : Nat → xS → Nat → Int → Int → Int → Int → Option (Int × xS)) (fu : Nat) (S : xS) (p0 : Nat) (i0 i1 i2 i3 : Int) : Option (Int × xS) :=
  rc 1 S p0 i0 0 0 0
noncomputable def b_X6_workHand_1 (rc : Nat → xS → Nat → Int → Int → Int → Int → Option (Int × xS)) (fu : Nat) (S : xS) (p0 : Nat) (i0 i1 i2 i3 : Int) : Option (Int × xS) :=
  if isO 5 S p0 = true then
  bd2 (f_X6_n fu S p0) fun x3 S1 =>
  if wI x3 ≤ wI i1 then (some ((0 : Int), S1))
  else (rc 2 S1 p0 i0 i1 i1 0) else none
noncomputable def b_X6_workHand_2 (rc : Nat → xS → Nat → Int → Int → Int → Int → Option (Int × xS)) (fu : Nat) (S : xS) (p0 : Nat) (i0 i1 i2 i3 : Int) : Option (Int × xS) :=
  if wI i0 ≤ wI i3 then ((rdFp 5 6 S p0).bind fun q8 =>
  (wrA 0 S q8 i1 i2).bind fun S10 =>
  nmx (i1 + 1) fun x11 =>
  rc 1 S10 p0 i0 x11 0 0)
  else ((rdFp 5 0 S p0).bind fun q14 =>
  (rdA 0 S q14 (3 + i2)).bind fun x15 =>
  nmx (i3 + 1) fun x17 =>
  rc 2 S p0 i0 i1 x15 x17)
noncomputable def s_X6_workHand (rc : Nat → xS → Nat → Int → Int → Int → Int → Option (Int × xS)) (fu lb : Nat) (S : xS) (p0 : Nat) (i0 i1 i2 i3 : Int) : Option (Int × xS) := match lb with
    | 0 => b_X6_workHand_0 rc fu S p0 i0 i1 i2 i3
    | 1 => b_X6_workHand_1 rc fu S p0 i0 i1 i2 i3
    | _ => b_X6_workHand_2 rc fu S p0 i0 i1 i2 i3
noncomputable def g_X6_workHand (k : Nat) : Nat → xS → Nat → Int → Int → Int → Int → Option (Int × xS) := Nat.rec (motive := fun _ => Nat → xS → Nat → Int → Int → Int → Int → Option (Int × xS)) (fun _ _ _ _ _ _ _ => none) (fun fu rc => s_X6_workHand rc fu) k
noncomputable def f_X6_workHand (fu : Nat) (S : xS) (p0 : Nat) (i0 : Int) : Option (Int × xS) := g_X6_workHand fu 0 S p0 i0 0 0 0
noncomputable def f_X6_worked (fu : Nat) (S : xS) (p0 : Nat) (i0 : Int) : Option (Int × xS) :=
  bd2 (f_X6_in fu S (wI i0) 0 99) fun x3 S1 =>
  if wI x3 = 0 then (if isO 5 S1 p0 = true then
  bd2 (f_X6_bad fu S1 p0 ((-2))) fun x15 S13 =>
  some (x15, S13) else none)
  else (if isO 5 S1 p0 = true then
  bd2 (f_X6_workHand fu S1 p0 i0) fun z7 S5 =>
  if isO 5 S5 p0 = true then
  bd2 (f_X6_rankOf fu S5 p0) fun x11 S9 =>
  some (x11, S9) else none else none)
noncomputable def b_X6_back_0 (rc : Nat → xS → Nat → Int → Option (Int × xS)) (fu : Nat) (S : xS) (p0 : Nat) (i0 : Int) : Option (Int × xS) :=
  if isO 5 S p0 = true then
  bd2 (f_X6_workHand fu S p0 1) fun z3 S1 =>
  rc 1 S1 p0 1 else none
noncomputable def b_X6_back_1 (rc : Nat → xS → Nat → Int → Option (Int × xS)) (fu : Nat) (S : xS) (p0 : Nat) (i0 : Int) : Option (Int × xS) :=
  if isO 5 S p0 = true then
  bd2 (f_X6_rankOf fu S p0) fun x7 S5 =>
  if wI x7 = 0 then (some (i0, S5))
  else (nmx (i0 + 1) fun x10 =>
  if isO 5 S5 p0 = true then
  bd2 (f_X6_workHand fu S5 p0 x10) fun z14 S12 =>
  rc 1 S12 p0 x10 else none) else none
noncomputable def s_X6_back (rc : Nat → xS → Nat → Int → Option (Int × xS)) (fu lb : Nat) (S : xS) (p0 : Nat) (i0 : Int) : Option (Int × xS) := match lb with
    | 0 => b_X6_back_0 rc fu S p0 i0
    | _ => b_X6_back_1 rc fu S p0 i0
noncomputable def g_X6_back (k : Nat) : Nat → xS → Nat → Int → Option (Int × xS) := Nat.rec (motive := fun _ => Nat → xS → Nat → Int → Option (Int × xS)) (fun _ _ _ _ => none) (fun fu rc => s_X6_back rc fu) k
noncomputable def f_X6_back (fu : Nat) (S : xS) (p0 : Nat) : Option (Int × xS) := g_X6_back fu 0 S p0 0
noncomputable def b_X6_undoes_0 (rc : Nat → xS → Nat → Int → Option (Int × xS)) (fu : Nat) (S : xS) (p0 : Nat) (i0 : Int) : Option (Int × xS) :=
  rc 1 S p0 0
noncomputable def b_X6_undoes_1 (rc : Nat → xS → Nat → Int → Option (Int × xS)) (fu : Nat) (S : xS) (p0 : Nat) (i0 : Int) : Option (Int × xS) :=
  if isO 5 S p0 = true then
  bd2 (f_X6_n fu S p0) fun x3 S1 =>
  if wI x3 ≤ wI i0 then (if isO 5 S1 p0 = true then
  bd2 (f_X6_rankOf fu S1 p0) fun x8 S6 =>
  some (x8, S6) else none)
  else ((rdFp 5 6 S1 p0).bind fun q11 =>
  (rdFp 5 0 S1 p0).bind fun q13 =>
  (rdA 0 S1 q13 (3 + i0)).bind fun x14 =>
  (wrA 0 S1 q11 x14 i0).bind fun S17 =>
  nmx (i0 + 1) fun x18 =>
  rc 1 S17 p0 x18) else none
noncomputable def s_X6_undoes (rc : Nat → xS → Nat → Int → Option (Int × xS)) (fu lb : Nat) (S : xS) (p0 : Nat) (i0 : Int) : Option (Int × xS) := match lb with
    | 0 => b_X6_undoes_0 rc fu S p0 i0
    | _ => b_X6_undoes_1 rc fu S p0 i0
noncomputable def g_X6_undoes (k : Nat) : Nat → xS → Nat → Int → Option (Int × xS) := Nat.rec (motive := fun _ => Nat → xS → Nat → Int → Option (Int × xS)) (fun _ _ _ _ => none) (fun fu rc => s_X6_undoes rc fu) k
noncomputable def f_X6_undoes (fu : Nat) (S : xS) (p0 : Nat) : Option (Int × xS) := g_X6_undoes fu 0 S p0 0
noncomputable def b_X6_goes_0 (rc : Nat → xS → Nat → Int → Int → Option (Int × xS)) (fu : Nat) (S : xS) (p0 : Nat) (i0 i1 : Int) : Option (Int × xS) :=
  if isO 5 S p0 = true then
  bd2 (f_X6_takeRank fu S p0 i0) fun z3 S1 =>
  rc 1 S1 p0 1 0 else none
noncomputable def b_X6_goes_1 (rc : Nat → xS → Nat → Int → Int → Option (Int × xS)) (fu : Nat) (S : xS) (p0 : Nat) (i0 i1 : Int) : Option (Int × xS) :=
  if isO 5 S p0 = true then
  bd2 (f_X6_n fu S p0) fun x7 S5 =>
  if wI x7 ≤ wI i1 then (if i0 = 0 ∨ i0 = 1 then some (i0, S5) else none)
  else (if wI i0 = 0 then (rc 2 S5 p0 i1 0)
  else ((rdFp 5 6 S5 p0).bind fun q13 =>
  (rdFp 5 0 S5 p0).bind fun q15 =>
  (rdA 0 S5 q15 (3 + i1)).bind fun x16 =>
  (rdA 0 S5 q13 x16).bind fun x18 =>
  (rdFp 5 0 S5 p0).bind fun q21 =>
  (rdFp 5 6 S5 p0).bind fun q23 =>
  (rdA 0 S5 q23 i1).bind fun x24 =>
  (rdA 0 S5 q21 (3 + x24)).bind fun x26 =>
  if wI x18 = wI x26 then (rc 3 S5 p0 i1 1)
  else (rc 2 S5 p0 i1 0))) else none
noncomputable def b_X6_goes_2 (rc : Nat → xS → Nat → Int → Int → Option (Int × xS)) (fu : Nat) (S : xS) (p0 : Nat) (i0 i1 : Int) : Option (Int × xS) :=
  rc 3 S p0 i0 0
noncomputable def b_X6_goes_3 (rc : Nat → xS → Nat → Int → Int → Option (Int × xS)) (fu : Nat) (S : xS) (p0 : Nat) (i0 i1 : Int) : Option (Int × xS) :=
  nmx (i0 + 1) fun x29 =>
  rc 1 S p0 i1 x29
noncomputable def s_X6_goes (rc : Nat → xS → Nat → Int → Int → Option (Int × xS)) (fu lb : Nat) (S : xS) (p0 : Nat) (i0 i1 : Int) : Option (Int × xS) := match lb with
    | 0 => b_X6_goes_0 rc fu S p0 i0 i1
    | 1 => b_X6_goes_1 rc fu S p0 i0 i1
    | 2 => b_X6_goes_2 rc fu S p0 i0 i1
    | _ => b_X6_goes_3 rc fu S p0 i0 i1
noncomputable def g_X6_goes (k : Nat) : Nat → xS → Nat → Int → Int → Option (Int × xS) := Nat.rec (motive := fun _ => Nat → xS → Nat → Int → Int → Option (Int × xS)) (fun _ _ _ _ _ => none) (fun fu rc => s_X6_goes rc fu) k
noncomputable def f_X6_goes (fu : Nat) (S : xS) (p0 : Nat) (i0 : Int) : Option (Int × xS) := g_X6_goes fu 0 S p0 i0 0
noncomputable def b_X6_goesWith_0 (rc : Nat → xS → Nat → Int → Int → Int → Option (Int × xS)) (fu : Nat) (S : xS) (p0 : Nat) (i0 i1 i2 : Int) : Option (Int × xS) :=
  rc 1 S p0 0 0 0
noncomputable def b_X6_goesWith_1 (rc : Nat → xS → Nat → Int → Int → Int → Option (Int × xS)) (fu : Nat) (S : xS) (p0 : Nat) (i0 i1 i2 : Int) : Option (Int × xS) :=
  if isO 5 S p0 = true then
  bd2 (f_X6_ways fu S p0) fun x3 S1 =>
  if wI x3 ≤ wI i1 then (some (i0, S1))
  else (if isO 5 S1 p0 = true then
  bd2 (f_X6_goes fu S1 p0 i1) fun x8 S6 =>
  if wI x8 = 0 then (rc 2 S6 p0 i1 i0 0)
  else (rc 2 S6 p0 i1 i0 1) else none) else none
noncomputable def b_X6_goesWith_2 (rc : Nat → xS → Nat → Int → Int → Int → Option (Int × xS)) (fu : Nat) (S : xS) (p0 : Nat) (i0 i1 i2 : Int) : Option (Int × xS) :=
  nmx (i1 + i2) fun x11 =>
  nmx (i0 + 1) fun x13 =>
  rc 1 S p0 x11 x13 0
noncomputable def s_X6_goesWith (rc : Nat → xS → Nat → Int → Int → Int → Option (Int × xS)) (fu lb : Nat) (S : xS) (p0 : Nat) (i0 i1 i2 : Int) : Option (Int × xS) := match lb with
    | 0 => b_X6_goesWith_0 rc fu S p0 i0 i1 i2
    | 1 => b_X6_goesWith_1 rc fu S p0 i0 i1 i2
    | _ => b_X6_goesWith_2 rc fu S p0 i0 i1 i2
noncomputable def g_X6_goesWith (k : Nat) : Nat → xS → Nat → Int → Int → Int → Option (Int × xS) := Nat.rec (motive := fun _ => Nat → xS → Nat → Int → Int → Int → Option (Int × xS)) (fun _ _ _ _ _ _ => none) (fun fu rc => s_X6_goesWith rc fu) k
noncomputable def f_X6_goesWith (fu : Nat) (S : xS) (p0 : Nat) : Option (Int × xS) := g_X6_goesWith fu 0 S p0 0 0 0
noncomputable def b_X6_isRoot_0 (rc : Nat → xS → Nat → Int → Int → Int → Int → Option (Int × xS)) (fu : Nat) (S : xS) (p0 : Nat) (i0 i1 i2 i3 : Int) : Option (Int × xS) :=
  if isO 5 S p0 = true then
  bd2 (f_X6_takeRank fu S p0 i0) fun z3 S1 =>
  rc 1 S1 p0 i1 1 0 0 else none
noncomputable def b_X6_isRoot_1 (rc : Nat → xS → Nat → Int → Int → Int → Int → Option (Int × xS)) (fu : Nat) (S : xS) (p0 : Nat) (i0 i1 i2 i3 : Int) : Option (Int × xS) :=
  if isO 5 S p0 = true then
  bd2 (f_X6_n fu S p0) fun x7 S5 =>
  if wI x7 ≤ wI i2 then (if i1 = 0 ∨ i1 = 1 then some (i1, S5) else none)
  else (if wI i1 = 0 then (if i1 = 0 ∨ i1 = 1 then some (i1, S5) else none)
  else (rc 2 S5 p0 i0 i2 i2 0)) else none
noncomputable def b_X6_isRoot_2 (rc : Nat → xS → Nat → Int → Int → Int → Int → Option (Int × xS)) (fu : Nat) (S : xS) (p0 : Nat) (i0 i1 i2 i3 : Int) : Option (Int × xS) :=
  if wI i0 ≤ wI i3 then ((rdFp 5 0 S p0).bind fun q15 =>
  (rdA 0 S q15 (3 + i1)).bind fun x16 =>
  if wI i2 = wI x16 then (rc 3 S p0 i0 i1 1 0)
  else (rc 3 S p0 i0 i1 0 0))
  else ((rdFp 5 6 S p0).bind fun q20 =>
  (rdA 0 S q20 i2).bind fun x21 =>
  nmx (i3 + 1) fun x23 =>
  rc 2 S p0 i0 i1 x21 x23)
noncomputable def b_X6_isRoot_3 (rc : Nat → xS → Nat → Int → Int → Int → Int → Option (Int × xS)) (fu : Nat) (S : xS) (p0 : Nat) (i0 i1 i2 i3 : Int) : Option (Int × xS) :=
  nmx (i1 + 1) fun x25 =>
  rc 1 S p0 i0 i2 x25 0
noncomputable def s_X6_isRoot (rc : Nat → xS → Nat → Int → Int → Int → Int → Option (Int × xS)) (fu lb : Nat) (S : xS) (p0 : Nat) (i0 i1 i2 i3 : Int) : Option (Int × xS) := match lb with
    | 0 => b_X6_isRoot_0 rc fu S p0 i0 i1 i2 i3
    | 1 => b_X6_isRoot_1 rc fu S p0 i0 i1 i2 i3
    | 2 => b_X6_isRoot_2 rc fu S p0 i0 i1 i2 i3
    | _ => b_X6_isRoot_3 rc fu S p0 i0 i1 i2 i3
noncomputable def g_X6_isRoot (k : Nat) : Nat → xS → Nat → Int → Int → Int → Int → Option (Int × xS) := Nat.rec (motive := fun _ => Nat → xS → Nat → Int → Int → Int → Int → Option (Int × xS)) (fun _ _ _ _ _ _ _ => none) (fun fu rc => s_X6_isRoot rc fu) k
noncomputable def f_X6_isRoot (fu : Nat) (S : xS) (p0 : Nat) (i0 : Int) (i1 : Int) : Option (Int × xS) := g_X6_isRoot fu 0 S p0 i0 i1 0 0
noncomputable def b_X6_roots_0 (rc : Nat → xS → Nat → Int → Int → Int → Int → Option (Int × xS)) (fu : Nat) (S : xS) (p0 : Nat) (i0 i1 i2 i3 : Int) : Option (Int × xS) :=
  bd2 (f_X6_in fu S (wI i0) 2 9) fun x3 S1 =>
  if wI x3 = 0 then (if isO 5 S1 p0 = true then
  bd2 (f_X6_bad fu S1 p0 ((-2))) fun x7 S5 =>
  some (x7, S5) else none)
  else (rc 1 S1 p0 i0 0 0 0)
noncomputable def b_X6_roots_1 (rc : Nat → xS → Nat → Int → Int → Int → Int → Option (Int × xS)) (fu : Nat) (S : xS) (p0 : Nat) (i0 i1 i2 i3 : Int) : Option (Int × xS) :=
  if isO 5 S p0 = true then
  bd2 (f_X6_ways fu S p0) fun x11 S9 =>
  if wI x11 ≤ wI i2 then (some (i1, S9))
  else (if isO 5 S9 p0 = true then
  bd2 (f_X6_isRoot fu S9 p0 i2 i0) fun x16 S14 =>
  if wI x16 = 0 then (rc 2 S14 p0 i0 i2 i1 0)
  else (rc 2 S14 p0 i0 i2 i1 1) else none) else none
noncomputable def b_X6_roots_2 (rc : Nat → xS → Nat → Int → Int → Int → Int → Option (Int × xS)) (fu : Nat) (S : xS) (p0 : Nat) (i0 i1 i2 i3 : Int) : Option (Int × xS) :=
  nmx (i2 + i3) fun x19 =>
  nmx (i1 + 1) fun x21 =>
  rc 1 S p0 i0 x19 x21 0
noncomputable def s_X6_roots (rc : Nat → xS → Nat → Int → Int → Int → Int → Option (Int × xS)) (fu lb : Nat) (S : xS) (p0 : Nat) (i0 i1 i2 i3 : Int) : Option (Int × xS) := match lb with
    | 0 => b_X6_roots_0 rc fu S p0 i0 i1 i2 i3
    | 1 => b_X6_roots_1 rc fu S p0 i0 i1 i2 i3
    | _ => b_X6_roots_2 rc fu S p0 i0 i1 i2 i3
noncomputable def g_X6_roots (k : Nat) : Nat → xS → Nat → Int → Int → Int → Int → Option (Int × xS) := Nat.rec (motive := fun _ => Nat → xS → Nat → Int → Int → Int → Int → Option (Int × xS)) (fun _ _ _ _ _ _ _ => none) (fun fu rc => s_X6_roots rc fu) k
noncomputable def f_X6_roots (fu : Nat) (S : xS) (p0 : Nat) (i0 : Int) : Option (Int × xS) := g_X6_roots fu 0 S p0 i0 0 0 0
noncomputable def b_X6_lengths_0 (rc : Nat → xS → Nat → Int → Int → Option (Int × xS)) (fu : Nat) (S : xS) (p0 : Nat) (i0 i1 : Int) : Option (Int × xS) :=
  rc 1 S p0 0 0
noncomputable def b_X6_lengths_1 (rc : Nat → xS → Nat → Int → Int → Option (Int × xS)) (fu : Nat) (S : xS) (p0 : Nat) (i0 i1 : Int) : Option (Int × xS) :=
  if isO 5 S p0 = true then
  bd2 (f_X6_n fu S p0) fun x3 S1 =>
  if wI x3 ≤ wI i1 then (some (i0, S1))
  else (if isO 5 S1 p0 = true then
  bd2 (f_X6_ringOf fu S1 p0 i1) fun x8 S6 =>
  nmx (i0 + (xShl 1 (3 * (x8 - 1)))) fun x10 =>
  nmx (i1 + 1) fun x12 =>
  rc 1 S6 p0 x10 x12 else none) else none
noncomputable def s_X6_lengths (rc : Nat → xS → Nat → Int → Int → Option (Int × xS)) (fu lb : Nat) (S : xS) (p0 : Nat) (i0 i1 : Int) : Option (Int × xS) := match lb with
    | 0 => b_X6_lengths_0 rc fu S p0 i0 i1
    | _ => b_X6_lengths_1 rc fu S p0 i0 i1
noncomputable def g_X6_lengths (k : Nat) : Nat → xS → Nat → Int → Int → Option (Int × xS) := Nat.rec (motive := fun _ => Nat → xS → Nat → Int → Int → Option (Int × xS)) (fun _ _ _ _ _ => none) (fun fu rc => s_X6_lengths rc fu) k
noncomputable def f_X6_lengths (fu : Nat) (S : xS) (p0 : Nat) : Option (Int × xS) := g_X6_lengths fu 0 S p0 0 0
noncomputable def f_X6_isRank (fu : Nat) (S : xS) (p0 : Nat) (i0 : Int) : Option (Int × xS) :=
  if isO 5 S p0 = true then
  bd2 (f_X6_ways fu S p0) fun x3 S1 =>
  bd2 (f_X6_in fu S1 (wI i0) 0 (wI (x3 - 1))) fun x7 S5 =>
  if x7 = 0 ∨ x7 = 1 then some (x7, S5) else none else none
noncomputable def f_X6_alike (fu : Nat) (S : xS) (p0 : Nat) (i0 : Int) : Option (Int × xS) :=
  if isO 5 S p0 = true then
  bd2 (f_X6_isRank fu S p0 i0) fun x3 S1 =>
  if wI x3 = 0 then (if isO 5 S1 p0 = true then
  bd2 (f_X6_bad fu S1 p0 ((-2))) fun x25 S23 =>
  some (x25, S23) else none)
  else (if isO 5 S1 p0 = true then
  bd2 (f_X6_takeNow fu S1 p0) fun z8 S6 =>
  if isO 5 S6 p0 = true then
  bd2 (f_X6_lengths fu S6 p0) fun x12 S10 =>
  if isO 5 S10 p0 = true then
  bd2 (f_X6_takeRank fu S10 p0 i0) fun z16 S14 =>
  if isO 5 S14 p0 = true then
  bd2 (f_X6_lengths fu S14 p0) fun x20 S18 =>
  if wI x20 = wI x12 then (some (1, S18))
  else (some (0, S18)) else none else none else none else none) else none
noncomputable def f_X6_even (fu : Nat) (S : xS) (p0 : Nat) : Option (Int × xS) :=
  if isO 5 S p0 = true then
  bd2 (f_X6_takeNow fu S p0) fun z3 S1 =>
  if isO 5 S1 p0 = true then
  bd2 (f_X6_n fu S1 p0) fun x7 S5 =>
  if isO 5 S5 p0 = true then
  bd2 (f_X6_ringsHand fu S5 p0) fun x11 S9 =>
  if wI 2 = 0 then none else
  if wI ((wI (x7 - x11)).tmod (wI 2)) = 0 then (some (1, S9))
  else (some (0, S9)) else none else none else none
noncomputable def f_X6_move (fu : Nat) (S : xS) (p0 : Nat) (i0 : Int) : Option (Int × xS) :=
  if isO 5 S p0 = true then
  bd2 (f_X6_isRank fu S p0 i0) fun x3 S1 =>
  if wI x3 = 0 then (if isO 5 S1 p0 = true then
  bd2 (f_X6_bad fu S1 p0 ((-2))) fun x35 S33 =>
  some (x35, S33) else none)
  else ((rdFp 5 0 S1 p0).bind fun q7 =>
  (rdA 0 S1 q7 41).bind fun x8 =>
  if wI x8 = wI 4 then (if isO 5 S1 p0 = true then
  bd2 (f_X6_full fu S1 p0) fun x31 S29 =>
  some (x31, S29) else none)
  else ((rdFp 5 0 S1 p0).bind fun q12 =>
  (rdFp 5 0 S1 p0).bind fun q14 =>
  (rdA 0 S1 q14 41).bind fun x15 =>
  (wrA 0 S1 q12 (42 + x15) i0).bind fun S18 =>
  (rdFp 5 0 S18 p0).bind fun q20 =>
  (rdA 0 S18 q20 41).bind fun x21 =>
  (wrA 0 S18 q20 41 (x21 + 1)).bind fun S24 =>
  (rdFp 5 0 S24 p0).bind fun q26 =>
  (rdA 0 S24 q26 41).bind fun x27 =>
  some (x27 - 1, S24))) else none
noncomputable def f_X6_drop (fu : Nat) (S : xS) (p0 : Nat) : Option (Int × xS) :=
  (rdFp 5 0 S p0).bind fun q2 =>
  (rdA 0 S q2 41).bind fun x3 =>
  if wI x3 = 0 then (if isO 5 S p0 = true then
  bd2 (f_X6_no fu S p0) fun x18 S16 =>
  some (x18, S16) else none)
  else ((rdFp 5 0 S p0).bind fun q7 =>
  (rdA 0 S q7 41).bind fun x8 =>
  (wrA 0 S q7 41 (x8 - 1)).bind fun S11 =>
  (rdFp 5 0 S11 p0).bind fun q13 =>
  (rdA 0 S11 q13 41).bind fun x14 =>
  some (x14, S11))
noncomputable def b_X6_makeHand_0 (rc : Nat → xS → Nat → Int → Int → Option (Int × xS)) (fu : Nat) (S : xS) (p0 : Nat) (i0 i1 : Int) : Option (Int × xS) :=
  rc 1 S p0 i0 0
noncomputable def b_X6_makeHand_1 (rc : Nat → xS → Nat → Int → Int → Option (Int × xS)) (fu : Nat) (S : xS) (p0 : Nat) (i0 i1 : Int) : Option (Int × xS) :=
  if isO 5 S p0 = true then
  bd2 (f_X6_n fu S p0) fun x3 S1 =>
  if wI x3 ≤ wI i1 then ((rdFp 5 0 S1 p0).bind fun q7 =>
  (rdA 0 S1 q7 (42 + i0)).bind fun x8 =>
  if isO 5 S1 p0 = true then
  bd2 (f_X6_takeRank fu S1 p0 x8) fun z12 S10 =>
  rc 2 S10 p0 0 0 else none)
  else ((rdFp 5 13 S1 p0).bind fun q15 =>
  (rdFp 5 6 S1 p0).bind fun q17 =>
  (rdA 0 S1 q17 i1).bind fun x18 =>
  (wrA 0 S1 q15 i1 x18).bind fun S21 =>
  nmx (i1 + 1) fun x22 =>
  rc 1 S21 p0 i0 x22) else none
noncomputable def b_X6_makeHand_2 (rc : Nat → xS → Nat → Int → Int → Option (Int × xS)) (fu : Nat) (S : xS) (p0 : Nat) (i0 i1 : Int) : Option (Int × xS) :=
  if isO 5 S p0 = true then
  bd2 (f_X6_n fu S p0) fun x26 S24 =>
  if wI x26 ≤ wI i0 then (rc 3 S24 p0 0 0)
  else ((rdFp 5 12 S24 p0).bind fun q30 =>
  (rdFp 5 6 S24 p0).bind fun q32 =>
  (rdA 0 S24 q32 i0).bind fun x33 =>
  (wrA 0 S24 q30 i0 x33).bind fun S36 =>
  nmx (i0 + 1) fun x37 =>
  rc 2 S36 p0 x37 0) else none
noncomputable def b_X6_makeHand_3 (rc : Nat → xS → Nat → Int → Int → Option (Int × xS)) (fu : Nat) (S : xS) (p0 : Nat) (i0 i1 : Int) : Option (Int × xS) :=
  if isO 5 S p0 = true then
  bd2 (f_X6_n fu S p0) fun x41 S39 =>
  if wI x41 ≤ wI i0 then (some ((0 : Int), S39))
  else ((rdFp 5 6 S39 p0).bind fun q45 =>
  (rdFp 5 12 S39 p0).bind fun q47 =>
  (rdA 0 S39 q47 i0).bind fun x48 =>
  (rdFp 5 13 S39 p0).bind fun q51 =>
  (rdA 0 S39 q51 i0).bind fun x52 =>
  (wrA 0 S39 q45 x48 x52).bind fun S55 =>
  nmx (i0 + 1) fun x56 =>
  rc 3 S55 p0 x56 0) else none
noncomputable def s_X6_makeHand (rc : Nat → xS → Nat → Int → Int → Option (Int × xS)) (fu lb : Nat) (S : xS) (p0 : Nat) (i0 i1 : Int) : Option (Int × xS) := match lb with
    | 0 => b_X6_makeHand_0 rc fu S p0 i0 i1
    | 1 => b_X6_makeHand_1 rc fu S p0 i0 i1
    | 2 => b_X6_makeHand_2 rc fu S p0 i0 i1
    | _ => b_X6_makeHand_3 rc fu S p0 i0 i1
noncomputable def g_X6_makeHand (k : Nat) : Nat → xS → Nat → Int → Int → Option (Int × xS) := Nat.rec (motive := fun _ => Nat → xS → Nat → Int → Int → Option (Int × xS)) (fun _ _ _ _ _ => none) (fun fu rc => s_X6_makeHand rc fu) k
noncomputable def f_X6_makeHand (fu : Nat) (S : xS) (p0 : Nat) (i0 : Int) : Option (Int × xS) := g_X6_makeHand fu 0 S p0 i0 0
noncomputable def f_X6_make (fu : Nat) (S : xS) (p0 : Nat) (i0 : Int) : Option (Int × xS) :=
  (rdFp 5 0 S p0).bind fun q2 =>
  (rdA 0 S q2 41).bind fun x3 =>
  bd2 (f_X6_in fu S (wI i0) 0 (wI (x3 - 1))) fun x7 S5 =>
  if wI x7 = 0 then (if isO 5 S5 p0 = true then
  bd2 (f_X6_bad fu S5 p0 ((-2))) fun x29 S27 =>
  some (x29, S27) else none)
  else (if isO 5 S5 p0 = true then
  bd2 (f_X6_rankNow fu S5 p0) fun x11 S9 =>
  (wrF 5 7 S9 p0 (.inl x11)).bind fun S14 =>
  if isO 5 S14 p0 = true then
  bd2 (f_X6_makeHand fu S14 p0 i0) fun z17 S15 =>
  if isO 5 S15 p0 = true then
  bd2 (f_X6_putWay fu S15 p0) fun z21 S19 =>
  if isO 5 S19 p0 = true then
  bd2 (f_X6_rankOf fu S19 p0) fun x25 S23 =>
  some (x25, S23) else none else none else none else none)
noncomputable def f_X6_behind (fu : Nat) (S : xS) (p0 : Nat) (i0 : Int) (i1 : Int) : Option (Int × xS) :=
  if isO 5 S p0 = true then
  bd2 (f_X6_takeRank fu S p0 i0) fun z3 S1 =>
  if isO 5 S1 p0 = true then
  bd2 (f_X6_makeHand fu S1 p0 i1) fun z7 S5 =>
  if isO 5 S5 p0 = true then
  bd2 (f_X6_rankOf fu S5 p0) fun x11 S9 =>
  some (x11, S9) else none else none else none
noncomputable def b_X6_findFar_0 (rc : Nat → xS → Nat → Int → Int → Option (Int × xS)) (fu : Nat) (S : xS) (p0 : Nat) (i0 i1 : Int) : Option (Int × xS) :=
  rc 1 S p0 0 0
noncomputable def b_X6_findFar_1 (rc : Nat → xS → Nat → Int → Int → Option (Int × xS)) (fu : Nat) (S : xS) (p0 : Nat) (i0 i1 : Int) : Option (Int × xS) :=
  if isO 5 S p0 = true then
  bd2 (f_X6_ways fu S p0) fun x3 S1 =>
  if wI x3 ≤ wI i0 then ((rdFp 5 15 S1 p0).bind fun q7 =>
  if isO 5 S1 p0 = true then
  bd2 (f_X6_rankNow fu S1 p0) fun x10 S8 =>
  (wrA 0 S8 q7 0 x10).bind fun S13 =>
  (rdFp 5 14 S13 p0).bind fun q15 =>
  (rdFp 5 15 S13 p0).bind fun q17 =>
  (rdA 0 S13 q17 0).bind fun x18 =>
  (wrA 0 S13 q15 x18 0).bind fun S21 =>
  (wrF 5 17 S21 p0 (.inl 1)).bind fun S23 =>
  rc 2 S23 p0 0 0 else none)
  else ((rdFp 5 14 S1 p0).bind fun q25 =>
  (wrA 0 S1 q25 i0 1000000).bind fun S27 =>
  (rdFp 5 16 S27 p0).bind fun q29 =>
  (wrA 2 S27 q29 i0 0).bind fun S31 =>
  nmx (i0 + 1) fun x32 =>
  rc 1 S31 p0 x32 0) else none
noncomputable def b_X6_findFar_2 (rc : Nat → xS → Nat → Int → Int → Option (Int × xS)) (fu : Nat) (S : xS) (p0 : Nat) (i0 i1 : Int) : Option (Int × xS) :=
  (rdFi 5 17 S p0).bind fun x35 =>
  if wI x35 ≤ wI i0 then (some ((0 : Int), S))
  else (rc 3 S p0 i0 0)
noncomputable def b_X6_findFar_3 (rc : Nat → xS → Nat → Int → Int → Option (Int × xS)) (fu : Nat) (S : xS) (p0 : Nat) (i0 i1 : Int) : Option (Int × xS) :=
  (rdFp 5 0 S p0).bind fun q38 =>
  (rdA 0 S q38 41).bind fun x39 =>
  if wI x39 ≤ wI i1 then (nmx (i0 + 1) fun x42 =>
  rc 2 S p0 x42 0)
  else ((rdFp 5 15 S p0).bind fun q45 =>
  (rdA 0 S q45 i0).bind fun x46 =>
  if isO 5 S p0 = true then
  bd2 (f_X6_behind fu S p0 x46 i1) fun x50 S48 =>
  (rdFp 5 14 S48 p0).bind fun q53 =>
  (rdA 0 S48 q53 x50).bind fun x54 =>
  if wI x54 = wI 1000000 then ((rdFp 5 14 S48 p0).bind fun q58 =>
  (rdFp 5 14 S48 p0).bind fun q60 =>
  (rdFp 5 15 S48 p0).bind fun q62 =>
  (rdA 0 S48 q62 i0).bind fun x63 =>
  (rdA 0 S48 q60 x63).bind fun x65 =>
  (wrA 0 S48 q58 x50 (x65 + 1)).bind fun S68 =>
  (rdFp 5 15 S68 p0).bind fun q70 =>
  (rdFi 5 17 S68 p0).bind fun x72 =>
  (wrA 0 S68 q70 x72 x50).bind fun S74 =>
  (rdFi 5 17 S74 p0).bind fun x76 =>
  (wrF 5 17 S74 p0 (.inl (x76 + 1))).bind fun S78 =>
  rc 4 S78 p0 i0 i1)
  else (rc 4 S48 p0 i0 i1) else none)
noncomputable def b_X6_findFar_4 (rc : Nat → xS → Nat → Int → Int → Option (Int × xS)) (fu : Nat) (S : xS) (p0 : Nat) (i0 i1 : Int) : Option (Int × xS) :=
  nmx (i1 + 1) fun x79 =>
  rc 3 S p0 i0 x79
noncomputable def s_X6_findFar (rc : Nat → xS → Nat → Int → Int → Option (Int × xS)) (fu lb : Nat) (S : xS) (p0 : Nat) (i0 i1 : Int) : Option (Int × xS) := match lb with
    | 0 => b_X6_findFar_0 rc fu S p0 i0 i1
    | 1 => b_X6_findFar_1 rc fu S p0 i0 i1
    | 2 => b_X6_findFar_2 rc fu S p0 i0 i1
    | 3 => b_X6_findFar_3 rc fu S p0 i0 i1
    | _ => b_X6_findFar_4 rc fu S p0 i0 i1
noncomputable def g_X6_findFar (k : Nat) : Nat → xS → Nat → Int → Int → Option (Int × xS) := Nat.rec (motive := fun _ => Nat → xS → Nat → Int → Int → Option (Int × xS)) (fun _ _ _ _ _ => none) (fun fu rc => s_X6_findFar rc fu) k
noncomputable def f_X6_findFar (fu : Nat) (S : xS) (p0 : Nat) : Option (Int × xS) := g_X6_findFar fu 0 S p0 0 0
noncomputable def f_X6_group (fu : Nat) (S : xS) (p0 : Nat) : Option (Int × xS) :=
  if isO 5 S p0 = true then
  bd2 (f_X6_findFar fu S p0) fun z3 S1 =>
  (rdFi 5 17 S1 p0).bind fun x6 =>
  some (x6, S1) else none
noncomputable def f_X6_isSought (fu : Nat) (S : xS) (p0 : Nat) (i0 : Int) (i1 : Int) : Option (Int × xS) :=
  if wI i1 = wI ((-1)) then (if isO 5 S p0 = true then
  bd2 (f_X6_takeRank fu S p0 i0) fun z4 S2 =>
  if isO 5 S2 p0 = true then
  bd2 (f_X6_findsHand fu S2 p0) fun x8 S6 =>
  if isO 5 S6 p0 = true then
  bd2 (f_X6_all fu S6 p0) fun x12 S10 =>
  if wI x8 = wI x12 then (some (1, S10))
  else (some (0, S10)) else none else none else none)
  else (if wI i0 = wI i1 then (some (1, S))
  else (some (0, S)))
noncomputable def b_X6_leadsOn_0 (rc : Nat → xS → Nat → Int → Int → Option (Int × xS)) (fu : Nat) (S : xS) (p0 : Nat) (i0 i1 : Int) : Option (Int × xS) :=
  if isO 5 S p0 = true then
  bd2 (f_X6_behind fu S p0 i0 i1) fun x3 S1 =>
  (rdFp 5 14 S1 p0).bind fun q6 =>
  (rdA 0 S1 q6 x3).bind fun x7 =>
  (rdFp 5 14 S1 p0).bind fun q10 =>
  (rdA 0 S1 q10 i0).bind fun x11 =>
  if wI x7 = wI (x11 + 1) then ((rdFp 5 16 S1 p0).bind fun q15 =>
  (rdA 2 S1 q15 x3).bind fun x16 =>
  if wI x16 = 0 then (rc 1 S1 0 0 0)
  else (some (1, S1)))
  else (rc 1 S1 0 0 0) else none
noncomputable def b_X6_leadsOn_1 (rc : Nat → xS → Nat → Int → Int → Option (Int × xS)) (fu : Nat) (S : xS) (p0 : Nat) (i0 i1 : Int) : Option (Int × xS) :=
  some (0, S)
noncomputable def s_X6_leadsOn (rc : Nat → xS → Nat → Int → Int → Option (Int × xS)) (fu lb : Nat) (S : xS) (p0 : Nat) (i0 i1 : Int) : Option (Int × xS) := match lb with
    | 0 => b_X6_leadsOn_0 rc fu S p0 i0 i1
    | _ => b_X6_leadsOn_1 rc fu S p0 i0 i1
noncomputable def g_X6_leadsOn (k : Nat) : Nat → xS → Nat → Int → Int → Option (Int × xS) := Nat.rec (motive := fun _ => Nat → xS → Nat → Int → Int → Option (Int × xS)) (fun _ _ _ _ _ => none) (fun fu rc => s_X6_leadsOn rc fu) k
noncomputable def f_X6_leadsOn (fu : Nat) (S : xS) (p0 : Nat) (i0 : Int) (i1 : Int) : Option (Int × xS) := g_X6_leadsOn fu 0 S p0 i0 i1
noncomputable def b_X6_fewestTo_0 (rc : Nat → xS → Nat → Nat → Int → Int → Int → Int → Int → Int → Int → Int → Option (Int × xS)) (fu : Nat) (S : xS) (p0 p1 : Nat) (i0 i1 i2 i3 i4 i5 i6 i7 : Int) : Option (Int × xS) :=
  if isO 5 S p0 = true then
  bd2 (f_X6_findFar fu S p0) fun z3 S1 =>
  rc 1 S1 p0 0 i0 i1 0 0 0 0 0 0 else none
noncomputable def b_X6_fewestTo_1 (rc : Nat → xS → Nat → Nat → Int → Int → Int → Int → Int → Int → Int → Int → Option (Int × xS)) (fu : Nat) (S : xS) (p0 p1 : Nat) (i0 i1 i2 i3 i4 i5 i6 i7 : Int) : Option (Int × xS) :=
  (rdFi 5 17 S p0).bind fun x6 =>
  if wI x6 ≤ wI i2 then (rc 2 S p0 0 i0 i1 i2 0 0 0 0 0)
  else ((rdFp 5 15 S p0).bind fun q9 =>
  (rdA 0 S q9 i2).bind fun x10 =>
  if isO 5 S p0 = true then
  bd2 (f_X6_isSought fu S p0 x10 i0) fun x14 S12 =>
  if wI x14 = 0 then (nmx (i2 + 1) fun x17 =>
  rc 1 S12 p0 0 i0 i1 x17 0 0 0 0 0)
  else (rc 2 S12 p0 0 i0 i1 i2 0 0 0 0 0) else none)
noncomputable def b_X6_fewestTo_2 (rc : Nat → xS → Nat → Nat → Int → Int → Int → Int → Int → Int → Int → Int → Option (Int × xS)) (fu : Nat) (S : xS) (p0 p1 : Nat) (i0 i1 i2 i3 i4 i5 i6 i7 : Int) : Option (Int × xS) :=
  (rdFi 5 17 S p0).bind fun x20 =>
  if wI i2 = wI x20 then (rc 3 S p0 0 i2 0 0 0 0 0 0 0)
  else (if wI i1 = wI ((-1)) then (rc 3 S p0 0 i2 0 0 0 0 0 0 0)
  else ((rdFp 5 14 S p0).bind fun q24 =>
  (rdFp 5 15 S p0).bind fun q26 =>
  (rdA 0 S q26 i2).bind fun x27 =>
  (rdA 0 S q24 x27).bind fun x29 =>
  if wI i1 < wI x29 then ((rdFi 5 17 S p0).bind fun x33 =>
  nmx (x33 - 1) fun x34 =>
  rc 4 S p0 0 i0 i1 x29 x34 0 0 0 0)
  else (some ((-5), S))))
noncomputable def b_X6_fewestTo_3 (rc : Nat → xS → Nat → Nat → Int → Int → Int → Int → Int → Int → Int → Int → Option (Int × xS)) (fu : Nat) (S : xS) (p0 p1 : Nat) (i0 i1 i2 i3 i4 i5 i6 i7 : Int) : Option (Int × xS) :=
  (rdFi 5 17 S p0).bind fun x37 =>
  if wI i0 = wI x37 then (some ((-1), S))
  else ((rdFp 5 14 S p0).bind fun q40 =>
  (rdFp 5 15 S p0).bind fun q42 =>
  (rdA 0 S q42 i0).bind fun x43 =>
  (rdA 0 S q40 x43).bind fun x45 =>
  some (x45, S))
noncomputable def b_X6_fewestTo_4 (rc : Nat → xS → Nat → Nat → Int → Int → Int → Int → Int → Int → Int → Int → Option (Int × xS)) (fu : Nat) (S : xS) (p0 p1 : Nat) (i0 i1 i2 i3 i4 i5 i6 i7 : Int) : Option (Int × xS) :=
  if wI i3 < 0 then ((rdFp 5 15 S p0).bind fun q49 =>
  (rdA 0 S q49 0).bind fun x50 =>
  rc 11 S p0 0 i1 x50 0 0 0 0 0 0)
  else ((rdFp 5 15 S p0).bind fun q53 =>
  (rdA 0 S q53 i3).bind fun x54 =>
  (rdFp 5 16 S p0).bind fun q57 =>
  (rdFp 5 14 S p0).bind fun q59 =>
  (rdA 0 S q59 x54).bind fun x60 =>
  if wI x60 = wI i2 then (if isO 5 S p0 = true then
  bd2 (f_X6_isSought fu S p0 x54 i0) fun x65 S63 =>
  if wI x65 = 0 then (rc 5 S63 p0 q57 i0 i1 i2 i3 x54 x54 0 0)
  else (rc 6 S63 p0 q57 i0 i1 i2 i3 x54 x54 1 0) else none)
  else (rc 5 S p0 q57 i0 i1 i2 i3 x54 x54 0 0))
noncomputable def b_X6_fewestTo_5 (rc : Nat → xS → Nat → Nat → Int → Int → Int → Int → Int → Int → Int → Int → Option (Int × xS)) (fu : Nat) (S : xS) (p0 p1 : Nat) (i0 i1 i2 i3 i4 i5 i6 i7 : Int) : Option (Int × xS) :=
  rc 6 S p0 p1 i0 i1 i2 i3 i4 i5 0 0
noncomputable def b_X6_fewestTo_6 (rc : Nat → xS → Nat → Nat → Int → Int → Int → Int → Int → Int → Int → Int → Option (Int × xS)) (fu : Nat) (S : xS) (p0 p1 : Nat) (i0 i1 i2 i3 i4 i5 i6 i7 : Int) : Option (Int × xS) :=
  if i6 = 0 ∨ i6 = 1 then
  (wrA 2 S p1 i5 i6).bind fun S69 =>
  rc 7 S69 p0 0 i0 i1 i2 i3 i4 0 0 0 else none
noncomputable def b_X6_fewestTo_7 (rc : Nat → xS → Nat → Nat → Int → Int → Int → Int → Int → Int → Int → Int → Option (Int × xS)) (fu : Nat) (S : xS) (p0 p1 : Nat) (i0 i1 i2 i3 i4 i5 i6 i7 : Int) : Option (Int × xS) :=
  (rdFp 5 0 S p0).bind fun q72 =>
  (rdA 0 S q72 41).bind fun x73 =>
  if wI x73 ≤ wI i5 then (rc 10 S p0 0 i0 i1 i2 i3 0 0 0 0)
  else ((rdFp 5 14 S p0).bind fun q77 =>
  (rdA 0 S q77 i4).bind fun x78 =>
  if wI i2 ≤ wI x78 then (rc 10 S p0 0 i0 i1 i2 i3 0 0 0 0)
  else ((rdFp 5 16 S p0).bind fun q82 =>
  (rdFp 5 16 S p0).bind fun q84 =>
  (rdA 2 S q84 i4).bind fun x85 =>
  if wI x85 = 0 then (if isO 5 S p0 = true then
  bd2 (f_X6_leadsOn fu S p0 i4 i5) fun x90 S88 =>
  if wI x90 = 0 then (rc 9 S88 p0 q82 i0 i1 i2 i3 i4 i5 i4 0)
  else (rc 8 S88 p0 q82 i0 i1 i2 i3 i4 i5 i4 0) else none)
  else (rc 8 S p0 q82 i0 i1 i2 i3 i4 i5 i4 0)))
noncomputable def b_X6_fewestTo_8 (rc : Nat → xS → Nat → Nat → Int → Int → Int → Int → Int → Int → Int → Int → Option (Int × xS)) (fu : Nat) (S : xS) (p0 p1 : Nat) (i0 i1 i2 i3 i4 i5 i6 i7 : Int) : Option (Int × xS) :=
  rc 9 S p0 p1 i0 i1 i2 i3 i4 i5 i6 1
noncomputable def b_X6_fewestTo_9 (rc : Nat → xS → Nat → Nat → Int → Int → Int → Int → Int → Int → Int → Int → Option (Int × xS)) (fu : Nat) (S : xS) (p0 p1 : Nat) (i0 i1 i2 i3 i4 i5 i6 i7 : Int) : Option (Int × xS) :=
  if i7 = 0 ∨ i7 = 1 then
  (wrA 2 S p1 i6 i7).bind fun S94 =>
  nmx (i5 + 1) fun x96 =>
  rc 7 S94 p0 0 i0 i1 i2 i3 i4 x96 0 0 else none
noncomputable def b_X6_fewestTo_10 (rc : Nat → xS → Nat → Nat → Int → Int → Int → Int → Int → Int → Int → Int → Option (Int × xS)) (fu : Nat) (S : xS) (p0 p1 : Nat) (i0 i1 i2 i3 i4 i5 i6 i7 : Int) : Option (Int × xS) :=
  nmx (i3 + (-1)) fun x98 =>
  rc 4 S p0 0 i0 i1 i2 x98 0 0 0 0
noncomputable def b_X6_fewestTo_11 (rc : Nat → xS → Nat → Nat → Int → Int → Int → Int → Int → Int → Int → Int → Option (Int × xS)) (fu : Nat) (S : xS) (p0 p1 : Nat) (i0 i1 i2 i3 i4 i5 i6 i7 : Int) : Option (Int × xS) :=
  if wI i0 < wI i2 then ((rdFi 5 11 S p0).bind fun x102 =>
  some (x102, S))
  else ((wrF 5 11 S p0 (.inl 0)).bind fun S104 =>
  rc 12 S104 p0 0 i0 i1 i2 0 0 0 0 0)
noncomputable def b_X6_fewestTo_12 (rc : Nat → xS → Nat → Nat → Int → Int → Int → Int → Int → Int → Int → Int → Option (Int × xS)) (fu : Nat) (S : xS) (p0 p1 : Nat) (i0 i1 i2 i3 i4 i5 i6 i7 : Int) : Option (Int × xS) :=
  (rdFi 5 11 S p0).bind fun x106 =>
  if isO 5 S p0 = true then
  bd2 (f_X6_leadsOn fu S p0 i1 x106) fun x109 S107 =>
  if wI x109 = 0 then ((rdFi 5 11 S107 p0).bind fun x121 =>
  (wrF 5 11 S107 p0 (.inl (x121 + 1))).bind fun S123 =>
  rc 12 S123 p0 0 i0 i1 i2 0 0 0 0 0)
  else ((rdFi 5 11 S107 p0).bind fun x113 =>
  if isO 5 S107 p0 = true then
  bd2 (f_X6_behind fu S107 p0 i1 x113) fun x116 S114 =>
  nmx (i2 + 1) fun x118 =>
  rc 11 S114 p0 0 i0 x116 x118 0 0 0 0 0 else none) else none
noncomputable def s_X6_fewestTo (rc : Nat → xS → Nat → Nat → Int → Int → Int → Int → Int → Int → Int → Int → Option (Int × xS)) (fu lb : Nat) (S : xS) (p0 p1 : Nat) (i0 i1 i2 i3 i4 i5 i6 i7 : Int) : Option (Int × xS) := match lb with
    | 0 => b_X6_fewestTo_0 rc fu S p0 p1 i0 i1 i2 i3 i4 i5 i6 i7
    | 1 => b_X6_fewestTo_1 rc fu S p0 p1 i0 i1 i2 i3 i4 i5 i6 i7
    | 2 => b_X6_fewestTo_2 rc fu S p0 p1 i0 i1 i2 i3 i4 i5 i6 i7
    | 3 => b_X6_fewestTo_3 rc fu S p0 p1 i0 i1 i2 i3 i4 i5 i6 i7
    | 4 => b_X6_fewestTo_4 rc fu S p0 p1 i0 i1 i2 i3 i4 i5 i6 i7
    | 5 => b_X6_fewestTo_5 rc fu S p0 p1 i0 i1 i2 i3 i4 i5 i6 i7
    | 6 => b_X6_fewestTo_6 rc fu S p0 p1 i0 i1 i2 i3 i4 i5 i6 i7
    | 7 => b_X6_fewestTo_7 rc fu S p0 p1 i0 i1 i2 i3 i4 i5 i6 i7
    | 8 => b_X6_fewestTo_8 rc fu S p0 p1 i0 i1 i2 i3 i4 i5 i6 i7
    | 9 => b_X6_fewestTo_9 rc fu S p0 p1 i0 i1 i2 i3 i4 i5 i6 i7
    | 10 => b_X6_fewestTo_10 rc fu S p0 p1 i0 i1 i2 i3 i4 i5 i6 i7
    | 11 => b_X6_fewestTo_11 rc fu S p0 p1 i0 i1 i2 i3 i4 i5 i6 i7
    | _ => b_X6_fewestTo_12 rc fu S p0 p1 i0 i1 i2 i3 i4 i5 i6 i7
noncomputable def g_X6_fewestTo (k : Nat) : Nat → xS → Nat → Nat → Int → Int → Int → Int → Int → Int → Int → Int → Option (Int × xS) := Nat.rec (motive := fun _ => Nat → xS → Nat → Nat → Int → Int → Int → Int → Int → Int → Int → Int → Option (Int × xS)) (fun _ _ _ _ _ _ _ _ _ _ _ _ => none) (fun fu rc => s_X6_fewestTo rc fu) k
noncomputable def f_X6_fewestTo (fu : Nat) (S : xS) (p0 : Nat) (i0 : Int) (i1 : Int) : Option (Int × xS) := g_X6_fewestTo fu 0 S p0 0 i0 i1 0 0 0 0 0 0
noncomputable def b_X6_fewest_0 (rc : Nat → xS → Nat → Int → Int → Option (Int × xS)) (fu : Nat) (S : xS) (p0 : Nat) (i0 i1 : Int) : Option (Int × xS) :=
  if isO 5 S p0 = true then
  bd2 (f_X6_isRank fu S p0 i0) fun x3 S1 =>
  if wI x3 = 0 then (rc 1 S1 p0 0 0)
  else (if wI i1 < wI ((-1)) then (rc 1 S1 p0 0 0)
  else (if isO 5 S1 p0 = true then
  bd2 (f_X6_fewestTo fu S1 p0 i0 i1) fun x9 S7 =>
  some (x9, S7) else none)) else none
noncomputable def b_X6_fewest_1 (rc : Nat → xS → Nat → Int → Int → Option (Int × xS)) (fu : Nat) (S : xS) (p0 : Nat) (i0 i1 : Int) : Option (Int × xS) :=
  if isO 5 S p0 = true then
  bd2 (f_X6_bad fu S p0 ((-10))) fun x13 S11 =>
  some (x13, S11) else none
noncomputable def s_X6_fewest (rc : Nat → xS → Nat → Int → Int → Option (Int × xS)) (fu lb : Nat) (S : xS) (p0 : Nat) (i0 i1 : Int) : Option (Int × xS) := match lb with
    | 0 => b_X6_fewest_0 rc fu S p0 i0 i1
    | _ => b_X6_fewest_1 rc fu S p0 i0 i1
noncomputable def g_X6_fewest (k : Nat) : Nat → xS → Nat → Int → Int → Option (Int × xS) := Nat.rec (motive := fun _ => Nat → xS → Nat → Int → Int → Option (Int × xS)) (fun _ _ _ _ _ => none) (fun fu rc => s_X6_fewest rc fu) k
noncomputable def f_X6_fewest (fu : Nat) (S : xS) (p0 : Nat) (i0 : Int) (i1 : Int) : Option (Int × xS) := g_X6_fewest fu 0 S p0 i0 i1
noncomputable def f_X6_till (fu : Nat) (S : xS) (p0 : Nat) (i0 : Int) : Option (Int × xS) :=
  if wI i0 < wI ((-1)) then (if isO 5 S p0 = true then
  bd2 (f_X6_bad fu S p0 ((-10))) fun x4 S2 =>
  some (x4, S2) else none)
  else (if isO 5 S p0 = true then
  bd2 (f_X6_fewestTo fu S p0 ((-1)) i0) fun x8 S6 =>
  some (x8, S6) else none)
noncomputable def b_X6_isSo_0 (rc : Nat → xS → Nat → Int → Int → Option (Int × xS)) (fu : Nat) (S : xS) (p0 : Nat) (i0 i1 : Int) : Option (Int × xS) :=
  rc 1 S p0 1 0
noncomputable def b_X6_isSo_1 (rc : Nat → xS → Nat → Int → Int → Option (Int × xS)) (fu : Nat) (S : xS) (p0 : Nat) (i0 i1 : Int) : Option (Int × xS) :=
  if isO 5 S p0 = true then
  bd2 (f_X6_n fu S p0) fun x3 S1 =>
  if wI x3 ≤ wI i1 then (rc 5 S1 p0 i0 0)
  else (if wI i0 = 0 then (rc 3 S1 p0 i1 0)
  else ((rdFp 5 0 S1 p0).bind fun q8 =>
  (rdA 0 S1 q8 (17 + i1)).bind fun x9 =>
  if wI x9 = wI ((-1)) then (rc 2 S1 p0 i1 0)
  else ((rdFp 5 0 S1 p0).bind fun q13 =>
  (rdA 0 S1 q13 (17 + i1)).bind fun x14 =>
  (rdFp 5 6 S1 p0).bind fun q17 =>
  (rdA 0 S1 q17 i1).bind fun x18 =>
  if wI x14 = wI x18 then (rc 2 S1 p0 i1 0)
  else (rc 3 S1 p0 i1 0)))) else none
noncomputable def b_X6_isSo_2 (rc : Nat → xS → Nat → Int → Int → Option (Int × xS)) (fu : Nat) (S : xS) (p0 : Nat) (i0 i1 : Int) : Option (Int × xS) :=
  rc 4 S p0 i0 1
noncomputable def b_X6_isSo_3 (rc : Nat → xS → Nat → Int → Int → Option (Int × xS)) (fu : Nat) (S : xS) (p0 : Nat) (i0 i1 : Int) : Option (Int × xS) :=
  rc 4 S p0 i0 0
noncomputable def b_X6_isSo_4 (rc : Nat → xS → Nat → Int → Int → Option (Int × xS)) (fu : Nat) (S : xS) (p0 : Nat) (i0 i1 : Int) : Option (Int × xS) :=
  nmx (i0 + 1) fun x21 =>
  rc 1 S p0 i1 x21
noncomputable def b_X6_isSo_5 (rc : Nat → xS → Nat → Int → Int → Option (Int × xS)) (fu : Nat) (S : xS) (p0 : Nat) (i0 i1 : Int) : Option (Int × xS) :=
  (rdFp 5 0 S p0).bind fun q24 =>
  (rdA 0 S q24 24).bind fun x25 =>
  if wI x25 ≤ wI i1 then (if i0 = 0 ∨ i0 = 1 then some (i0, S) else none)
  else (if wI i0 = 0 then (if i0 = 0 ∨ i0 = 1 then some (i0, S) else none)
  else ((rdFp 5 0 S p0).bind fun q32 =>
  (rdA 0 S q32 (25 + (2 * i1))).bind fun x33 =>
  if isO 5 S p0 = true then
  bd2 (f_X6_seek fu S p0 x33) fun z37 S35 =>
  (rdFi 5 10 S35 p0).bind fun x40 =>
  if wI x40 = 0 then (rc 6 S35 p0 i1 0)
  else ((rdFi 5 9 S35 p0).bind fun x43 =>
  rc 6 S35 p0 i1 x43) else none))
noncomputable def b_X6_isSo_6 (rc : Nat → xS → Nat → Int → Int → Option (Int × xS)) (fu : Nat) (S : xS) (p0 : Nat) (i0 i1 : Int) : Option (Int × xS) :=
  (rdFp 5 0 S p0).bind fun q45 =>
  (rdA 0 S q45 ((25 + (2 * i0)) + 1)).bind fun x46 =>
  if wI i1 = wI x46 then (rc 7 S p0 i0 1)
  else (rc 7 S p0 i0 0)
noncomputable def b_X6_isSo_7 (rc : Nat → xS → Nat → Int → Int → Option (Int × xS)) (fu : Nat) (S : xS) (p0 : Nat) (i0 i1 : Int) : Option (Int × xS) :=
  nmx (i0 + 1) fun x49 =>
  rc 5 S p0 i1 x49
noncomputable def s_X6_isSo (rc : Nat → xS → Nat → Int → Int → Option (Int × xS)) (fu lb : Nat) (S : xS) (p0 : Nat) (i0 i1 : Int) : Option (Int × xS) := match lb with
    | 0 => b_X6_isSo_0 rc fu S p0 i0 i1
    | 1 => b_X6_isSo_1 rc fu S p0 i0 i1
    | 2 => b_X6_isSo_2 rc fu S p0 i0 i1
    | 3 => b_X6_isSo_3 rc fu S p0 i0 i1
    | 4 => b_X6_isSo_4 rc fu S p0 i0 i1
    | 5 => b_X6_isSo_5 rc fu S p0 i0 i1
    | 6 => b_X6_isSo_6 rc fu S p0 i0 i1
    | _ => b_X6_isSo_7 rc fu S p0 i0 i1
noncomputable def g_X6_isSo (k : Nat) : Nat → xS → Nat → Int → Int → Option (Int × xS) := Nat.rec (motive := fun _ => Nat → xS → Nat → Int → Int → Option (Int × xS)) (fun _ _ _ _ _ => none) (fun fu rc => s_X6_isSo rc fu) k
noncomputable def f_X6_isSo (fu : Nat) (S : xS) (p0 : Nat) : Option (Int × xS) := g_X6_isSo fu 0 S p0 0 0
noncomputable def b_X6_mayBe_0 (rc : Nat → xS → Nat → Int → Int → Int → Int → Option (Int × xS)) (fu : Nat) (S : xS) (p0 : Nat) (i0 i1 i2 i3 : Int) : Option (Int × xS) :=
  if wI ((-1)) ≤ wI i0 then (rc 1 S p0 i0 0 ((-5)) 0)
  else (if isO 5 S p0 = true then
  bd2 (f_X6_bad fu S p0 ((-10))) fun x4 S2 =>
  some (x4, S2) else none)
noncomputable def b_X6_mayBe_1 (rc : Nat → xS → Nat → Int → Int → Int → Int → Option (Int × xS)) (fu : Nat) (S : xS) (p0 : Nat) (i0 i1 i2 i3 : Int) : Option (Int × xS) :=
  if isO 5 S p0 = true then
  bd2 (f_X6_ways fu S p0) fun x8 S6 =>
  if wI x8 ≤ wI i3 then (if wI i0 = wI ((-1)) then (some (i1, S6))
  else (some (i2, S6)))
  else (if isO 5 S6 p0 = true then
  bd2 (f_X6_takeRank fu S6 p0 i3) fun z14 S12 =>
  if isO 5 S12 p0 = true then
  bd2 (f_X6_isSo fu S12 p0) fun x18 S16 =>
  if wI x18 = 0 then (rc 3 S16 p0 i0 i1 i2 i3)
  else (if wI i1 = wI i0 then (rc 2 S16 p0 i0 i1 i3 i3)
  else (rc 2 S16 p0 i0 i1 i3 i2)) else none else none) else none
noncomputable def b_X6_mayBe_2 (rc : Nat → xS → Nat → Int → Int → Int → Int → Option (Int × xS)) (fu : Nat) (S : xS) (p0 : Nat) (i0 i1 i2 i3 : Int) : Option (Int × xS) :=
  nmx (i1 + 1) fun x22 =>
  rc 3 S p0 i0 x22 i3 i2
noncomputable def b_X6_mayBe_3 (rc : Nat → xS → Nat → Int → Int → Int → Int → Option (Int × xS)) (fu : Nat) (S : xS) (p0 : Nat) (i0 i1 i2 i3 : Int) : Option (Int × xS) :=
  nmx (i3 + 1) fun x24 =>
  rc 1 S p0 i0 i1 i2 x24
noncomputable def s_X6_mayBe (rc : Nat → xS → Nat → Int → Int → Int → Int → Option (Int × xS)) (fu lb : Nat) (S : xS) (p0 : Nat) (i0 i1 i2 i3 : Int) : Option (Int × xS) := match lb with
    | 0 => b_X6_mayBe_0 rc fu S p0 i0 i1 i2 i3
    | 1 => b_X6_mayBe_1 rc fu S p0 i0 i1 i2 i3
    | 2 => b_X6_mayBe_2 rc fu S p0 i0 i1 i2 i3
    | _ => b_X6_mayBe_3 rc fu S p0 i0 i1 i2 i3
noncomputable def g_X6_mayBe (k : Nat) : Nat → xS → Nat → Int → Int → Int → Int → Option (Int × xS) := Nat.rec (motive := fun _ => Nat → xS → Nat → Int → Int → Int → Int → Option (Int × xS)) (fun _ _ _ _ _ _ _ => none) (fun fu rc => s_X6_mayBe rc fu) k
noncomputable def f_X6_mayBe (fu : Nat) (S : xS) (p0 : Nat) (i0 : Int) : Option (Int × xS) := g_X6_mayBe fu 0 S p0 i0 0 0 0
noncomputable def b_X6_tell_0 (rc : Nat → xS → Nat → Int → Int → Int → Int → Option (Int × xS)) (fu : Nat) (S : xS) (p0 : Nat) (i0 i1 i2 i3 : Int) : Option (Int × xS) :=
  rc 1 S p0 i0 i1 i0 i1
noncomputable def b_X6_tell_1 (rc : Nat → xS → Nat → Int → Int → Int → Int → Option (Int × xS)) (fu : Nat) (S : xS) (p0 : Nat) (i0 i1 i2 i3 : Int) : Option (Int × xS) :=
  if wI (xLcmp i3 0) = 0 then (if wL i2 = 0 then none else
  (wrF 5 4 S p0 (.inr (.inl ((wL i0).tdiv (wL i2))))).bind fun S4 =>
  if wL i2 = 0 then none else
  (wrF 5 5 S4 p0 (.inr (.inl ((wL i1).tdiv (wL i2))))).bind fun S7 =>
  some (1, S7))
  else (if wL i3 = 0 then none else
  nmx ((wL i2).tmod (wL i3)) fun x9 =>
  rc 1 S p0 i0 i1 i3 x9)
noncomputable def s_X6_tell (rc : Nat → xS → Nat → Int → Int → Int → Int → Option (Int × xS)) (fu lb : Nat) (S : xS) (p0 : Nat) (i0 i1 i2 i3 : Int) : Option (Int × xS) := match lb with
    | 0 => b_X6_tell_0 rc fu S p0 i0 i1 i2 i3
    | _ => b_X6_tell_1 rc fu S p0 i0 i1 i2 i3
noncomputable def g_X6_tell (k : Nat) : Nat → xS → Nat → Int → Int → Int → Int → Option (Int × xS) := Nat.rec (motive := fun _ => Nat → xS → Nat → Int → Int → Int → Int → Option (Int × xS)) (fun _ _ _ _ _ _ _ => none) (fun fu rc => s_X6_tell rc fu) k
noncomputable def f_X6_tell (fu : Nat) (S : xS) (p0 : Nat) (i0 : Int) (i1 : Int) : Option (Int × xS) := g_X6_tell fu 0 S p0 i0 i1 0 0
noncomputable def b_X6_chance_0 (rc : Nat → xS → Nat → Int → Int → Int → Int → Int → Option (Int × xS)) (fu : Nat) (S : xS) (p0 : Nat) (i0 i1 i2 i3 i4 : Int) : Option (Int × xS) :=
  if isO 5 S p0 = true then
  bd2 (f_X6_all fu S p0) fun x3 S1 =>
  bd2 (f_X6_in fu S1 (wI i0) 0 (wI x3)) fun x7 S5 =>
  if wI x7 = 0 then (if isO 5 S5 p0 = true then
  bd2 (f_X6_bad fu S5 p0 ((-2))) fun x11 S9 =>
  some (x11, S9) else none)
  else (rc 1 S5 p0 i0 0 0 0 0) else none
noncomputable def b_X6_chance_1 (rc : Nat → xS → Nat → Int → Int → Int → Int → Int → Option (Int × xS)) (fu : Nat) (S : xS) (p0 : Nat) (i0 i1 i2 i3 i4 : Int) : Option (Int × xS) :=
  if isO 5 S p0 = true then
  bd2 (f_X6_ways fu S p0) fun x15 S13 =>
  if wI x15 ≤ wI i3 then (if wI i1 = 0 then (if isO 5 S13 p0 = true then
  bd2 (f_X6_no fu S13 p0) fun x25 S23 =>
  some (x25, S23) else none)
  else (if isO 5 S13 p0 = true then
  bd2 (f_X6_tell fu S13 p0 (wI i2) (wI i1)) fun x21 S19 =>
  some (x21, S19) else none))
  else (if isO 5 S13 p0 = true then
  bd2 (f_X6_takeRank fu S13 p0 i3) fun z29 S27 =>
  if isO 5 S27 p0 = true then
  bd2 (f_X6_isSo fu S27 p0) fun x33 S31 =>
  if wI x33 = 0 then (rc 3 S31 p0 i0 i1 i2 i3 0)
  else (nmx (i1 + 1) fun x36 =>
  if isO 5 S31 p0 = true then
  bd2 (f_X6_findsHand fu S31 p0) fun x40 S38 =>
  if wI (xAnd x40 i0) = wI i0 then (rc 2 S38 p0 i0 x36 i3 i2 1)
  else (rc 2 S38 p0 i0 x36 i3 i2 0) else none) else none else none) else none
noncomputable def b_X6_chance_2 (rc : Nat → xS → Nat → Int → Int → Int → Int → Int → Option (Int × xS)) (fu : Nat) (S : xS) (p0 : Nat) (i0 i1 i2 i3 i4 : Int) : Option (Int × xS) :=
  nmx (i3 + i4) fun x43 =>
  rc 3 S p0 i0 i1 x43 i2 0
noncomputable def b_X6_chance_3 (rc : Nat → xS → Nat → Int → Int → Int → Int → Int → Option (Int × xS)) (fu : Nat) (S : xS) (p0 : Nat) (i0 i1 i2 i3 i4 : Int) : Option (Int × xS) :=
  nmx (i3 + 1) fun x45 =>
  rc 1 S p0 i0 i1 i2 x45 0
noncomputable def s_X6_chance (rc : Nat → xS → Nat → Int → Int → Int → Int → Int → Option (Int × xS)) (fu lb : Nat) (S : xS) (p0 : Nat) (i0 i1 i2 i3 i4 : Int) : Option (Int × xS) := match lb with
    | 0 => b_X6_chance_0 rc fu S p0 i0 i1 i2 i3 i4
    | 1 => b_X6_chance_1 rc fu S p0 i0 i1 i2 i3 i4
    | 2 => b_X6_chance_2 rc fu S p0 i0 i1 i2 i3 i4
    | _ => b_X6_chance_3 rc fu S p0 i0 i1 i2 i3 i4
noncomputable def g_X6_chance (k : Nat) : Nat → xS → Nat → Int → Int → Int → Int → Int → Option (Int × xS) := Nat.rec (motive := fun _ => Nat → xS → Nat → Int → Int → Int → Int → Int → Option (Int × xS)) (fun _ _ _ _ _ _ _ _ => none) (fun fu rc => s_X6_chance rc fu) k
noncomputable def f_X6_chance (fu : Nat) (S : xS) (p0 : Nat) (i0 : Int) : Option (Int × xS) := g_X6_chance fu 0 S p0 i0 0 0 0 0
noncomputable def b_X6_look_0 (rc : Nat → xS → Nat → Int → Int → Int → Int → Int → Int → Option (Int × xS)) (fu : Nat) (S : xS) (p0 : Nat) (i0 i1 i2 i3 i4 i5 : Int) : Option (Int × xS) :=
  rc 1 S p0 0 0 0 0 0 0
noncomputable def b_X6_look_1 (rc : Nat → xS → Nat → Int → Int → Int → Int → Int → Int → Option (Int × xS)) (fu : Nat) (S : xS) (p0 : Nat) (i0 i1 i2 i3 i4 i5 : Int) : Option (Int × xS) :=
  if wI 49 ≤ wI i0 then (rc 2 S p0 0 0 0 0 0 0)
  else ((rdFp 5 18 S p0).bind fun q3 =>
  (wrA 0 S q3 i0 0).bind fun S5 =>
  nmx (i0 + 1) fun x6 =>
  rc 1 S5 p0 x6 0 0 0 0 0)
noncomputable def b_X6_look_2 (rc : Nat → xS → Nat → Int → Int → Int → Int → Int → Int → Option (Int × xS)) (fu : Nat) (S : xS) (p0 : Nat) (i0 i1 i2 i3 i4 i5 : Int) : Option (Int × xS) :=
  if isO 5 S p0 = true then
  bd2 (f_X6_ways fu S p0) fun x10 S8 =>
  if wI x10 ≤ wI i1 then (if wI i0 = 0 then (if isO 5 S8 p0 = true then
  bd2 (f_X6_no fu S8 p0) fun x16 S14 =>
  some (x16, S14) else none)
  else (rc 5 S8 p0 i0 ((-1)) ((-1)) 0 0 0))
  else (if isO 5 S8 p0 = true then
  bd2 (f_X6_takeRank fu S8 p0 i1) fun z20 S18 =>
  if isO 5 S18 p0 = true then
  bd2 (f_X6_isSo fu S18 p0) fun x24 S22 =>
  if wI x24 = 0 then (rc 4 S22 p0 i0 i1 0 0 0 0)
  else (nmx (i0 + 1) fun x27 =>
  rc 3 S22 p0 x27 i1 0 0 0 0) else none else none) else none
noncomputable def b_X6_look_3 (rc : Nat → xS → Nat → Int → Int → Int → Int → Int → Int → Option (Int × xS)) (fu : Nat) (S : xS) (p0 : Nat) (i0 i1 i2 i3 i4 i5 : Int) : Option (Int × xS) :=
  if isO 5 S p0 = true then
  bd2 (f_X6_n fu S p0) fun x31 S29 =>
  if wI x31 ≤ wI i2 then (rc 4 S29 p0 i0 i1 0 0 0 0)
  else ((rdFp 5 18 S29 p0).bind fun q35 =>
  (rdFp 5 6 S29 p0).bind fun q37 =>
  (rdA 0 S29 q37 i2).bind fun x38 =>
  (rdA 0 S29 q35 ((7 * i2) + x38)).bind fun x40 =>
  (wrA 0 S29 q35 ((7 * i2) + x38) (x40 + 1)).bind fun S43 =>
  nmx (i2 + 1) fun x44 =>
  rc 3 S43 p0 i0 i1 x44 0 0 0) else none
noncomputable def b_X6_look_4 (rc : Nat → xS → Nat → Int → Int → Int → Int → Int → Int → Option (Int × xS)) (fu : Nat) (S : xS) (p0 : Nat) (i0 i1 i2 i3 i4 i5 : Int) : Option (Int × xS) :=
  nmx (i1 + 1) fun x46 =>
  rc 2 S p0 i0 x46 0 0 0 0
noncomputable def b_X6_look_5 (rc : Nat → xS → Nat → Int → Int → Int → Int → Int → Int → Option (Int × xS)) (fu : Nat) (S : xS) (p0 : Nat) (i0 i1 i2 i3 i4 i5 : Int) : Option (Int × xS) :=
  if isO 5 S p0 = true then
  bd2 (f_X6_n fu S p0) fun x50 S48 =>
  if wI x50 ≤ wI i3 then (if wI i1 = wI ((-1)) then (some (i1, S48))
  else (if isO 5 S48 p0 = true then
  bd2 (f_X6_tell fu S48 p0 i2 (wI i0)) fun x56 S54 =>
  some (i1, S54) else none))
  else (rc 6 S48 p0 i0 i1 i2 i3 0 0) else none
noncomputable def b_X6_look_6 (rc : Nat → xS → Nat → Int → Int → Int → Int → Int → Int → Option (Int × xS)) (fu : Nat) (S : xS) (p0 : Nat) (i0 i1 i2 i3 i4 i5 : Int) : Option (Int × xS) :=
  if isO 5 S p0 = true then
  bd2 (f_X6_n fu S p0) fun x60 S58 =>
  if wI x60 ≤ wI i5 then ((rdFp 5 0 S58 p0).bind fun q64 =>
  (rdA 0 S58 q64 (17 + i3)).bind fun x65 =>
  if wI x65 = wI ((-1)) then (if wI i1 = wI ((-1)) then (rc 7 S58 p0 i0 i1 i2 i3 i4 0)
  else (if 0 ≤ wI (xLcmp i4 i2) then (rc 8 S58 p0 i0 i1 i2 i3 i4 0)
  else (rc 7 S58 p0 i0 i1 i2 i3 i4 0)))
  else (rc 8 S58 p0 i0 i1 i2 i3 i4 0))
  else ((rdFp 5 18 S58 p0).bind fun q71 =>
  (rdA 0 S58 q71 ((7 * i3) + i5)).bind fun x72 =>
  (rdFp 5 18 S58 p0).bind fun q75 =>
  (rdA 0 S58 q75 ((7 * i3) + i5)).bind fun x76 =>
  nmx (i4 + ((wI x72) * (wI x76))) fun x78 =>
  nmx (i5 + 1) fun x80 =>
  rc 6 S58 p0 i0 i1 i2 i3 x78 x80) else none
noncomputable def b_X6_look_7 (rc : Nat → xS → Nat → Int → Int → Int → Int → Int → Int → Option (Int × xS)) (fu : Nat) (S : xS) (p0 : Nat) (i0 i1 i2 i3 i4 i5 : Int) : Option (Int × xS) :=
  rc 9 S p0 i0 i1 i2 i3 i4 1
noncomputable def b_X6_look_8 (rc : Nat → xS → Nat → Int → Int → Int → Int → Int → Int → Option (Int × xS)) (fu : Nat) (S : xS) (p0 : Nat) (i0 i1 i2 i3 i4 i5 : Int) : Option (Int × xS) :=
  rc 9 S p0 i0 i1 i2 i3 i4 0
noncomputable def b_X6_look_9 (rc : Nat → xS → Nat → Int → Int → Int → Int → Int → Int → Option (Int × xS)) (fu : Nat) (S : xS) (p0 : Nat) (i0 i1 i2 i3 i4 i5 : Int) : Option (Int × xS) :=
  if wI i5 = 0 then (rc 10 S p0 i0 i2 i3 i4 i5 i1)
  else (rc 10 S p0 i0 i2 i3 i4 i5 i3)
noncomputable def b_X6_look_10 (rc : Nat → xS → Nat → Int → Int → Int → Int → Int → Int → Option (Int × xS)) (fu : Nat) (S : xS) (p0 : Nat) (i0 i1 i2 i3 i4 i5 : Int) : Option (Int × xS) :=
  if wI i4 = 0 then (rc 11 S p0 i0 i5 i2 i1 0 0)
  else (rc 11 S p0 i0 i5 i2 i3 0 0)
noncomputable def b_X6_look_11 (rc : Nat → xS → Nat → Int → Int → Int → Int → Int → Int → Option (Int × xS)) (fu : Nat) (S : xS) (p0 : Nat) (i0 i1 i2 i3 i4 i5 : Int) : Option (Int × xS) :=
  nmx (i2 + 1) fun x84 =>
  rc 5 S p0 i0 i1 i3 x84 0 0
noncomputable def s_X6_look (rc : Nat → xS → Nat → Int → Int → Int → Int → Int → Int → Option (Int × xS)) (fu lb : Nat) (S : xS) (p0 : Nat) (i0 i1 i2 i3 i4 i5 : Int) : Option (Int × xS) := match lb with
    | 0 => b_X6_look_0 rc fu S p0 i0 i1 i2 i3 i4 i5
    | 1 => b_X6_look_1 rc fu S p0 i0 i1 i2 i3 i4 i5
    | 2 => b_X6_look_2 rc fu S p0 i0 i1 i2 i3 i4 i5
    | 3 => b_X6_look_3 rc fu S p0 i0 i1 i2 i3 i4 i5
    | 4 => b_X6_look_4 rc fu S p0 i0 i1 i2 i3 i4 i5
    | 5 => b_X6_look_5 rc fu S p0 i0 i1 i2 i3 i4 i5
    | 6 => b_X6_look_6 rc fu S p0 i0 i1 i2 i3 i4 i5
    | 7 => b_X6_look_7 rc fu S p0 i0 i1 i2 i3 i4 i5
    | 8 => b_X6_look_8 rc fu S p0 i0 i1 i2 i3 i4 i5
    | 9 => b_X6_look_9 rc fu S p0 i0 i1 i2 i3 i4 i5
    | 10 => b_X6_look_10 rc fu S p0 i0 i1 i2 i3 i4 i5
    | _ => b_X6_look_11 rc fu S p0 i0 i1 i2 i3 i4 i5
noncomputable def g_X6_look (k : Nat) : Nat → xS → Nat → Int → Int → Int → Int → Int → Int → Option (Int × xS) := Nat.rec (motive := fun _ => Nat → xS → Nat → Int → Int → Int → Int → Int → Int → Option (Int × xS)) (fun _ _ _ _ _ _ _ _ _ => none) (fun fu rc => s_X6_look rc fu) k
noncomputable def f_X6_look (fu : Nat) (S : xS) (p0 : Nat) : Option (Int × xS) := g_X6_look fu 0 S p0 0 0 0 0 0 0
noncomputable def b_X6_takeRules_0 (rc : Nat → xS → Nat → Int → Option (Int × xS)) (fu : Nat) (S : xS) (p0 : Nat) (i0 : Int) : Option (Int × xS) :=
  rc 1 S p0 0
noncomputable def b_X6_takeRules_1 (rc : Nat → xS → Nat → Int → Option (Int × xS)) (fu : Nat) (S : xS) (p0 : Nat) (i0 : Int) : Option (Int × xS) :=
  if wI 7 ≤ wI i0 then (some ((0 : Int), S))
  else ((rdFp 5 20 S p0).bind fun q3 =>
  (rdFp 5 0 S p0).bind fun q5 =>
  (rdA 0 S q5 (10 + i0)).bind fun x6 =>
  (wrA 0 S q3 i0 x6).bind fun S9 =>
  nmx (i0 + 1) fun x10 =>
  rc 1 S9 p0 x10)
noncomputable def s_X6_takeRules (rc : Nat → xS → Nat → Int → Option (Int × xS)) (fu lb : Nat) (S : xS) (p0 : Nat) (i0 : Int) : Option (Int × xS) := match lb with
    | 0 => b_X6_takeRules_0 rc fu S p0 i0
    | _ => b_X6_takeRules_1 rc fu S p0 i0
noncomputable def g_X6_takeRules (k : Nat) : Nat → xS → Nat → Int → Option (Int × xS) := Nat.rec (motive := fun _ => Nat → xS → Nat → Int → Option (Int × xS)) (fun _ _ _ _ => none) (fun fu rc => s_X6_takeRules rc fu) k
noncomputable def f_X6_takeRules (fu : Nat) (S : xS) (p0 : Nat) : Option (Int × xS) := g_X6_takeRules fu 0 S p0 0
noncomputable def b_X6_giveRules_0 (rc : Nat → xS → Nat → Int → Option (Int × xS)) (fu : Nat) (S : xS) (p0 : Nat) (i0 : Int) : Option (Int × xS) :=
  rc 1 S p0 0
noncomputable def b_X6_giveRules_1 (rc : Nat → xS → Nat → Int → Option (Int × xS)) (fu : Nat) (S : xS) (p0 : Nat) (i0 : Int) : Option (Int × xS) :=
  if wI 7 ≤ wI i0 then (some ((0 : Int), S))
  else ((rdFp 5 0 S p0).bind fun q3 =>
  (rdFp 5 20 S p0).bind fun q5 =>
  (rdA 0 S q5 i0).bind fun x6 =>
  (wrA 0 S q3 (10 + i0) x6).bind fun S9 =>
  nmx (i0 + 1) fun x10 =>
  rc 1 S9 p0 x10)
noncomputable def s_X6_giveRules (rc : Nat → xS → Nat → Int → Option (Int × xS)) (fu lb : Nat) (S : xS) (p0 : Nat) (i0 : Int) : Option (Int × xS) := match lb with
    | 0 => b_X6_giveRules_0 rc fu S p0 i0
    | _ => b_X6_giveRules_1 rc fu S p0 i0
noncomputable def g_X6_giveRules (k : Nat) : Nat → xS → Nat → Int → Option (Int × xS) := Nat.rec (motive := fun _ => Nat → xS → Nat → Int → Option (Int × xS)) (fun _ _ _ _ => none) (fun fu rc => s_X6_giveRules rc fu) k
noncomputable def f_X6_giveRules (fu : Nat) (S : xS) (p0 : Nat) : Option (Int × xS) := g_X6_giveRules fu 0 S p0 0
noncomputable def b_X6_tryRules_0 (rc : Nat → xS → Nat → Nat → Int → Int → Int → Int → Option (Int × xS)) (fu : Nat) (S : xS) (p0 p1 : Nat) (i0 i1 i2 i3 : Int) : Option (Int × xS) :=
  rc 1 S p0 0 0 0 0 0
noncomputable def b_X6_tryRules_1 (rc : Nat → xS → Nat → Nat → Int → Int → Int → Int → Option (Int × xS)) (fu : Nat) (S : xS) (p0 p1 : Nat) (i0 i1 i2 i3 : Int) : Option (Int × xS) :=
  if wI 5 < wI i0 then (if isO 5 S p0 = true then
  bd2 (f_X6_giveRules fu S p0) fun z4 S2 =>
  some ((0 : Int), S2) else none)
  else (rc 2 S p0 0 i0 0 0 0)
noncomputable def b_X6_tryRules_2 (rc : Nat → xS → Nat → Nat → Int → Int → Int → Int → Option (Int × xS)) (fu : Nat) (S : xS) (p0 p1 : Nat) (i0 i1 i2 i3 : Int) : Option (Int × xS) :=
  if isO 5 S p0 = true then
  bd2 (f_X6_n fu S p0) fun x8 S6 =>
  if wI x8 ≤ wI i1 then ((rdFp 5 19 S6 p0).bind fun q12 =>
  (rdA 0 S6 q12 i0).bind fun x13 =>
  if isO 5 S6 p0 = true then
  bd2 (f_X6_findsHand fu S6 p0) fun x17 S15 =>
  if isO 5 S15 p0 = true then
  bd2 (f_X6_all fu S15 p0) fun x21 S19 =>
  if wI x17 = wI x21 then (rc 3 S19 p0 q12 i0 i0 x13 1)
  else (rc 3 S19 p0 q12 i0 i0 x13 0) else none else none)
  else ((rdFp 5 0 S6 p0).bind fun q25 =>
  (wrA 0 S6 q25 (10 + i1) i0).bind fun S27 =>
  nmx (i1 + 1) fun x28 =>
  rc 2 S27 p0 0 i0 x28 0 0) else none
noncomputable def b_X6_tryRules_3 (rc : Nat → xS → Nat → Nat → Int → Int → Int → Int → Option (Int × xS)) (fu : Nat) (S : xS) (p0 p1 : Nat) (i0 i1 i2 i3 : Int) : Option (Int × xS) :=
  (wrA 0 S p1 i1 (i2 + i3)).bind fun S31 =>
  nmx (i0 + 1) fun x32 =>
  rc 1 S31 p0 0 x32 0 0 0
noncomputable def s_X6_tryRules (rc : Nat → xS → Nat → Nat → Int → Int → Int → Int → Option (Int × xS)) (fu lb : Nat) (S : xS) (p0 p1 : Nat) (i0 i1 i2 i3 : Int) : Option (Int × xS) := match lb with
    | 0 => b_X6_tryRules_0 rc fu S p0 p1 i0 i1 i2 i3
    | 1 => b_X6_tryRules_1 rc fu S p0 p1 i0 i1 i2 i3
    | 2 => b_X6_tryRules_2 rc fu S p0 p1 i0 i1 i2 i3
    | _ => b_X6_tryRules_3 rc fu S p0 p1 i0 i1 i2 i3
noncomputable def g_X6_tryRules (k : Nat) : Nat → xS → Nat → Nat → Int → Int → Int → Int → Option (Int × xS) := Nat.rec (motive := fun _ => Nat → xS → Nat → Nat → Int → Int → Int → Int → Option (Int × xS)) (fun _ _ _ _ _ _ _ _ => none) (fun fu rc => s_X6_tryRules rc fu) k
noncomputable def f_X6_tryRules (fu : Nat) (S : xS) (p0 : Nat) : Option (Int × xS) := g_X6_tryRules fu 0 S p0 0 0 0 0 0
noncomputable def b_X6_advice_0 (rc : Nat → xS → Nat → Int → Int → Int → Option (Int × xS)) (fu : Nat) (S : xS) (p0 : Nat) (i0 i1 i2 : Int) : Option (Int × xS) :=
  if isO 5 S p0 = true then
  bd2 (f_X6_takeRules fu S p0) fun z3 S1 =>
  rc 1 S1 p0 0 0 0 else none
noncomputable def b_X6_advice_1 (rc : Nat → xS → Nat → Int → Int → Int → Option (Int × xS)) (fu : Nat) (S : xS) (p0 : Nat) (i0 i1 i2 : Int) : Option (Int × xS) :=
  if wI 5 < wI i1 then (rc 2 S p0 i0 0 0)
  else ((rdFp 5 19 S p0).bind fun q7 =>
  (wrA 0 S q7 i1 0).bind fun S9 =>
  nmx (i1 + 1) fun x10 =>
  rc 1 S9 p0 i0 x10 0)
noncomputable def b_X6_advice_2 (rc : Nat → xS → Nat → Int → Int → Int → Option (Int × xS)) (fu : Nat) (S : xS) (p0 : Nat) (i0 i1 i2 : Int) : Option (Int × xS) :=
  if isO 5 S p0 = true then
  bd2 (f_X6_ways fu S p0) fun x14 S12 =>
  if wI x14 ≤ wI i1 then (if wI i0 = 0 then (if isO 5 S12 p0 = true then
  bd2 (f_X6_no fu S12 p0) fun x20 S18 =>
  some (x20, S18) else none)
  else (rc 4 S12 p0 i0 0 1))
  else (if isO 5 S12 p0 = true then
  bd2 (f_X6_takeRank fu S12 p0 i1) fun z24 S22 =>
  if isO 5 S22 p0 = true then
  bd2 (f_X6_isSo fu S22 p0) fun x28 S26 =>
  if wI x28 = 0 then (rc 3 S26 p0 i0 i1 0)
  else (nmx (i0 + 1) fun x31 =>
  if isO 5 S26 p0 = true then
  bd2 (f_X6_tryRules fu S26 p0) fun z35 S33 =>
  rc 3 S33 p0 x31 i1 0 else none) else none else none) else none
noncomputable def b_X6_advice_3 (rc : Nat → xS → Nat → Int → Int → Int → Option (Int × xS)) (fu : Nat) (S : xS) (p0 : Nat) (i0 i1 i2 : Int) : Option (Int × xS) :=
  nmx (i1 + 1) fun x37 =>
  rc 2 S p0 i0 x37 0
noncomputable def b_X6_advice_4 (rc : Nat → xS → Nat → Int → Int → Int → Option (Int × xS)) (fu : Nat) (S : xS) (p0 : Nat) (i0 i1 i2 : Int) : Option (Int × xS) :=
  if wI 5 < wI i2 then ((rdFp 5 19 S p0).bind fun q41 =>
  (rdA 0 S q41 i1).bind fun x42 =>
  if isO 5 S p0 = true then
  bd2 (f_X6_tell fu S p0 (wI x42) (wI i0)) fun x46 S44 =>
  some (i1, S44) else none)
  else ((rdFp 5 19 S p0).bind fun q49 =>
  (rdA 0 S q49 i2).bind fun x50 =>
  (rdFp 5 19 S p0).bind fun q53 =>
  (rdA 0 S q53 i1).bind fun x54 =>
  if wI x50 ≤ wI x54 then (rc 5 S p0 i0 i2 i1)
  else (rc 5 S p0 i0 i2 i2))
noncomputable def b_X6_advice_5 (rc : Nat → xS → Nat → Int → Int → Int → Option (Int × xS)) (fu : Nat) (S : xS) (p0 : Nat) (i0 i1 i2 : Int) : Option (Int × xS) :=
  nmx (i1 + 1) fun x57 =>
  rc 4 S p0 i0 i2 x57
noncomputable def s_X6_advice (rc : Nat → xS → Nat → Int → Int → Int → Option (Int × xS)) (fu lb : Nat) (S : xS) (p0 : Nat) (i0 i1 i2 : Int) : Option (Int × xS) := match lb with
    | 0 => b_X6_advice_0 rc fu S p0 i0 i1 i2
    | 1 => b_X6_advice_1 rc fu S p0 i0 i1 i2
    | 2 => b_X6_advice_2 rc fu S p0 i0 i1 i2
    | 3 => b_X6_advice_3 rc fu S p0 i0 i1 i2
    | 4 => b_X6_advice_4 rc fu S p0 i0 i1 i2
    | _ => b_X6_advice_5 rc fu S p0 i0 i1 i2
noncomputable def g_X6_advice (k : Nat) : Nat → xS → Nat → Int → Int → Int → Option (Int × xS) := Nat.rec (motive := fun _ => Nat → xS → Nat → Int → Int → Int → Option (Int × xS)) (fun _ _ _ _ _ _ => none) (fun fu rc => s_X6_advice rc fu) k
noncomputable def f_X6_advice (fu : Nat) (S : xS) (p0 : Nat) : Option (Int × xS) := g_X6_advice fu 0 S p0 0 0 0
noncomputable def b_X6_worst_0 (rc : Nat → xS → Nat → Int → Int → Int → Int → Int → Option (Int × xS)) (fu : Nat) (S : xS) (p0 : Nat) (i0 i1 i2 i3 i4 : Int) : Option (Int × xS) :=
  bd2 (f_X6_in fu S (wI i0) 0 1) fun x3 S1 =>
  if wI x3 = 0 then (if isO 5 S1 p0 = true then
  bd2 (f_X6_bad fu S1 p0 ((-2))) fun x7 S5 =>
  some (x7, S5) else none)
  else (rc 1 S1 p0 i0 ((-1)) 1000000 0 0)
noncomputable def b_X6_worst_1 (rc : Nat → xS → Nat → Int → Int → Int → Int → Int → Option (Int × xS)) (fu : Nat) (S : xS) (p0 : Nat) (i0 i1 i2 i3 i4 : Int) : Option (Int × xS) :=
  if isO 5 S p0 = true then
  bd2 (f_X6_ways fu S p0) fun x11 S9 =>
  if wI x11 ≤ wI i3 then (if wI i1 = wI ((-1)) then (if isO 5 S9 p0 = true then
  bd2 (f_X6_no fu S9 p0) fun x18 S16 =>
  some (x18, S16) else none)
  else (if wI i0 = 0 then (some (i1, S9))
  else (some (i2, S9))))
  else (if isO 5 S9 p0 = true then
  bd2 (f_X6_takeRank fu S9 p0 i3) fun z22 S20 =>
  if isO 5 S20 p0 = true then
  bd2 (f_X6_isSo fu S20 p0) fun x26 S24 =>
  if wI x26 = 0 then (rc 2 S24 p0 i0 i1 i2 i3 1000000)
  else (if isO 5 S24 p0 = true then
  bd2 (f_X6_findsHand fu S24 p0) fun x31 S29 =>
  bd2 (f_X6_bits fu S29 x31) fun x35 S33 =>
  rc 2 S33 p0 i0 i1 i2 i3 x35 else none) else none else none) else none
noncomputable def b_X6_worst_2 (rc : Nat → xS → Nat → Int → Int → Int → Int → Int → Option (Int × xS)) (fu : Nat) (S : xS) (p0 : Nat) (i0 i1 i2 i3 i4 : Int) : Option (Int × xS) :=
  if wI i2 ≤ wI i4 then (rc 3 S p0 i0 i2 i3 i4 i1)
  else (rc 3 S p0 i0 i2 i3 i4 i3)
noncomputable def b_X6_worst_3 (rc : Nat → xS → Nat → Int → Int → Int → Int → Int → Option (Int × xS)) (fu : Nat) (S : xS) (p0 : Nat) (i0 i1 i2 i3 i4 : Int) : Option (Int × xS) :=
  if wI i1 ≤ wI i3 then (rc 4 S p0 i0 i4 i2 i1 0)
  else (rc 4 S p0 i0 i4 i2 i3 0)
noncomputable def b_X6_worst_4 (rc : Nat → xS → Nat → Int → Int → Int → Int → Int → Option (Int × xS)) (fu : Nat) (S : xS) (p0 : Nat) (i0 i1 i2 i3 i4 : Int) : Option (Int × xS) :=
  nmx (i2 + 1) fun x38 =>
  rc 1 S p0 i0 i1 i3 x38 0
noncomputable def s_X6_worst (rc : Nat → xS → Nat → Int → Int → Int → Int → Int → Option (Int × xS)) (fu lb : Nat) (S : xS) (p0 : Nat) (i0 i1 i2 i3 i4 : Int) : Option (Int × xS) := match lb with
    | 0 => b_X6_worst_0 rc fu S p0 i0 i1 i2 i3 i4
    | 1 => b_X6_worst_1 rc fu S p0 i0 i1 i2 i3 i4
    | 2 => b_X6_worst_2 rc fu S p0 i0 i1 i2 i3 i4
    | 3 => b_X6_worst_3 rc fu S p0 i0 i1 i2 i3 i4
    | _ => b_X6_worst_4 rc fu S p0 i0 i1 i2 i3 i4
noncomputable def g_X6_worst (k : Nat) : Nat → xS → Nat → Int → Int → Int → Int → Int → Option (Int × xS) := Nat.rec (motive := fun _ => Nat → xS → Nat → Int → Int → Int → Int → Int → Option (Int × xS)) (fun _ _ _ _ _ _ _ _ => none) (fun fu rc => s_X6_worst rc fu) k
noncomputable def f_X6_worst (fu : Nat) (S : xS) (p0 : Nat) (i0 : Int) : Option (Int × xS) := g_X6_worst fu 0 S p0 i0 0 0 0 0
noncomputable def b_X6_swaps_0 (rc : Nat → xS → Nat → Int → Int → Int → Int → Option (Int × xS)) (fu : Nat) (S : xS) (p0 : Nat) (i0 i1 i2 i3 : Int) : Option (Int × xS) :=
  rc 1 S p0 0 0 0 0
noncomputable def b_X6_swaps_1 (rc : Nat → xS → Nat → Int → Int → Int → Int → Option (Int × xS)) (fu : Nat) (S : xS) (p0 : Nat) (i0 i1 i2 i3 : Int) : Option (Int × xS) :=
  if isO 5 S p0 = true then
  bd2 (f_X6_n fu S p0) fun x3 S1 =>
  if wI x3 ≤ wI i0 then (rc 2 S1 p0 0 0 0 0)
  else ((rdFp 5 21 S1 p0).bind fun q7 =>
  (rdFp 5 0 S1 p0).bind fun q9 =>
  (rdA 0 S1 q9 (3 + i0)).bind fun x10 =>
  (rdFp 5 6 S1 p0).bind fun q13 =>
  (rdA 0 S1 q13 i0).bind fun x14 =>
  (wrA 0 S1 q7 x10 x14).bind fun S17 =>
  nmx (i0 + 1) fun x18 =>
  rc 1 S17 p0 x18 0 0 0) else none
noncomputable def b_X6_swaps_2 (rc : Nat → xS → Nat → Int → Int → Int → Int → Option (Int × xS)) (fu : Nat) (S : xS) (p0 : Nat) (i0 i1 i2 i3 : Int) : Option (Int × xS) :=
  if isO 5 S p0 = true then
  bd2 (f_X6_n fu S p0) fun x22 S20 =>
  if wI x22 ≤ wI i1 then (if isO 5 S20 p0 = true then
  bd2 (f_X6_n fu S20 p0) fun x27 S25 =>
  some (x27 - i0, S25) else none)
  else ((rdFp 5 21 S20 p0).bind fun q30 =>
  (rdA 0 S20 q30 i1).bind fun x31 =>
  rc 3 S20 p0 i0 i1 1 x31) else none
noncomputable def b_X6_swaps_3 (rc : Nat → xS → Nat → Int → Int → Int → Int → Option (Int × xS)) (fu : Nat) (S : xS) (p0 : Nat) (i0 i1 i2 i3 : Int) : Option (Int × xS) :=
  if wI i3 = wI i1 then (if wI i2 = 0 then (rc 6 S p0 i1 i0 0 0)
  else (rc 6 S p0 i1 i0 1 0))
  else (if wI i2 = 0 then (rc 4 S p0 i0 i1 i3 0)
  else (if wI i3 ≤ wI i1 then (rc 4 S p0 i0 i1 i3 0)
  else (rc 5 S p0 i0 i1 i3 1)))
noncomputable def b_X6_swaps_4 (rc : Nat → xS → Nat → Int → Int → Int → Int → Option (Int × xS)) (fu : Nat) (S : xS) (p0 : Nat) (i0 i1 i2 i3 : Int) : Option (Int × xS) :=
  rc 5 S p0 i0 i1 i2 0
noncomputable def b_X6_swaps_5 (rc : Nat → xS → Nat → Int → Int → Int → Int → Option (Int × xS)) (fu : Nat) (S : xS) (p0 : Nat) (i0 i1 i2 i3 : Int) : Option (Int × xS) :=
  (rdFp 5 21 S p0).bind fun q38 =>
  (rdA 0 S q38 i2).bind fun x39 =>
  rc 3 S p0 i0 i1 i3 x39
noncomputable def b_X6_swaps_6 (rc : Nat → xS → Nat → Int → Int → Int → Int → Option (Int × xS)) (fu : Nat) (S : xS) (p0 : Nat) (i0 i1 i2 i3 : Int) : Option (Int × xS) :=
  nmx (i1 + i2) fun x41 =>
  nmx (i0 + 1) fun x43 =>
  rc 2 S p0 x41 x43 0 0
noncomputable def s_X6_swaps (rc : Nat → xS → Nat → Int → Int → Int → Int → Option (Int × xS)) (fu lb : Nat) (S : xS) (p0 : Nat) (i0 i1 i2 i3 : Int) : Option (Int × xS) := match lb with
    | 0 => b_X6_swaps_0 rc fu S p0 i0 i1 i2 i3
    | 1 => b_X6_swaps_1 rc fu S p0 i0 i1 i2 i3
    | 2 => b_X6_swaps_2 rc fu S p0 i0 i1 i2 i3
    | 3 => b_X6_swaps_3 rc fu S p0 i0 i1 i2 i3
    | 4 => b_X6_swaps_4 rc fu S p0 i0 i1 i2 i3
    | 5 => b_X6_swaps_5 rc fu S p0 i0 i1 i2 i3
    | _ => b_X6_swaps_6 rc fu S p0 i0 i1 i2 i3
noncomputable def g_X6_swaps (k : Nat) : Nat → xS → Nat → Int → Int → Int → Int → Option (Int × xS) := Nat.rec (motive := fun _ => Nat → xS → Nat → Int → Int → Int → Int → Option (Int × xS)) (fun _ _ _ _ _ _ _ => none) (fun fu rc => s_X6_swaps rc fu) k
noncomputable def f_X6_swaps (fu : Nat) (S : xS) (p0 : Nat) : Option (Int × xS) := g_X6_swaps fu 0 S p0 0 0 0 0
noncomputable def b_X6_mended_0 (rc : Nat → xS → Nat → Int → Int → Int → Int → Option (Int × xS)) (fu : Nat) (S : xS) (p0 : Nat) (i0 i1 i2 i3 : Int) : Option (Int × xS) :=
  rc 1 S p0 1000000 0 0 0
noncomputable def b_X6_mended_1 (rc : Nat → xS → Nat → Int → Int → Int → Int → Option (Int × xS)) (fu : Nat) (S : xS) (p0 : Nat) (i0 i1 i2 i3 : Int) : Option (Int × xS) :=
  if isO 5 S p0 = true then
  bd2 (f_X6_ways fu S p0) fun x3 S1 =>
  if wI x3 ≤ wI i1 then (if wI i0 = wI 1000000 then (some ((-1), S1))
  else (some (i0, S1)))
  else (if isO 5 S1 p0 = true then
  bd2 (f_X6_takeRank fu S1 p0 i1) fun z9 S7 =>
  if isO 5 S7 p0 = true then
  bd2 (f_X6_swaps fu S7 p0) fun x13 S11 =>
  if wI i0 ≤ wI x13 then (rc 2 S11 p0 i0 i1 x13 0)
  else (if isO 5 S11 p0 = true then
  bd2 (f_X6_findsHand fu S11 p0) fun x18 S16 =>
  if isO 5 S16 p0 = true then
  bd2 (f_X6_all fu S16 p0) fun x22 S20 =>
  if wI x18 = wI x22 then (rc 3 S20 p0 i0 i1 x13 1)
  else (rc 2 S20 p0 i0 i1 x13 0) else none else none) else none else none) else none
noncomputable def b_X6_mended_2 (rc : Nat → xS → Nat → Int → Int → Int → Int → Option (Int × xS)) (fu : Nat) (S : xS) (p0 : Nat) (i0 i1 i2 i3 : Int) : Option (Int × xS) :=
  rc 3 S p0 i0 i1 i2 0
noncomputable def b_X6_mended_3 (rc : Nat → xS → Nat → Int → Int → Int → Int → Option (Int × xS)) (fu : Nat) (S : xS) (p0 : Nat) (i0 i1 i2 i3 : Int) : Option (Int × xS) :=
  if wI i3 = 0 then (rc 4 S p0 i1 i0 0 0)
  else (rc 4 S p0 i1 i2 0 0)
noncomputable def b_X6_mended_4 (rc : Nat → xS → Nat → Int → Int → Int → Int → Option (Int × xS)) (fu : Nat) (S : xS) (p0 : Nat) (i0 i1 i2 i3 : Int) : Option (Int × xS) :=
  nmx (i0 + 1) fun x26 =>
  rc 1 S p0 i1 x26 0 0
noncomputable def s_X6_mended (rc : Nat → xS → Nat → Int → Int → Int → Int → Option (Int × xS)) (fu lb : Nat) (S : xS) (p0 : Nat) (i0 i1 i2 i3 : Int) : Option (Int × xS) := match lb with
    | 0 => b_X6_mended_0 rc fu S p0 i0 i1 i2 i3
    | 1 => b_X6_mended_1 rc fu S p0 i0 i1 i2 i3
    | 2 => b_X6_mended_2 rc fu S p0 i0 i1 i2 i3
    | 3 => b_X6_mended_3 rc fu S p0 i0 i1 i2 i3
    | _ => b_X6_mended_4 rc fu S p0 i0 i1 i2 i3
noncomputable def g_X6_mended (k : Nat) : Nat → xS → Nat → Int → Int → Int → Int → Option (Int × xS) := Nat.rec (motive := fun _ => Nat → xS → Nat → Int → Int → Int → Int → Option (Int × xS)) (fun _ _ _ _ _ _ _ => none) (fun fu rc => s_X6_mended rc fu) k
noncomputable def f_X6_mended (fu : Nat) (S : xS) (p0 : Nat) : Option (Int × xS) := g_X6_mended fu 0 S p0 0 0 0 0
noncomputable def b_X6_third_0 (rc : Nat → xS → Nat → Int → Int → Int → Int → Int → Int → Int → Option (Int × xS)) (fu : Nat) (S : xS) (p0 : Nat) (i0 i1 i2 i3 i4 i5 i6 : Int) : Option (Int × xS) :=
  bd2 (f_X6_in fu S (wI i0) 0 1) fun x3 S1 =>
  if wI x3 = 0 then (if isO 5 S1 p0 = true then
  bd2 (f_X6_bad fu S1 p0 ((-2))) fun x18 S16 =>
  some (x18, S16) else none)
  else (if isO 5 S1 p0 = true then
  bd2 (f_X6_takeNow fu S1 p0) fun z7 S5 =>
  if isO 5 S5 p0 = true then
  bd2 (f_X6_findsHand fu S5 p0) fun x11 S9 =>
  bd2 (f_X6_bits fu S9 x11) fun x15 S13 =>
  rc 1 S13 p0 i0 x15 ((-1)) 0 0 0 0 else none else none)
noncomputable def b_X6_third_1 (rc : Nat → xS → Nat → Int → Int → Int → Int → Int → Int → Int → Option (Int × xS)) (fu : Nat) (S : xS) (p0 : Nat) (i0 i1 i2 i3 i4 i5 i6 : Int) : Option (Int × xS) :=
  if isO 5 S p0 = true then
  bd2 (f_X6_n fu S p0) fun x22 S20 =>
  if wI x22 ≤ wI i3 then (some (i2, S20))
  else (nmx (i3 + 1) fun x25 =>
  rc 2 S20 p0 i0 i1 i2 i3 x25 0 0) else none
noncomputable def b_X6_third_2 (rc : Nat → xS → Nat → Int → Int → Int → Int → Int → Int → Int → Option (Int × xS)) (fu : Nat) (S : xS) (p0 : Nat) (i0 i1 i2 i3 i4 i5 i6 : Int) : Option (Int × xS) :=
  if isO 5 S p0 = true then
  bd2 (f_X6_n fu S p0) fun x29 S27 =>
  if wI x29 ≤ wI i4 then (nmx (i3 + 1) fun x32 =>
  rc 1 S27 p0 i0 i1 i2 x32 0 0 0)
  else (if isO 5 S27 p0 = true then
  bd2 (f_X6_takeNow fu S27 p0) fun z36 S34 =>
  if isO 5 S34 p0 = true then
  bd2 (f_X6_swapHand fu S34 p0 i3 i4) fun z40 S38 =>
  if isO 5 S38 p0 = true then
  bd2 (f_X6_findsHand fu S38 p0) fun x44 S42 =>
  bd2 (f_X6_bits fu S42 x44) fun x48 S46 =>
  if wI i0 = 0 then (if wI x48 ≤ wI i1 then (rc 3 S46 p0 i0 i1 i2 i3 i4 x48 0)
  else (rc 3 S46 p0 i0 i1 i2 i3 i4 x48 1))
  else (if wI i1 ≤ wI x48 then (rc 3 S46 p0 i0 i1 i2 i3 i4 x48 0)
  else (rc 3 S46 p0 i0 i1 i2 i3 i4 x48 1)) else none else none else none) else none
noncomputable def b_X6_third_3 (rc : Nat → xS → Nat → Int → Int → Int → Int → Int → Int → Int → Option (Int × xS)) (fu : Nat) (S : xS) (p0 : Nat) (i0 i1 i2 i3 i4 i5 i6 : Int) : Option (Int × xS) :=
  if wI i6 = 0 then (rc 4 S p0 i0 i1 i3 i4 i5 i6 i2)
  else (rc 4 S p0 i0 i1 i3 i4 i5 i6 ((10 * i3) + i4))
noncomputable def b_X6_third_4 (rc : Nat → xS → Nat → Int → Int → Int → Int → Int → Int → Int → Option (Int × xS)) (fu : Nat) (S : xS) (p0 : Nat) (i0 i1 i2 i3 i4 i5 i6 : Int) : Option (Int × xS) :=
  if wI i5 = 0 then (rc 5 S p0 i0 i6 i2 i3 i1 0 0)
  else (rc 5 S p0 i0 i6 i2 i3 i4 0 0)
noncomputable def b_X6_third_5 (rc : Nat → xS → Nat → Int → Int → Int → Int → Int → Int → Int → Option (Int × xS)) (fu : Nat) (S : xS) (p0 : Nat) (i0 i1 i2 i3 i4 i5 i6 : Int) : Option (Int × xS) :=
  nmx (i3 + 1) fun x54 =>
  rc 2 S p0 i0 i4 i1 i2 x54 0 0
noncomputable def s_X6_third (rc : Nat → xS → Nat → Int → Int → Int → Int → Int → Int → Int → Option (Int × xS)) (fu lb : Nat) (S : xS) (p0 : Nat) (i0 i1 i2 i3 i4 i5 i6 : Int) : Option (Int × xS) := match lb with
    | 0 => b_X6_third_0 rc fu S p0 i0 i1 i2 i3 i4 i5 i6
    | 1 => b_X6_third_1 rc fu S p0 i0 i1 i2 i3 i4 i5 i6
    | 2 => b_X6_third_2 rc fu S p0 i0 i1 i2 i3 i4 i5 i6
    | 3 => b_X6_third_3 rc fu S p0 i0 i1 i2 i3 i4 i5 i6
    | 4 => b_X6_third_4 rc fu S p0 i0 i1 i2 i3 i4 i5 i6
    | _ => b_X6_third_5 rc fu S p0 i0 i1 i2 i3 i4 i5 i6
noncomputable def g_X6_third (k : Nat) : Nat → xS → Nat → Int → Int → Int → Int → Int → Int → Int → Option (Int × xS) := Nat.rec (motive := fun _ => Nat → xS → Nat → Int → Int → Int → Int → Int → Int → Int → Option (Int × xS)) (fun _ _ _ _ _ _ _ _ _ _ => none) (fun fu rc => s_X6_third rc fu) k
noncomputable def f_X6_third (fu : Nat) (S : xS) (p0 : Nat) (i0 : Int) : Option (Int × xS) := g_X6_third fu 0 S p0 i0 0 0 0 0 0 0
noncomputable def b_X6_layHand_0 (rc : Nat → xS → Nat → Int → Int → Option (Int × xS)) (fu : Nat) (S : xS) (p0 : Nat) (i0 i1 : Int) : Option (Int × xS) :=
  rc 1 S p0 i0 0
noncomputable def b_X6_layHand_1 (rc : Nat → xS → Nat → Int → Int → Option (Int × xS)) (fu : Nat) (S : xS) (p0 : Nat) (i0 i1 : Int) : Option (Int × xS) :=
  if isO 5 S p0 = true then
  bd2 (f_X6_n fu S p0) fun x3 S1 =>
  if wI x3 ≤ wI i1 then (if isO 5 S1 p0 = true then
  bd2 (f_X6_n fu S1 p0) fun x8 S6 =>
  nmx (x8 - 1) fun x10 =>
  rc 2 S6 p0 i0 x10 else none)
  else ((rdFp 5 6 S1 p0).bind fun q13 =>
  (wrA 0 S1 q13 i1 i1).bind fun S15 =>
  nmx (i1 + 1) fun x16 =>
  rc 1 S15 p0 i0 x16) else none
noncomputable def b_X6_layHand_2 (rc : Nat → xS → Nat → Int → Int → Option (Int × xS)) (fu : Nat) (S : xS) (p0 : Nat) (i0 i1 : Int) : Option (Int × xS) :=
  if wI i1 ≤ 0 then (some ((0 : Int), S))
  else (if wL 2147483648 = 0 then none else
  nmx ((wL ((i0 * 1103515245) + 12345)).tmod (wL 2147483648)) fun x20 =>
  if wL 65536 = 0 then none else
  if wL (wI (i1 + 1)) = 0 then none else
  if isO 5 S p0 = true then
  bd2 (f_X6_swapHand fu S p0 i1 ((wL ((wL x20).tdiv (wL 65536))).tmod (wL (wI (i1 + 1))))) fun z26 S24 =>
  nmx (i1 + (-1)) fun x28 =>
  rc 2 S24 p0 x20 x28 else none)
noncomputable def s_X6_layHand (rc : Nat → xS → Nat → Int → Int → Option (Int × xS)) (fu lb : Nat) (S : xS) (p0 : Nat) (i0 i1 : Int) : Option (Int × xS) := match lb with
    | 0 => b_X6_layHand_0 rc fu S p0 i0 i1
    | 1 => b_X6_layHand_1 rc fu S p0 i0 i1
    | _ => b_X6_layHand_2 rc fu S p0 i0 i1
noncomputable def g_X6_layHand (k : Nat) : Nat → xS → Nat → Int → Int → Option (Int × xS) := Nat.rec (motive := fun _ => Nat → xS → Nat → Int → Int → Option (Int × xS)) (fun _ _ _ _ _ => none) (fun fu rc => s_X6_layHand rc fu) k
noncomputable def f_X6_layHand (fu : Nat) (S : xS) (p0 : Nat) (i0 : Int) : Option (Int × xS) := g_X6_layHand fu 0 S p0 i0 0
noncomputable def f_X6_isSeed (fu : Nat) (S : xS) (i0 : Int) : Option (Int × xS) :=
  bd2 (f_X6_in fu S (wI i0) 0 999999) fun x3 S1 =>
  if x3 = 0 ∨ x3 = 1 then some (x3, S1) else none
noncomputable def f_X6_laid (fu : Nat) (S : xS) (p0 : Nat) (i0 : Int) : Option (Int × xS) :=
  bd2 (f_X6_isSeed fu S i0) fun x3 S1 =>
  if wI x3 = 0 then (if isO 5 S1 p0 = true then
  bd2 (f_X6_bad fu S1 p0 ((-2))) fun x15 S13 =>
  some (x15, S13) else none)
  else (if isO 5 S1 p0 = true then
  bd2 (f_X6_layHand fu S1 p0 (wI i0)) fun z7 S5 =>
  if isO 5 S5 p0 = true then
  bd2 (f_X6_rankOf fu S5 p0) fun x11 S9 =>
  some (x11, S9) else none else none)
noncomputable def b_X6_lucky_0 (rc : Nat → xS → Nat → Int → Int → Int → Int → Int → Option (Int × xS)) (fu : Nat) (S : xS) (p0 : Nat) (i0 i1 i2 i3 i4 : Int) : Option (Int × xS) :=
  bd2 (f_X6_isSeed fu S i0) fun x3 S1 =>
  if wI x3 = 0 then (rc 1 S1 p0 0 0 0 0 0)
  else (bd2 (f_X6_in fu S1 (wI i1) 0 60) fun x7 S5 =>
  if wI x7 = 0 then (rc 1 S5 p0 0 0 0 0 0)
  else (rc 2 S5 p0 i0 i1 0 0 0))
noncomputable def b_X6_lucky_1 (rc : Nat → xS → Nat → Int → Int → Int → Int → Int → Option (Int × xS)) (fu : Nat) (S : xS) (p0 : Nat) (i0 i1 i2 i3 i4 : Int) : Option (Int × xS) :=
  if isO 5 S p0 = true then
  bd2 (f_X6_bad fu S p0 ((-2))) fun x11 S9 =>
  some (x11, S9) else none
noncomputable def b_X6_lucky_2 (rc : Nat → xS → Nat → Int → Int → Int → Int → Int → Option (Int × xS)) (fu : Nat) (S : xS) (p0 : Nat) (i0 i1 i2 i3 i4 : Int) : Option (Int × xS) :=
  if wI i1 ≤ wI i3 then (some (i2, S))
  else (if isO 5 S p0 = true then
  bd2 (f_X6_layHand fu S p0 ((wI i0) + (wI i3))) fun z16 S14 =>
  if isO 5 S14 p0 = true then
  bd2 (f_X6_findsHand fu S14 p0) fun x20 S18 =>
  if isO 5 S18 p0 = true then
  bd2 (f_X6_all fu S18 p0) fun x24 S22 =>
  if wI x20 = wI x24 then (rc 3 S22 p0 i0 i1 i3 i2 1)
  else (rc 3 S22 p0 i0 i1 i3 i2 0) else none else none else none)
noncomputable def b_X6_lucky_3 (rc : Nat → xS → Nat → Int → Int → Int → Int → Int → Option (Int × xS)) (fu : Nat) (S : xS) (p0 : Nat) (i0 i1 i2 i3 i4 : Int) : Option (Int × xS) :=
  nmx (i3 + i4) fun x27 =>
  nmx (i2 + 1) fun x29 =>
  rc 2 S p0 i0 i1 x27 x29 0
noncomputable def s_X6_lucky (rc : Nat → xS → Nat → Int → Int → Int → Int → Int → Option (Int × xS)) (fu lb : Nat) (S : xS) (p0 : Nat) (i0 i1 i2 i3 i4 : Int) : Option (Int × xS) := match lb with
    | 0 => b_X6_lucky_0 rc fu S p0 i0 i1 i2 i3 i4
    | 1 => b_X6_lucky_1 rc fu S p0 i0 i1 i2 i3 i4
    | 2 => b_X6_lucky_2 rc fu S p0 i0 i1 i2 i3 i4
    | _ => b_X6_lucky_3 rc fu S p0 i0 i1 i2 i3 i4
noncomputable def g_X6_lucky (k : Nat) : Nat → xS → Nat → Int → Int → Int → Int → Int → Option (Int × xS) := Nat.rec (motive := fun _ => Nat → xS → Nat → Int → Int → Int → Int → Int → Option (Int × xS)) (fun _ _ _ _ _ _ _ _ => none) (fun fu rc => s_X6_lucky rc fu) k
noncomputable def f_X6_lucky (fu : Nat) (S : xS) (p0 : Nat) (i0 : Int) (i1 : Int) : Option (Int × xS) := g_X6_lucky fu 0 S p0 i0 i1 0 0 0
noncomputable def f_X6_type (fu : Nat) (S : xS) (p0 : Nat) (i0 : Int) : Option (Int × xS) :=
  bd2 (f_X6_in fu S (wI i0) 0 127) fun x3 S1 =>
  if wI x3 = 0 then (if isO 5 S1 p0 = true then
  bd2 (f_X6_bad fu S1 p0 ((-2))) fun x26 S24 =>
  some (x26, S24) else none)
  else ((rdFi 5 23 S1 p0).bind fun x6 =>
  if wI x6 = wI 150 then (if isO 5 S1 p0 = true then
  bd2 (f_X6_full fu S1 p0) fun x22 S20 =>
  some (x22, S20) else none)
  else ((rdFp 5 22 S1 p0).bind fun q9 =>
  (rdFi 5 23 S1 p0).bind fun x11 =>
  (wrA 0 S1 q9 x11 i0).bind fun S13 =>
  (rdFi 5 23 S13 p0).bind fun x15 =>
  (wrF 5 23 S13 p0 (.inl (x15 + 1))).bind fun S17 =>
  (rdFi 5 23 S17 p0).bind fun x19 =>
  some (x19, S17)))
noncomputable def f_X6_clear (fu : Nat) (S : xS) (p0 : Nat) : Option (Int × xS) :=
  (rdFi 5 23 S p0).bind fun x2 =>
  (wrF 5 23 S p0 (.inl 0)).bind fun S4 =>
  some (x2, S4)
noncomputable def f_X6_isSmall (fu : Nat) (S : xS) (i0 : Int) : Option (Int × xS) :=
  bd2 (f_X6_in fu S (wI i0) 97 122) fun x3 S1 =>
  if x3 = 0 ∨ x3 = 1 then some (x3, S1) else none
noncomputable def f_X6_isFigure (fu : Nat) (S : xS) (i0 : Int) : Option (Int × xS) :=
  bd2 (f_X6_in fu S (wI i0) 48 57) fun x3 S1 =>
  if x3 = 0 ∨ x3 = 1 then some (x3, S1) else none
noncomputable def b_X6_lookAt_0 (rc : Nat → xS → Nat → Nat → Int → Int → Int → Option (Int × xS)) (fu : Nat) (S : xS) (p0 p1 : Nat) (i0 i1 i2 : Int) : Option (Int × xS) :=
  (wrF 5 24 S p0 (.inl i0)).bind fun S2 =>
  rc 1 S2 p0 0 0 0 0
noncomputable def b_X6_lookAt_1 (rc : Nat → xS → Nat → Nat → Int → Int → Int → Option (Int × xS)) (fu : Nat) (S : xS) (p0 p1 : Nat) (i0 i1 i2 : Int) : Option (Int × xS) :=
  (rdFi 5 24 S p0).bind fun x4 =>
  (rdFi 5 23 S p0).bind fun x6 =>
  if wI x6 ≤ wI x4 then (rc 2 S p0 0 0 0 0)
  else ((rdFp 5 22 S p0).bind fun q9 =>
  (rdFi 5 24 S p0).bind fun x11 =>
  (rdA 0 S q9 x11).bind fun x12 =>
  if wI x12 = wI 32 then ((rdFi 5 24 S p0).bind fun x16 =>
  (wrF 5 24 S p0 (.inl (x16 + 1))).bind fun S18 =>
  rc 1 S18 p0 0 0 0 0)
  else (rc 2 S p0 0 0 0 0))
noncomputable def b_X6_lookAt_2 (rc : Nat → xS → Nat → Nat → Int → Int → Int → Option (Int × xS)) (fu : Nat) (S : xS) (p0 p1 : Nat) (i0 i1 i2 : Int) : Option (Int × xS) :=
  (wrF 5 25 S p0 (.inl 0)).bind fun S20 =>
  (wrF 5 26 S20 p0 (.inl 0)).bind fun S22 =>
  (wrF 5 27 S22 p0 (.inl 0)).bind fun S24 =>
  (rdFi 5 24 S24 p0).bind fun x26 =>
  (rdFi 5 23 S24 p0).bind fun x28 =>
  if wI x26 = wI x28 then (some ((0 : Int), S24))
  else ((rdFp 5 22 S24 p0).bind fun q31 =>
  (rdFi 5 24 S24 p0).bind fun x33 =>
  (rdA 0 S24 q31 x33).bind fun x34 =>
  bd2 (f_X6_isSmall fu S24 x34) fun x38 S36 =>
  if wI x38 = 0 then (bd2 (f_X6_isFigure fu S36 x34) fun x42 S40 =>
  if wI x42 = 0 then (if wI x34 = wI 59 then (rc 3 S40 p0 p0 3 0 0)
  else (rc 3 S40 p0 p0 4 0 0))
  else (rc 3 S40 p0 p0 2 0 0))
  else (rc 3 S36 p0 p0 1 0 0))
noncomputable def b_X6_lookAt_3 (rc : Nat → xS → Nat → Nat → Int → Int → Int → Option (Int × xS)) (fu : Nat) (S : xS) (p0 p1 : Nat) (i0 i1 i2 : Int) : Option (Int × xS) :=
  (wrF 5 26 S p1 (.inl i0)).bind fun S46 =>
  (wrF 5 25 S46 p0 (.inl 1)).bind fun S48 =>
  (rdFi 5 26 S48 p0).bind fun x50 =>
  if wI 3 ≤ wI x50 then (rc 4 S48 p0 0 0 0 0)
  else (rc 4 S48 p0 0 1 0 0)
noncomputable def b_X6_lookAt_4 (rc : Nat → xS → Nat → Nat → Int → Int → Int → Option (Int × xS)) (fu : Nat) (S : xS) (p0 p1 : Nat) (i0 i1 i2 : Int) : Option (Int × xS) :=
  rc 5 S p0 0 i0 0 0
noncomputable def b_X6_lookAt_5 (rc : Nat → xS → Nat → Nat → Int → Int → Int → Option (Int × xS)) (fu : Nat) (S : xS) (p0 p1 : Nat) (i0 i1 i2 : Int) : Option (Int × xS) :=
  if wI i0 = 0 then (rc 8 S p0 0 0 0 0)
  else ((rdFi 5 24 S p0).bind fun x54 =>
  (rdFi 5 25 S p0).bind fun x56 =>
  (rdFi 5 23 S p0).bind fun x58 =>
  if wI x58 ≤ wI (x54 + x56) then (rc 8 S p0 0 0 0 0)
  else ((rdFp 5 22 S p0).bind fun q61 =>
  (rdFi 5 24 S p0).bind fun x63 =>
  (rdFi 5 25 S p0).bind fun x65 =>
  (rdA 0 S q61 (x63 + x65)).bind fun x66 =>
  (rdFi 5 26 S p0).bind fun x69 =>
  if wI x69 = wI 1 then (bd2 (f_X6_isSmall fu S x66) fun x76 S74 =>
  rc 6 S74 p0 0 x76 0 0)
  else (bd2 (f_X6_isFigure fu S x66) fun x73 S71 =>
  rc 6 S71 p0 0 x73 0 0)))
noncomputable def b_X6_lookAt_6 (rc : Nat → xS → Nat → Nat → Int → Int → Int → Option (Int × xS)) (fu : Nat) (S : xS) (p0 p1 : Nat) (i0 i1 i2 : Int) : Option (Int × xS) :=
  (rdFi 5 25 S p0).bind fun x78 =>
  if wI i0 = 0 then (rc 7 S p0 p0 i0 x78 0)
  else (rc 7 S p0 p0 i0 x78 1)
noncomputable def b_X6_lookAt_7 (rc : Nat → xS → Nat → Nat → Int → Int → Int → Option (Int × xS)) (fu : Nat) (S : xS) (p0 p1 : Nat) (i0 i1 i2 : Int) : Option (Int × xS) :=
  (wrF 5 25 S p1 (.inl (i1 + i2))).bind fun S81 =>
  rc 5 S81 p0 0 i0 0 0
noncomputable def b_X6_lookAt_8 (rc : Nat → xS → Nat → Nat → Int → Int → Int → Option (Int × xS)) (fu : Nat) (S : xS) (p0 p1 : Nat) (i0 i1 i2 : Int) : Option (Int × xS) :=
  rc 9 S p0 0 0 0 0
noncomputable def b_X6_lookAt_9 (rc : Nat → xS → Nat → Nat → Int → Int → Int → Option (Int × xS)) (fu : Nat) (S : xS) (p0 p1 : Nat) (i0 i1 i2 : Int) : Option (Int × xS) :=
  (rdFi 5 25 S p0).bind fun x83 =>
  if wI x83 ≤ wI i0 then (rc 10 S p0 0 0 0 0)
  else (if wI 4 ≤ wI i0 then (rc 10 S p0 0 0 0 0)
  else ((rdFi 5 26 S p0).bind fun x87 =>
  if wI x87 = wI 2 then ((rdFi 5 27 S p0).bind fun x90 =>
  (rdFp 5 22 S p0).bind fun q92 =>
  (rdFi 5 24 S p0).bind fun x94 =>
  (rdA 0 S q92 (x94 + i0)).bind fun x95 =>
  (wrF 5 27 S p0 (.inl (((10 * x90) + x95) - 48))).bind fun S98 =>
  nmx (i0 + 1) fun x99 =>
  rc 9 S98 p0 0 x99 0 0)
  else (rc 10 S p0 0 0 0 0)))
noncomputable def b_X6_lookAt_10 (rc : Nat → xS → Nat → Nat → Int → Int → Int → Option (Int × xS)) (fu : Nat) (S : xS) (p0 p1 : Nat) (i0 i1 i2 : Int) : Option (Int × xS) :=
  (rdFi 5 26 S p0).bind fun x102 =>
  if wI x102 = wI 2 then ((rdFi 5 25 S p0).bind fun x105 =>
  if wI x105 ≤ wI 4 then (rc 11 S p0 p0 0 0 0)
  else ((wrF 5 26 S p0 (.inl 4)).bind fun S108 =>
  some ((0 : Int), S108)))
  else (rc 11 S p0 p0 0 0 0)
noncomputable def b_X6_lookAt_11 (rc : Nat → xS → Nat → Nat → Int → Int → Int → Option (Int × xS)) (fu : Nat) (S : xS) (p0 p1 : Nat) (i0 i1 i2 : Int) : Option (Int × xS) :=
  (rdFi 5 26 S p0).bind fun x110 =>
  (wrF 5 26 S p1 (.inl x110)).bind fun S112 =>
  some ((0 : Int), S112)
noncomputable def s_X6_lookAt (rc : Nat → xS → Nat → Nat → Int → Int → Int → Option (Int × xS)) (fu lb : Nat) (S : xS) (p0 p1 : Nat) (i0 i1 i2 : Int) : Option (Int × xS) := match lb with
    | 0 => b_X6_lookAt_0 rc fu S p0 p1 i0 i1 i2
    | 1 => b_X6_lookAt_1 rc fu S p0 p1 i0 i1 i2
    | 2 => b_X6_lookAt_2 rc fu S p0 p1 i0 i1 i2
    | 3 => b_X6_lookAt_3 rc fu S p0 p1 i0 i1 i2
    | 4 => b_X6_lookAt_4 rc fu S p0 p1 i0 i1 i2
    | 5 => b_X6_lookAt_5 rc fu S p0 p1 i0 i1 i2
    | 6 => b_X6_lookAt_6 rc fu S p0 p1 i0 i1 i2
    | 7 => b_X6_lookAt_7 rc fu S p0 p1 i0 i1 i2
    | 8 => b_X6_lookAt_8 rc fu S p0 p1 i0 i1 i2
    | 9 => b_X6_lookAt_9 rc fu S p0 p1 i0 i1 i2
    | 10 => b_X6_lookAt_10 rc fu S p0 p1 i0 i1 i2
    | _ => b_X6_lookAt_11 rc fu S p0 p1 i0 i1 i2
noncomputable def g_X6_lookAt (k : Nat) : Nat → xS → Nat → Nat → Int → Int → Int → Option (Int × xS) := Nat.rec (motive := fun _ => Nat → xS → Nat → Nat → Int → Int → Int → Option (Int × xS)) (fun _ _ _ _ _ _ _ => none) (fun fu rc => s_X6_lookAt rc fu) k
noncomputable def f_X6_lookAt (fu : Nat) (S : xS) (p0 : Nat) (i0 : Int) : Option (Int × xS) := g_X6_lookAt fu 0 S p0 0 i0 0 0
noncomputable def f_X6_goOn (fu : Nat) (S : xS) (p0 : Nat) : Option (Int × xS) :=
  (rdFi 5 24 S p0).bind fun x2 =>
  (rdFi 5 25 S p0).bind fun x4 =>
  if isO 5 S p0 = true then
  bd2 (f_X6_lookAt fu S p0 (x2 + x4)) fun z7 S5 =>
  some ((0 : Int), S5) else none
noncomputable def b_X6_isWord_0 (rc : Nat → xS → Nat → Int → Int → Int → Int → Int → Int → Int → Int → Int → Int → Option (Int × xS)) (fu : Nat) (S : xS) (p0 : Nat) (i0 i1 i2 i3 i4 i5 i6 i7 i8 i9 : Int) : Option (Int × xS) :=
  if wI i4 = 0 then (rc 1 S p0 i0 i1 i2 i3 i4 i5 4 0 0 0)
  else (if wI i5 = 0 then (rc 1 S p0 i0 i1 i2 i3 i4 i5 5 0 0 0)
  else (rc 1 S p0 i0 i1 i2 i3 i4 i5 6 0 0 0))
noncomputable def b_X6_isWord_1 (rc : Nat → xS → Nat → Int → Int → Int → Int → Int → Int → Int → Int → Int → Int → Option (Int × xS)) (fu : Nat) (S : xS) (p0 : Nat) (i0 i1 i2 i3 i4 i5 i6 i7 i8 i9 : Int) : Option (Int × xS) :=
  (rdFi 5 26 S p0).bind fun x4 =>
  if wI x4 = wI 1 then ((rdFi 5 25 S p0).bind fun x7 =>
  if wI x7 = wI i6 then (rc 3 S p0 i0 i1 i2 i3 i4 i5 i6 1 0 0)
  else (rc 2 S p0 i0 i1 i2 i3 i4 i5 i6 0 0 0))
  else (rc 2 S p0 i0 i1 i2 i3 i4 i5 i6 0 0 0)
noncomputable def b_X6_isWord_2 (rc : Nat → xS → Nat → Int → Int → Int → Int → Int → Int → Int → Int → Int → Int → Option (Int × xS)) (fu : Nat) (S : xS) (p0 : Nat) (i0 i1 i2 i3 i4 i5 i6 i7 i8 i9 : Int) : Option (Int × xS) :=
  rc 3 S p0 i0 i1 i2 i3 i4 i5 i6 0 0 0
noncomputable def b_X6_isWord_3 (rc : Nat → xS → Nat → Int → Int → Int → Int → Int → Int → Int → Int → Int → Int → Option (Int × xS)) (fu : Nat) (S : xS) (p0 : Nat) (i0 i1 i2 i3 i4 i5 i6 i7 i8 i9 : Int) : Option (Int × xS) :=
  rc 4 S p0 i0 i1 i2 i3 i4 i5 i6 i7 0 0
noncomputable def b_X6_isWord_4 (rc : Nat → xS → Nat → Int → Int → Int → Int → Int → Int → Int → Int → Int → Int → Option (Int × xS)) (fu : Nat) (S : xS) (p0 : Nat) (i0 i1 i2 i3 i4 i5 i6 i7 i8 i9 : Int) : Option (Int × xS) :=
  if wI i6 ≤ wI i8 then (if i7 = 0 ∨ i7 = 1 then some (i7, S) else none)
  else (if wI i7 = 0 then (if i7 = 0 ∨ i7 = 1 then some (i7, S) else none)
  else ((rdFp 5 22 S p0).bind fun q14 =>
  (rdFi 5 24 S p0).bind fun x16 =>
  (rdA 0 S q14 (x16 + i8)).bind fun x17 =>
  if wI i8 = 0 then (rc 5 S p0 i0 i1 i2 i3 i4 i5 i6 i8 x17 i0)
  else (if wI i8 = wI 1 then (rc 5 S p0 i0 i1 i2 i3 i4 i5 i6 i8 x17 i1)
  else (if wI i8 = wI 2 then (rc 5 S p0 i0 i1 i2 i3 i4 i5 i6 i8 x17 i2)
  else (if wI i8 = wI 3 then (rc 5 S p0 i0 i1 i2 i3 i4 i5 i6 i8 x17 i3)
  else (if wI i8 = wI 4 then (rc 5 S p0 i0 i1 i2 i3 i4 i5 i6 i8 x17 i4)
  else (rc 5 S p0 i0 i1 i2 i3 i4 i5 i6 i8 x17 i5)))))))
noncomputable def b_X6_isWord_5 (rc : Nat → xS → Nat → Int → Int → Int → Int → Int → Int → Int → Int → Int → Int → Option (Int × xS)) (fu : Nat) (S : xS) (p0 : Nat) (i0 i1 i2 i3 i4 i5 i6 i7 i8 i9 : Int) : Option (Int × xS) :=
  if wI i8 = wI i9 then (rc 6 S p0 i0 i1 i2 i3 i4 i5 i6 i7 1 0)
  else (rc 6 S p0 i0 i1 i2 i3 i4 i5 i6 i7 0 0)
noncomputable def b_X6_isWord_6 (rc : Nat → xS → Nat → Int → Int → Int → Int → Int → Int → Int → Int → Int → Int → Option (Int × xS)) (fu : Nat) (S : xS) (p0 : Nat) (i0 i1 i2 i3 i4 i5 i6 i7 i8 i9 : Int) : Option (Int × xS) :=
  nmx (i7 + 1) fun x25 =>
  rc 4 S p0 i0 i1 i2 i3 i4 i5 i6 i8 x25 0
noncomputable def s_X6_isWord (rc : Nat → xS → Nat → Int → Int → Int → Int → Int → Int → Int → Int → Int → Int → Option (Int × xS)) (fu lb : Nat) (S : xS) (p0 : Nat) (i0 i1 i2 i3 i4 i5 i6 i7 i8 i9 : Int) : Option (Int × xS) := match lb with
    | 0 => b_X6_isWord_0 rc fu S p0 i0 i1 i2 i3 i4 i5 i6 i7 i8 i9
    | 1 => b_X6_isWord_1 rc fu S p0 i0 i1 i2 i3 i4 i5 i6 i7 i8 i9
    | 2 => b_X6_isWord_2 rc fu S p0 i0 i1 i2 i3 i4 i5 i6 i7 i8 i9
    | 3 => b_X6_isWord_3 rc fu S p0 i0 i1 i2 i3 i4 i5 i6 i7 i8 i9
    | 4 => b_X6_isWord_4 rc fu S p0 i0 i1 i2 i3 i4 i5 i6 i7 i8 i9
    | 5 => b_X6_isWord_5 rc fu S p0 i0 i1 i2 i3 i4 i5 i6 i7 i8 i9
    | _ => b_X6_isWord_6 rc fu S p0 i0 i1 i2 i3 i4 i5 i6 i7 i8 i9
noncomputable def g_X6_isWord (k : Nat) : Nat → xS → Nat → Int → Int → Int → Int → Int → Int → Int → Int → Int → Int → Option (Int × xS) := Nat.rec (motive := fun _ => Nat → xS → Nat → Int → Int → Int → Int → Int → Int → Int → Int → Int → Int → Option (Int × xS)) (fun _ _ _ _ _ _ _ _ _ _ _ _ _ => none) (fun fu rc => s_X6_isWord rc fu) k
noncomputable def f_X6_isWord (fu : Nat) (S : xS) (p0 : Nat) (i0 : Int) (i1 : Int) (i2 : Int) (i3 : Int) (i4 : Int) (i5 : Int) : Option (Int × xS) := g_X6_isWord fu 0 S p0 i0 i1 i2 i3 i4 i5 0 0 0 0
noncomputable def f_X6_takes (fu : Nat) (S : xS) (p0 : Nat) (i0 : Int) (i1 : Int) (i2 : Int) : Option (Int × xS) :=
  (rdFi 5 26 S p0).bind fun x2 =>
  if wI x2 = wI 2 then ((rdFi 5 27 S p0).bind fun x5 =>
  bd2 (f_X6_in fu S (wI x5) (wI i1) (wI i2)) fun x8 S6 =>
  if wI x8 = 0 then (some (0, S6))
  else ((rdFp 5 29 S6 p0).bind fun q11 =>
  (rdFi 5 27 S6 p0).bind fun x13 =>
  (wrA 0 S6 q11 i0 x13).bind fun S15 =>
  if isO 5 S15 p0 = true then
  bd2 (f_X6_goOn fu S15 p0) fun z18 S16 =>
  some (1, S16) else none))
  else (some (0, S))
noncomputable def f_X6_last (fu : Nat) (S : xS) (p0 : Nat) : Option (Int × xS) :=
  (rdFp 5 28 S p0).bind fun q2 =>
  (rdA 0 S q2 0).bind fun x3 =>
  some (x3 - 1, S)
noncomputable def b_X6_readsFirst_0 (rc : Nat → xS → Nat → Nat → Int → Int → Option (Int × xS)) (fu : Nat) (S : xS) (p0 p1 : Nat) (i0 i1 : Int) : Option (Int × xS) :=
  if isO 5 S p0 = true then
  bd2 (f_X6_isWord fu S p0 98 111 120 101 115 0) fun x3 S1 =>
  if wI x3 = 0 then (some (0, S1))
  else (if isO 5 S1 p0 = true then
  bd2 (f_X6_goOn fu S1 p0) fun z8 S6 =>
  if isO 5 S6 p0 = true then
  bd2 (f_X6_takes fu S6 p0 0 2 7) fun x12 S10 =>
  (rdFp 5 28 S10 p0).bind fun q15 =>
  if wI x12 = 0 then (rc 1 S10 p0 q15 x12 2)
  else ((rdFp 5 29 S10 p0).bind fun q18 =>
  (rdA 0 S10 q18 0).bind fun x19 =>
  rc 1 S10 p0 q15 x12 x19) else none else none) else none
noncomputable def b_X6_readsFirst_1 (rc : Nat → xS → Nat → Nat → Int → Int → Option (Int × xS)) (fu : Nat) (S : xS) (p0 p1 : Nat) (i0 i1 : Int) : Option (Int × xS) :=
  bd2 (f_X6_begin fu S p1 i1) fun z23 S21 =>
  if wI i0 = 0 then (rc 2 S21 0 0 0 0)
  else ((rdFi 5 26 S21 p0).bind fun x26 =>
  if wI x26 = wI 3 then (some (1, S21))
  else (rc 2 S21 0 0 0 0))
noncomputable def b_X6_readsFirst_2 (rc : Nat → xS → Nat → Nat → Int → Int → Option (Int × xS)) (fu : Nat) (S : xS) (p0 p1 : Nat) (i0 i1 : Int) : Option (Int × xS) :=
  some (0, S)
noncomputable def s_X6_readsFirst (rc : Nat → xS → Nat → Nat → Int → Int → Option (Int × xS)) (fu lb : Nat) (S : xS) (p0 p1 : Nat) (i0 i1 : Int) : Option (Int × xS) := match lb with
    | 0 => b_X6_readsFirst_0 rc fu S p0 p1 i0 i1
    | 1 => b_X6_readsFirst_1 rc fu S p0 p1 i0 i1
    | _ => b_X6_readsFirst_2 rc fu S p0 p1 i0 i1
noncomputable def g_X6_readsFirst (k : Nat) : Nat → xS → Nat → Nat → Int → Int → Option (Int × xS) := Nat.rec (motive := fun _ => Nat → xS → Nat → Nat → Int → Int → Option (Int × xS)) (fun _ _ _ _ _ _ => none) (fun fu rc => s_X6_readsFirst rc fu) k
noncomputable def f_X6_readsFirst (fu : Nat) (S : xS) (p0 : Nat) : Option (Int × xS) := g_X6_readsFirst fu 0 S p0 0 0 0
noncomputable def b_X6_readsSwap_0 (rc : Nat → xS → Nat → Option (Int × xS)) (fu : Nat) (S : xS) (p0 : Nat) : Option (Int × xS) :=
  if isO 5 S p0 = true then
  bd2 (f_X6_goOn fu S p0) fun z3 S1 =>
  if isO 5 S1 p0 = true then
  bd2 (f_X6_last fu S1 p0) fun x7 S5 =>
  if isO 5 S5 p0 = true then
  bd2 (f_X6_takes fu S5 p0 0 0 x7) fun x11 S9 =>
  if wI x11 = 0 then (some (0, S9))
  else ((rdFi 5 26 S9 p0).bind fun x15 =>
  if wI x15 = wI 2 then ((rdFi 5 27 S9 p0).bind fun x18 =>
  (rdFp 5 29 S9 p0).bind fun q20 =>
  (rdA 0 S9 q20 0).bind fun x21 =>
  if wI x18 = wI x21 then (some (0, S9))
  else (rc 1 S9 p0))
  else (rc 1 S9 p0)) else none else none else none
noncomputable def b_X6_readsSwap_1 (rc : Nat → xS → Nat → Option (Int × xS)) (fu : Nat) (S : xS) (p0 : Nat) : Option (Int × xS) :=
  if isO 5 S p0 = true then
  bd2 (f_X6_last fu S p0) fun x26 S24 =>
  if isO 5 S24 p0 = true then
  bd2 (f_X6_takes fu S24 p0 1 0 x26) fun x30 S28 =>
  if wI x30 = 0 then (some (0, S28))
  else ((rdFp 5 28 S28 p0).bind fun q34 =>
  (rdFp 5 29 S28 p0).bind fun q36 =>
  (rdA 0 S28 q36 0).bind fun x37 =>
  (rdA 0 S28 q34 (3 + x37)).bind fun x39 =>
  (rdFp 5 28 S28 p0).bind fun q42 =>
  (rdFp 5 29 S28 p0).bind fun q44 =>
  (rdA 0 S28 q44 0).bind fun x45 =>
  (rdFp 5 28 S28 p0).bind fun q48 =>
  (rdFp 5 29 S28 p0).bind fun q50 =>
  (rdA 0 S28 q50 1).bind fun x51 =>
  (rdA 0 S28 q48 (3 + x51)).bind fun x53 =>
  (wrA 0 S28 q42 (3 + x45) x53).bind fun S56 =>
  (rdFp 5 28 S56 p0).bind fun q58 =>
  (rdFp 5 29 S56 p0).bind fun q60 =>
  (rdA 0 S56 q60 1).bind fun x61 =>
  (wrA 0 S56 q58 (3 + x61) x39).bind fun S64 =>
  some (1, S64)) else none else none
noncomputable def s_X6_readsSwap (rc : Nat → xS → Nat → Option (Int × xS)) (fu lb : Nat) (S : xS) (p0 : Nat) : Option (Int × xS) := match lb with
    | 0 => b_X6_readsSwap_0 rc fu S p0
    | _ => b_X6_readsSwap_1 rc fu S p0
noncomputable def g_X6_readsSwap (k : Nat) : Nat → xS → Nat → Option (Int × xS) := Nat.rec (motive := fun _ => Nat → xS → Nat → Option (Int × xS)) (fun _ _ _ => none) (fun fu rc => s_X6_readsSwap rc fu) k
noncomputable def f_X6_readsSwap (fu : Nat) (S : xS) (p0 : Nat) : Option (Int × xS) := g_X6_readsSwap fu 0 S p0
noncomputable def b_X6_readsReport_0 (rc : Nat → xS → Nat → Int → Option (Int × xS)) (fu : Nat) (S : xS) (p0 : Nat) (i0 : Int) : Option (Int × xS) :=
  (rdFp 5 28 S p0).bind fun q2 =>
  (rdA 0 S q2 24).bind fun x3 =>
  if wI x3 = wI 8 then (some (0, S))
  else (if isO 5 S p0 = true then
  bd2 (f_X6_goOn fu S p0) fun z8 S6 =>
  (rdFp 5 29 S6 p0).bind fun q11 =>
  (wrA 0 S6 q11 1 0).bind fun S13 =>
  if isO 5 S13 p0 = true then
  bd2 (f_X6_last fu S13 p0) fun x16 S14 =>
  if isO 5 S14 p0 = true then
  bd2 (f_X6_takes fu S14 p0 0 0 x16) fun x20 S18 =>
  if wI x20 = 0 then (some (0, S18))
  else (if wI i0 = 0 then (rc 1 S18 p0 0)
  else ((rdFp 5 28 S18 p0).bind fun q25 =>
  (rdA 0 S18 q25 0).bind fun x26 =>
  if isO 5 S18 p0 = true then
  bd2 (f_X6_takes fu S18 p0 1 1 x26) fun x30 S28 =>
  if wI x30 = 0 then (some (0, S28))
  else (rc 1 S28 p0 0) else none)) else none else none else none)
noncomputable def b_X6_readsReport_1 (rc : Nat → xS → Nat → Int → Option (Int × xS)) (fu : Nat) (S : xS) (p0 : Nat) (i0 : Int) : Option (Int × xS) :=
  (rdFp 5 28 S p0).bind fun q34 =>
  (rdFp 5 29 S p0).bind fun q36 =>
  (rdA 0 S q36 0).bind fun x37 =>
  (rdFp 5 29 S p0).bind fun q40 =>
  (rdA 0 S q40 1).bind fun x41 =>
  bd2 (f_X6_layReport fu S q34 x37 x41) fun z45 S43 =>
  some (1, S43)
noncomputable def s_X6_readsReport (rc : Nat → xS → Nat → Int → Option (Int × xS)) (fu lb : Nat) (S : xS) (p0 : Nat) (i0 : Int) : Option (Int × xS) := match lb with
    | 0 => b_X6_readsReport_0 rc fu S p0 i0
    | _ => b_X6_readsReport_1 rc fu S p0 i0
noncomputable def g_X6_readsReport (k : Nat) : Nat → xS → Nat → Int → Option (Int × xS) := Nat.rec (motive := fun _ => Nat → xS → Nat → Int → Option (Int × xS)) (fun _ _ _ _ => none) (fun fu rc => s_X6_readsReport rc fu) k
noncomputable def f_X6_readsReport (fu : Nat) (S : xS) (p0 : Nat) (i0 : Int) : Option (Int × xS) := g_X6_readsReport fu 0 S p0 i0
noncomputable def f_X6_readsKnown (fu : Nat) (S : xS) (p0 : Nat) : Option (Int × xS) :=
  if isO 5 S p0 = true then
  bd2 (f_X6_goOn fu S p0) fun z3 S1 =>
  (rdFi 5 26 S1 p0).bind fun x6 =>
  if wI x6 = wI 2 then ((rdFi 5 27 S1 p0).bind fun x9 =>
  if isO 5 S1 p0 = true then
  bd2 (f_X6_last fu S1 p0) fun x12 S10 =>
  bd2 (f_X6_in fu S10 (wI x9) 0 (wI x12)) fun x16 S14 =>
  if wI x16 = 0 then (some (0, S14))
  else ((rdFp 5 28 S14 p0).bind fun q19 =>
  (rdFi 5 27 S14 p0).bind fun x21 =>
  (rdA 0 S14 q19 (17 + x21)).bind fun x22 =>
  if wI x22 = wI ((-1)) then ((rdFi 5 27 S14 p0).bind fun x26 =>
  if isO 5 S14 p0 = true then
  bd2 (f_X6_goOn fu S14 p0) fun z29 S27 =>
  (rdFi 5 26 S27 p0).bind fun x32 =>
  if wI x32 = wI 2 then ((rdFi 5 27 S27 p0).bind fun x35 =>
  if isO 5 S27 p0 = true then
  bd2 (f_X6_last fu S27 p0) fun x38 S36 =>
  bd2 (f_X6_in fu S36 (wI x35) 0 (wI x38)) fun x42 S40 =>
  if wI x42 = 0 then (some (0, S40))
  else ((rdFp 5 28 S40 p0).bind fun q45 =>
  (rdFi 5 27 S40 p0).bind fun x47 =>
  bd2 (f_X6_isKnown fu S40 q45 x47) fun x50 S48 =>
  if wI x50 = 0 then ((rdFp 5 28 S48 p0).bind fun q53 =>
  (rdFi 5 27 S48 p0).bind fun x55 =>
  (wrA 0 S48 q53 (17 + x26) x55).bind fun S57 =>
  if isO 5 S57 p0 = true then
  bd2 (f_X6_goOn fu S57 p0) fun z60 S58 =>
  some (1, S58) else none)
  else (some (0, S48))) else none)
  else (some (0, S27)) else none)
  else (some (0, S14))) else none)
  else (some (0, S1)) else none
noncomputable def b_X6_readsMove_0 (rc : Nat → xS → Nat → Nat → Int → Int → Int → Option (Int × xS)) (fu : Nat) (S : xS) (p0 p1 : Nat) (i0 i1 i2 : Int) : Option (Int × xS) :=
  (rdFp 5 28 S p0).bind fun q2 =>
  (rdA 0 S q2 41).bind fun x3 =>
  if wI x3 = wI 4 then (some (0, S))
  else (if isO 5 S p0 = true then
  bd2 (f_X6_goOn fu S p0) fun z8 S6 =>
  (rdFp 5 28 S6 p0).bind fun q11 =>
  (rdA 0 S6 q11 0).bind fun x12 =>
  bd2 (f_X6_factorial fu S6 x12) fun x16 S14 =>
  if isO 5 S14 p0 = true then
  bd2 (f_X6_takes fu S14 p0 0 0 (x16 - 1)) fun x19 S17 =>
  (rdFp 5 28 S17 p0).bind fun q22 =>
  if wI x19 = 0 then (rc 1 S17 p0 q22 x19 (42 + x3) 0)
  else ((rdFp 5 29 S17 p0).bind fun q25 =>
  (rdA 0 S17 q25 0).bind fun x26 =>
  rc 1 S17 p0 q22 x19 (42 + x3) x26) else none else none)
noncomputable def b_X6_readsMove_1 (rc : Nat → xS → Nat → Nat → Int → Int → Int → Option (Int × xS)) (fu : Nat) (S : xS) (p0 p1 : Nat) (i0 i1 i2 : Int) : Option (Int × xS) :=
  (wrA 0 S p1 i1 i2).bind fun S29 =>
  (rdFp 5 28 S29 p0).bind fun q31 =>
  (rdA 0 S29 q31 41).bind fun x32 =>
  (wrA 0 S29 q31 41 (x32 + 1)).bind fun S35 =>
  if i0 = 0 ∨ i0 = 1 then some (i0, S35) else none
noncomputable def s_X6_readsMove (rc : Nat → xS → Nat → Nat → Int → Int → Int → Option (Int × xS)) (fu lb : Nat) (S : xS) (p0 p1 : Nat) (i0 i1 i2 : Int) : Option (Int × xS) := match lb with
    | 0 => b_X6_readsMove_0 rc fu S p0 p1 i0 i1 i2
    | _ => b_X6_readsMove_1 rc fu S p0 p1 i0 i1 i2
noncomputable def g_X6_readsMove (k : Nat) : Nat → xS → Nat → Nat → Int → Int → Int → Option (Int × xS) := Nat.rec (motive := fun _ => Nat → xS → Nat → Nat → Int → Int → Int → Option (Int × xS)) (fun _ _ _ _ _ _ _ => none) (fun fu rc => s_X6_readsMove rc fu) k
noncomputable def f_X6_readsMove (fu : Nat) (S : xS) (p0 : Nat) : Option (Int × xS) := g_X6_readsMove fu 0 S p0 0 0 0 0
noncomputable def b_X6_readsItem_0 (rc : Nat → xS → Nat → Int → Option (Int × xS)) (fu : Nat) (S : xS) (p0 : Nat) (i0 : Int) : Option (Int × xS) :=
  if isO 5 S p0 = true then
  bd2 (f_X6_isWord fu S p0 108 101 97 118 101 0) fun x3 S1 =>
  if wI x3 = 0 then (if isO 5 S1 p0 = true then
  bd2 (f_X6_isWord fu S1 p0 116 117 114 110 0 0) fun x8 S6 =>
  if wI x8 = 0 then (if isO 5 S6 p0 = true then
  bd2 (f_X6_isWord fu S6 p0 114 117 108 101 0 0) fun x13 S11 =>
  if wI x13 = 0 then (if isO 5 S11 p0 = true then
  bd2 (f_X6_isWord fu S11 p0 115 119 97 112 0 0) fun x18 S16 =>
  if wI x18 = 0 then (if isO 5 S16 p0 = true then
  bd2 (f_X6_isWord fu S16 p0 107 110 111 119 110 0) fun x23 S21 =>
  if wI x23 = 0 then (if isO 5 S21 p0 = true then
  bd2 (f_X6_isWord fu S21 p0 109 111 118 101 0 0) fun x28 S26 =>
  if wI x28 = 0 then (if isO 5 S26 p0 = true then
  bd2 (f_X6_isWord fu S26 p0 102 111 117 110 100 0) fun x33 S31 =>
  if wI x33 = 0 then (if isO 5 S31 p0 = true then
  bd2 (f_X6_isWord fu S31 p0 109 105 115 115 101 100) fun x38 S36 =>
  if wI x38 = 0 then (rc 4 S36 0 0)
  else (rc 3 S36 p0 x33) else none)
  else (rc 3 S31 p0 x33) else none)
  else (if isO 5 S26 p0 = true then
  bd2 (f_X6_readsMove fu S26 p0) fun x43 S41 =>
  if x43 = 0 ∨ x43 = 1 then some (x43, S41) else none else none) else none)
  else (if isO 5 S21 p0 = true then
  bd2 (f_X6_readsKnown fu S21 p0) fun x48 S46 =>
  if x48 = 0 ∨ x48 = 1 then some (x48, S46) else none else none) else none)
  else (if isO 5 S16 p0 = true then
  bd2 (f_X6_readsSwap fu S16 p0) fun x53 S51 =>
  if x53 = 0 ∨ x53 = 1 then some (x53, S51) else none else none) else none)
  else (if isO 5 S11 p0 = true then
  bd2 (f_X6_goOn fu S11 p0) fun z58 S56 =>
  if isO 5 S56 p0 = true then
  bd2 (f_X6_last fu S56 p0) fun x62 S60 =>
  if isO 5 S60 p0 = true then
  bd2 (f_X6_takes fu S60 p0 0 0 x62) fun x66 S64 =>
  if wI x66 = 0 then (rc 1 S64 p0 0)
  else (if isO 5 S64 p0 = true then
  bd2 (f_X6_takes fu S64 p0 1 0 5) fun x71 S69 =>
  if wI x71 = 0 then (rc 1 S69 p0 0)
  else (rc 2 S69 p0 1) else none) else none else none else none) else none)
  else (if isO 5 S6 p0 = true then
  bd2 (f_X6_goOn fu S6 p0) fun z76 S74 =>
  if isO 5 S74 p0 = true then
  bd2 (f_X6_takes fu S74 p0 0 0 6) fun x80 S78 =>
  (rdFp 5 28 S78 p0).bind fun q83 =>
  if wI x80 = 0 then ((wrA 0 S78 q83 2 0).bind fun S86 =>
  if x80 = 0 ∨ x80 = 1 then some (x80, S86) else none)
  else ((rdFp 5 29 S78 p0).bind fun q89 =>
  (rdA 0 S78 q89 0).bind fun x90 =>
  (wrA 0 S78 q83 2 x90).bind fun S93 =>
  if x80 = 0 ∨ x80 = 1 then some (x80, S93) else none) else none else none) else none)
  else (if isO 5 S1 p0 = true then
  bd2 (f_X6_goOn fu S1 p0) fun z97 S95 =>
  (rdFp 5 28 S95 p0).bind fun q100 =>
  (rdA 0 S95 q100 0).bind fun x101 =>
  if isO 5 S95 p0 = true then
  bd2 (f_X6_takes fu S95 p0 0 1 x101) fun x105 S103 =>
  (rdFp 5 28 S103 p0).bind fun q108 =>
  if wI x105 = 0 then ((wrA 0 S103 q108 1 1).bind fun S111 =>
  if x105 = 0 ∨ x105 = 1 then some (x105, S111) else none)
  else ((rdFp 5 29 S103 p0).bind fun q114 =>
  (rdA 0 S103 q114 0).bind fun x115 =>
  (wrA 0 S103 q108 1 x115).bind fun S118 =>
  if x105 = 0 ∨ x105 = 1 then some (x105, S118) else none) else none else none) else none
noncomputable def b_X6_readsItem_1 (rc : Nat → xS → Nat → Int → Option (Int × xS)) (fu : Nat) (S : xS) (p0 : Nat) (i0 : Int) : Option (Int × xS) :=
  rc 2 S p0 0
noncomputable def b_X6_readsItem_2 (rc : Nat → xS → Nat → Int → Option (Int × xS)) (fu : Nat) (S : xS) (p0 : Nat) (i0 : Int) : Option (Int × xS) :=
  if wI i0 = 0 then (if i0 = 0 ∨ i0 = 1 then some (i0, S) else none)
  else ((rdFp 5 28 S p0).bind fun q123 =>
  (rdFp 5 29 S p0).bind fun q125 =>
  (rdA 0 S q125 0).bind fun x126 =>
  (rdFp 5 29 S p0).bind fun q129 =>
  (rdA 0 S q129 1).bind fun x130 =>
  (wrA 0 S q123 (10 + x126) x130).bind fun S133 =>
  if i0 = 0 ∨ i0 = 1 then some (i0, S133) else none)
noncomputable def b_X6_readsItem_3 (rc : Nat → xS → Nat → Int → Option (Int × xS)) (fu : Nat) (S : xS) (p0 : Nat) (i0 : Int) : Option (Int × xS) :=
  if isO 5 S p0 = true then
  bd2 (f_X6_readsReport fu S p0 i0) fun x137 S135 =>
  if wI x137 = 0 then (rc 4 S135 0 0)
  else (some (1, S135)) else none
noncomputable def b_X6_readsItem_4 (rc : Nat → xS → Nat → Int → Option (Int × xS)) (fu : Nat) (S : xS) (p0 : Nat) (i0 : Int) : Option (Int × xS) :=
  some (0, S)
noncomputable def s_X6_readsItem (rc : Nat → xS → Nat → Int → Option (Int × xS)) (fu lb : Nat) (S : xS) (p0 : Nat) (i0 : Int) : Option (Int × xS) := match lb with
    | 0 => b_X6_readsItem_0 rc fu S p0 i0
    | 1 => b_X6_readsItem_1 rc fu S p0 i0
    | 2 => b_X6_readsItem_2 rc fu S p0 i0
    | 3 => b_X6_readsItem_3 rc fu S p0 i0
    | _ => b_X6_readsItem_4 rc fu S p0 i0
noncomputable def g_X6_readsItem (k : Nat) : Nat → xS → Nat → Int → Option (Int × xS) := Nat.rec (motive := fun _ => Nat → xS → Nat → Int → Option (Int × xS)) (fun _ _ _ _ => none) (fun fu rc => s_X6_readsItem rc fu) k
noncomputable def f_X6_readsItem (fu : Nat) (S : xS) (p0 : Nat) : Option (Int × xS) := g_X6_readsItem fu 0 S p0 0
noncomputable def b_X6_read_0 (rc : Nat → xS → Nat → Int → Int → Option (Int × xS)) (fu : Nat) (S : xS) (p0 : Nat) (i0 i1 : Int) : Option (Int × xS) :=
  if isO 5 S p0 = true then
  bd2 (f_X6_lookAt fu S p0 0) fun z3 S1 =>
  if isO 5 S1 p0 = true then
  bd2 (f_X6_readsFirst fu S1 p0) fun x7 S5 =>
  if wI x7 = 0 then ((rdFi 5 24 S5 p0).bind fun x15 =>
  some (((-10)) - x15, S5))
  else (if isO 5 S5 p0 = true then
  bd2 (f_X6_goOn fu S5 p0) fun z12 S10 =>
  rc 1 S10 p0 1 0 else none) else none else none
noncomputable def b_X6_read_1 (rc : Nat → xS → Nat → Int → Int → Option (Int × xS)) (fu : Nat) (S : xS) (p0 : Nat) (i0 i1 : Int) : Option (Int × xS) :=
  (rdFi 5 26 S p0).bind fun x17 =>
  if wI x17 = 0 then (rc 2 S p0 i0 0)
  else (if isO 5 S p0 = true then
  bd2 (f_X6_readsItem fu S p0) fun x21 S19 =>
  if wI x21 = 0 then ((rdFi 5 24 S19 p0).bind fun x25 =>
  some (((-10)) - x25, S19))
  else ((rdFi 5 26 S19 p0).bind fun x27 =>
  if wI x27 = wI 3 then (if isO 5 S19 p0 = true then
  bd2 (f_X6_goOn fu S19 p0) fun z31 S29 =>
  nmx (i0 + 1) fun x33 =>
  rc 1 S29 p0 x33 0 else none)
  else ((rdFi 5 24 S19 p0).bind fun x36 =>
  some (((-10)) - x36, S19))) else none)
noncomputable def b_X6_read_2 (rc : Nat → xS → Nat → Int → Int → Option (Int × xS)) (fu : Nat) (S : xS) (p0 : Nat) (i0 i1 : Int) : Option (Int × xS) :=
  if wI 47 ≤ wI i1 then (some (i0, S))
  else ((rdFp 5 0 S p0).bind fun q39 =>
  (rdFp 5 28 S p0).bind fun q41 =>
  (rdA 0 S q41 i1).bind fun x42 =>
  (wrA 0 S q39 i1 x42).bind fun S45 =>
  nmx (i1 + 1) fun x46 =>
  rc 2 S45 p0 i0 x46)
noncomputable def s_X6_read (rc : Nat → xS → Nat → Int → Int → Option (Int × xS)) (fu lb : Nat) (S : xS) (p0 : Nat) (i0 i1 : Int) : Option (Int × xS) := match lb with
    | 0 => b_X6_read_0 rc fu S p0 i0 i1
    | 1 => b_X6_read_1 rc fu S p0 i0 i1
    | _ => b_X6_read_2 rc fu S p0 i0 i1
noncomputable def g_X6_read (k : Nat) : Nat → xS → Nat → Int → Int → Option (Int × xS) := Nat.rec (motive := fun _ => Nat → xS → Nat → Int → Int → Option (Int × xS)) (fun _ _ _ _ _ => none) (fun fu rc => s_X6_read rc fu) k
noncomputable def f_X6_read (fu : Nat) (S : xS) (p0 : Nat) : Option (Int × xS) := g_X6_read fu 0 S p0 0 0
noncomputable def f_X6_part (fu : Nat) (S : xS) (p0 : Nat) (i0 : Int) : Option (Int × xS) :=
  if wI i0 = 0 then ((rdFl 5 4 S p0).bind fun x10 =>
  some (x10, S))
  else (if wI i0 = wI 1 then ((rdFl 5 5 S p0).bind fun x8 =>
  some (x8, S))
  else (if isO 5 S p0 = true then
  bd2 (f_X6_bad fu S p0 ((-2))) fun x5 S3 =>
  some (wI x5, S3) else none))
noncomputable def b_X6_image_0 (rc : Nat → xS → Nat → Int → Int → Option (Int × xS)) (fu : Nat) (S : xS) (p0 : Nat) (i0 i1 : Int) : Option (Int × xS) :=
  bd2 (f_X6_in fu S (wI i0) 0 1) fun x3 S1 =>
  if wI x3 = 0 then (if isO 5 S1 p0 = true then
  bd2 (f_X6_bad fu S1 p0 ((-2))) fun x7 S5 =>
  some (x7, S5) else none)
  else (rc 1 S1 p0 i0 0)
noncomputable def b_X6_image_1 (rc : Nat → xS → Nat → Int → Int → Option (Int × xS)) (fu : Nat) (S : xS) (p0 : Nat) (i0 i1 : Int) : Option (Int × xS) :=
  if wI 57 ≤ wI i1 then ((rdFp 5 2 S p0).bind fun q11 =>
  (wrA 2 S q11 i0 1).bind fun S13 =>
  some (1, S13))
  else ((rdFp 5 1 S p0).bind fun q15 =>
  (rdFp 5 0 S p0).bind fun q17 =>
  (rdA 0 S q17 i1).bind fun x18 =>
  (wrA 0 S q15 ((57 * i0) + i1) x18).bind fun S21 =>
  nmx (i1 + 1) fun x22 =>
  rc 1 S21 p0 i0 x22)
noncomputable def s_X6_image (rc : Nat → xS → Nat → Int → Int → Option (Int × xS)) (fu lb : Nat) (S : xS) (p0 : Nat) (i0 i1 : Int) : Option (Int × xS) := match lb with
    | 0 => b_X6_image_0 rc fu S p0 i0 i1
    | _ => b_X6_image_1 rc fu S p0 i0 i1
noncomputable def g_X6_image (k : Nat) : Nat → xS → Nat → Int → Int → Option (Int × xS) := Nat.rec (motive := fun _ => Nat → xS → Nat → Int → Int → Option (Int × xS)) (fun _ _ _ _ _ => none) (fun fu rc => s_X6_image rc fu) k
noncomputable def f_X6_image (fu : Nat) (S : xS) (p0 : Nat) (i0 : Int) : Option (Int × xS) := g_X6_image fu 0 S p0 i0 0
noncomputable def b_X6_from_0 (rc : Nat → xS → Nat → Int → Int → Option (Int × xS)) (fu : Nat) (S : xS) (p0 : Nat) (i0 i1 : Int) : Option (Int × xS) :=
  bd2 (f_X6_in fu S (wI i0) 0 1) fun x3 S1 =>
  if wI x3 = 0 then (if isO 5 S1 p0 = true then
  bd2 (f_X6_bad fu S1 p0 ((-2))) fun x16 S14 =>
  some (x16, S14) else none)
  else ((rdFp 5 2 S1 p0).bind fun q6 =>
  (rdA 2 S1 q6 i0).bind fun x7 =>
  if wI x7 = 0 then (if isO 5 S1 p0 = true then
  bd2 (f_X6_no fu S1 p0) fun x12 S10 =>
  some (x12, S10) else none)
  else (rc 1 S1 p0 i0 0))
noncomputable def b_X6_from_1 (rc : Nat → xS → Nat → Int → Int → Option (Int × xS)) (fu : Nat) (S : xS) (p0 : Nat) (i0 i1 : Int) : Option (Int × xS) :=
  if wI 57 ≤ wI i1 then (some (1, S))
  else ((rdFp 5 0 S p0).bind fun q20 =>
  (rdFp 5 1 S p0).bind fun q22 =>
  (rdA 0 S q22 ((57 * i0) + i1)).bind fun x23 =>
  (wrA 0 S q20 i1 x23).bind fun S26 =>
  nmx (i1 + 1) fun x27 =>
  rc 1 S26 p0 i0 x27)
noncomputable def s_X6_from (rc : Nat → xS → Nat → Int → Int → Option (Int × xS)) (fu lb : Nat) (S : xS) (p0 : Nat) (i0 i1 : Int) : Option (Int × xS) := match lb with
    | 0 => b_X6_from_0 rc fu S p0 i0 i1
    | _ => b_X6_from_1 rc fu S p0 i0 i1
noncomputable def g_X6_from (k : Nat) : Nat → xS → Nat → Int → Int → Option (Int × xS) := Nat.rec (motive := fun _ => Nat → xS → Nat → Int → Int → Option (Int × xS)) (fun _ _ _ _ _ => none) (fun fu rc => s_X6_from rc fu) k
noncomputable def f_X6_from (fu : Nat) (S : xS) (p0 : Nat) (i0 : Int) : Option (Int × xS) := g_X6_from fu 0 S p0 i0 0
noncomputable def f_X6_status (fu : Nat) (S : xS) (p0 : Nat) (i0 : Int) : Option (Int × xS) :=
  bd2 (f_X6_in fu S (wI i0) 0 2) fun x3 S1 =>
  if wI x3 = 0 then (if isO 5 S1 p0 = true then
  bd2 (f_X6_bad fu S1 p0 ((-1))) fun x7 S5 =>
  some (x7, S5) else none)
  else ((rdFp 5 3 S1 p0).bind fun q10 =>
  (rdA 0 S1 q10 i0).bind fun x11 =>
  some (x11, S1))
noncomputable def b_X6_counted_0 (rc : Nat → xS → Nat → Int → Option (Int × xS)) (fu : Nat) (S : xS) (p0 : Nat) (i0 : Int) : Option (Int × xS) :=
  if wI i0 = 0 then (rc 1 S p0 i0) else
  if wI i0 = 1 then (rc 1 S p0 i0) else
  if wI i0 = 2 then (rc 1 S p0 i0) else
  if wI i0 = 3 then (if isO 5 S p0 = true then
  bd2 (f_X6_known fu S p0) fun x7 S5 =>
  some (x7, S5) else none) else
  if wI i0 = 4 then ((rdFp 5 0 S p0).bind fun q11 =>
  (rdA 0 S q11 24).bind fun x12 =>
  some (x12, S)) else
  if wI i0 = 5 then ((rdFp 5 0 S p0).bind fun q16 =>
  (rdA 0 S q16 46).bind fun x17 =>
  some (x17, S)) else
  if wI i0 = 6 then ((rdFi 5 23 S p0).bind fun x21 =>
  some (x21, S)) else
  ((rdFp 5 0 S p0).bind fun q23 =>
  (rdA 0 S q23 41).bind fun x24 =>
  some (x24, S))
noncomputable def b_X6_counted_1 (rc : Nat → xS → Nat → Int → Option (Int × xS)) (fu : Nat) (S : xS) (p0 : Nat) (i0 : Int) : Option (Int × xS) :=
  (rdFp 5 0 S p0).bind fun q27 =>
  (rdA 0 S q27 (0 + i0)).bind fun x28 =>
  some (x28, S)
noncomputable def s_X6_counted (rc : Nat → xS → Nat → Int → Option (Int × xS)) (fu lb : Nat) (S : xS) (p0 : Nat) (i0 : Int) : Option (Int × xS) := match lb with
    | 0 => b_X6_counted_0 rc fu S p0 i0
    | _ => b_X6_counted_1 rc fu S p0 i0
noncomputable def g_X6_counted (k : Nat) : Nat → xS → Nat → Int → Option (Int × xS) := Nat.rec (motive := fun _ => Nat → xS → Nat → Int → Option (Int × xS)) (fun _ _ _ _ => none) (fun fu rc => s_X6_counted rc fu) k
noncomputable def f_X6_counted (fu : Nat) (S : xS) (p0 : Nat) (i0 : Int) : Option (Int × xS) := g_X6_counted fu 0 S p0 i0
noncomputable def f_X6_count (fu : Nat) (S : xS) (p0 : Nat) (i0 : Int) : Option (Int × xS) :=
  bd2 (f_X6_in fu S (wI i0) 0 7) fun x3 S1 =>
  if wI x3 = 0 then (if isO 5 S1 p0 = true then
  bd2 (f_X6_bad fu S1 p0 ((-2))) fun x7 S5 =>
  some (x7, S5) else none)
  else (if isO 5 S1 p0 = true then
  bd2 (f_X6_counted fu S1 p0 i0) fun x11 S9 =>
  some (x11, S9) else none)
noncomputable def b_X6_digest_0 (rc : Nat → xS → Nat → Int → Int → Option (Int × xS)) (fu : Nat) (S : xS) (p0 : Nat) (i0 i1 : Int) : Option (Int × xS) :=
  rc 1 S p0 823 0
noncomputable def b_X6_digest_1 (rc : Nat → xS → Nat → Int → Int → Option (Int × xS)) (fu : Nat) (S : xS) (p0 : Nat) (i0 i1 : Int) : Option (Int × xS) :=
  if wI 8 ≤ wI i1 then (rc 2 S p0 i0 0)
  else (if isO 5 S p0 = true then
  bd2 (f_X6_counted fu S p0 i1) fun x4 S2 =>
  nmx ((31 * i0) + (wI x4)) fun x6 =>
  nmx (i1 + 1) fun x8 =>
  rc 1 S2 p0 x6 x8 else none)
noncomputable def b_X6_digest_2 (rc : Nat → xS → Nat → Int → Int → Option (Int × xS)) (fu : Nat) (S : xS) (p0 : Nat) (i0 i1 : Int) : Option (Int × xS) :=
  if isO 5 S p0 = true then
  bd2 (f_X6_n fu S p0) fun x12 S10 =>
  if wI x12 ≤ wI i1 then (rc 3 S10 p0 i0 0)
  else ((rdFp 5 0 S10 p0).bind fun q16 =>
  (rdA 0 S10 q16 (3 + i1)).bind fun x17 =>
  (rdFp 5 0 S10 p0).bind fun q20 =>
  (rdA 0 S10 q20 (17 + i1)).bind fun x21 =>
  nmx ((31 * ((31 * i0) + (wI x17))) + (wI x21)) fun x23 =>
  nmx (i1 + 1) fun x25 =>
  rc 2 S10 p0 x23 x25) else none
noncomputable def b_X6_digest_3 (rc : Nat → xS → Nat → Int → Int → Option (Int × xS)) (fu : Nat) (S : xS) (p0 : Nat) (i0 i1 : Int) : Option (Int × xS) :=
  if isO 5 S p0 = true then
  bd2 (f_X6_n fu S p0) fun x29 S27 =>
  if wI x29 ≤ wI i1 then (rc 4 S27 p0 i0 0)
  else ((rdFp 5 0 S27 p0).bind fun q33 =>
  (rdA 0 S27 q33 (10 + i1)).bind fun x34 =>
  nmx ((31 * i0) + (wI x34)) fun x36 =>
  nmx (i1 + 1) fun x38 =>
  rc 3 S27 p0 x36 x38) else none
noncomputable def b_X6_digest_4 (rc : Nat → xS → Nat → Int → Int → Option (Int × xS)) (fu : Nat) (S : xS) (p0 : Nat) (i0 i1 : Int) : Option (Int × xS) :=
  (rdFp 5 0 S p0).bind fun q41 =>
  (rdA 0 S q41 24).bind fun x42 =>
  if wI (2 * x42) ≤ wI i1 then (rc 5 S p0 i0 0)
  else ((rdFp 5 0 S p0).bind fun q46 =>
  (rdA 0 S q46 (25 + i1)).bind fun x47 =>
  nmx ((31 * i0) + (wI x47)) fun x49 =>
  nmx (i1 + 1) fun x51 =>
  rc 4 S p0 x49 x51)
noncomputable def b_X6_digest_5 (rc : Nat → xS → Nat → Int → Int → Option (Int × xS)) (fu : Nat) (S : xS) (p0 : Nat) (i0 i1 : Int) : Option (Int × xS) :=
  (rdFp 5 0 S p0).bind fun q54 =>
  (rdA 0 S q54 41).bind fun x55 =>
  if wI x55 ≤ wI i1 then ((rdFl 5 4 S p0).bind fun x59 =>
  (rdFl 5 5 S p0).bind fun x61 =>
  some ((31 * ((31 * i0) + x59)) + x61, S))
  else ((rdFp 5 0 S p0).bind fun q63 =>
  (rdA 0 S q63 (42 + i1)).bind fun x64 =>
  nmx ((31 * i0) + (wI x64)) fun x66 =>
  nmx (i1 + 1) fun x68 =>
  rc 5 S p0 x66 x68)
noncomputable def s_X6_digest (rc : Nat → xS → Nat → Int → Int → Option (Int × xS)) (fu lb : Nat) (S : xS) (p0 : Nat) (i0 i1 : Int) : Option (Int × xS) := match lb with
    | 0 => b_X6_digest_0 rc fu S p0 i0 i1
    | 1 => b_X6_digest_1 rc fu S p0 i0 i1
    | 2 => b_X6_digest_2 rc fu S p0 i0 i1
    | 3 => b_X6_digest_3 rc fu S p0 i0 i1
    | 4 => b_X6_digest_4 rc fu S p0 i0 i1
    | _ => b_X6_digest_5 rc fu S p0 i0 i1
noncomputable def g_X6_digest (k : Nat) : Nat → xS → Nat → Int → Int → Option (Int × xS) := Nat.rec (motive := fun _ => Nat → xS → Nat → Int → Int → Option (Int × xS)) (fun _ _ _ _ _ => none) (fun fu rc => s_X6_digest rc fu) k
noncomputable def f_X6_digest (fu : Nat) (S : xS) (p0 : Nat) : Option (Int × xS) := g_X6_digest fu 0 S p0 0 0
