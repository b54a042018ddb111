def S0a : xS := [.inr (.inr (4, [.inr (.inr (some 1)), .inr (.inr (some 10)), .inr (.inr (some 19)), .inr (.inr (some 20)), .inr (.inr (some 22)), .inr (.inr (some 24)), .inr (.inr (some 25)), .inr (.inr none), .inr (.inl 0), .inr (.inl 1), .inl 0, .inl 0, .inl 0])),
  .inr (.inr (1, [.inl 5, .inl 2, .inl 1, .inr (.inr (some 2)), .inr (.inr (some 3)), .inr (.inr (some 4)), .inl 0, .inr (.inr (some 5)), .inr (.inr (some 6)), .inl 0, .inr (.inr (some 7)), .inl 0, .inr (.inr (some 8)), .inr (.inr (some 9))])),
  .inl (0, [0, 1, 2, 3, 4, 0, 0]),
  .inl (0, [-1, -1, -1, -1, -1, -1, -1]),
  .inl (0, [0, 0, 0, 0, 0, 0, 0]),
  .inl (0, [0, 0, 0, 0, 0, 0, 0, 0]),
  .inl (0, [0, 0, 0, 0, 0, 0, 0, 0]),
  .inl (0, [0, 0, 0, 0]),
  .inl (0, [0, 0, 0, 0, 0, 0, 0, 0, 0, 0]),
  .inl (0, [0, 0, 0, 0, 0, 0, 0]),
  .inr (.inr (1, [.inl 5, .inl 2, .inl 1, .inr (.inr (some 11)), .inr (.inr (some 12)), .inr (.inr (some 13)), .inl 0, .inr (.inr (some 14)), .inr (.inr (some 15)), .inl 0, .inr (.inr (some 16)), .inl 0, .inr (.inr (some 17)), .inr (.inr (some 18))])),
  .inl (0, [0, 1, 2, 3, 4, 0, 0]),
  .inl (0, [-1, -1, -1, -1, -1, -1, -1]),
  .inl (0, [0, 0, 0, 0, 0, 0, 0]),
  .inl (0, [0, 0, 0, 0, 0, 0, 0, 0]),
  .inl (0, [0, 0, 0, 0, 0, 0, 0, 0]),
  .inl (0, [0, 0, 0, 0]),
  .inl (0, [0, 0, 0, 0, 0, 0, 0, 0, 0, 0]),
  .inl (0, [0, 0, 0, 0, 0, 0, 0]),
  .inr (.inl (3, [none, none])),
  .inr (.inr (3, [.inr (.inr (some 21)), .inl 0, .inl 0, .inl 0, .inl 0, .inl 0])),
  .inl (1, List.replicate 150 0),
  .inr (.inr (2, [.inr (.inr (some 23)), .inl 0, .inl 0, .inl 0])),
  .inl (0, [0, 0, 0, 0, 0, 0, 0]),
  .inl (0, [0, 0, 0, 0, 0, 0, 0]),
  .inl (0, List.replicate 49 0)]
def S0b : xS := [.inr (.inr (5, [.inr (.inr (some 27)), .inr (.inr (some 28)), .inr (.inr (some 29)), .inr (.inr (some 30)), .inr (.inl 0), .inr (.inl 1), .inr (.inr (some 31)), .inl 0, .inr (.inr (some 32)), .inl 0, .inl 0, .inl 0, .inr (.inr (some 33)), .inr (.inr (some 34)), .inr (.inr (some 35)), .inr (.inr (some 36)), .inr (.inr (some 37)), .inl 0, .inr (.inr (some 38)), .inr (.inr (some 39)), .inr (.inr (some 40)), .inr (.inr (some 41)), .inr (.inr (some 42)), .inl 0, .inl 0, .inl 0, .inl 0, .inl 0, .inr (.inr (some 43)), .inr (.inr (some 44))])),
  .inl (0, [5, 2, 1, 0, 1, 2, 3, 4, 5, 6, 0, 0, 0, 0, 0, 0, 0, -1, -1, -1, -1, -1, -1, -1, 0, 0, 0, 0, 0, 0, 0, 0, 0, 0, 0, 0, 0, 0, 0, 0, 0, 0, 0, 0, 0, 0, 0, 0, 0, 0, 0, 0, 0, 0, 0, 0, 0]),
  .inl (0, List.replicate 114 0),
  .inl (2, [0, 0]),
  .inl (0, [0, 0, 0]),
  .inl (0, [0, 0, 0, 0, 0, 0, 0]),
  .inl (0, [0, 0, 0, 0, 0, 0, 0]),
  .inl (0, [0, 0, 0, 0, 0, 0, 0]),
  .inl (0, [0, 0, 0, 0, 0, 0, 0]),
  .inl (0, List.replicate 5040 0),
  .inl (0, List.replicate 5040 0),
  .inl (2, List.replicate 5040 0),
  .inl (0, List.replicate 49 0),
  .inl (0, [0, 0, 0, 0, 0, 0]),
  .inl (0, [0, 0, 0, 0, 0, 0, 0]),
  .inl (0, [0, 0, 0, 0, 0, 0, 0]),
  .inl (0, List.replicate 150 0),
  .inl (0, List.replicate 47 0),
  .inl (0, [0, 0])]
def S0 : xS := S0a ++ S0b
/-! equality of stores, as a row of booleans -/
def zeL {α : Type} (e : α → α → Bool) : List α → List α → Bool
  | [], [] => true
  | a :: l, b :: m => e a b && zeL e l m
  | _, _ => false
theorem zeL_s {α : Type} {e : α → α → Bool} (he : ∀ a b, e a b = true → a = b) : ∀ l m : List α, zeL e l m = true → l = m
  | [], [], _ => rfl
  | a :: l, b :: m, h => by
    unfold zeL at h
    rw [Bool.and_eq_true] at h
    rw [he a b h.1, zeL_s he l m h.2]
  | [], _ :: _, h => by cases h
  | _ :: _, [], h => by cases h
def zeV : xV → xV → Bool
  | .inl x, .inl y => x == y
  | .inr (.inl x), .inr (.inl y) => x == y
  | .inr (.inr x), .inr (.inr y) => x == y
  | _, _ => false
theorem zeV_s : ∀ a b : xV, zeV a b = true → a = b
  | .inl x, .inl y, h => congrArg Sum.inl (beq_iff_eq.mp h)
  | .inr (.inl x), .inr (.inl y), h => congrArg (fun z => Sum.inr (Sum.inl z)) (beq_iff_eq.mp h)
  | .inr (.inr x), .inr (.inr y), h => congrArg (fun z => Sum.inr (Sum.inr z)) (beq_iff_eq.mp h)
  | .inl _, .inr (.inl _), h => by cases h
  | .inl _, .inr (.inr _), h => by cases h
  | .inr (.inl _), .inl _, h => by cases h
  | .inr (.inr _), .inl _, h => by cases h
  | .inr (.inl _), .inr (.inr _), h => by cases h
  | .inr (.inr _), .inr (.inl _), h => by cases h
def zeC : xC → xC → Bool
  | .inl x, .inl y => x.1 == y.1 && x.2 == y.2
  | .inr (.inl x), .inr (.inl y) => x.1 == y.1 && x.2 == y.2
  | .inr (.inr x), .inr (.inr y) => x.1 == y.1 && zeL zeV x.2 y.2
  | _, _ => false
theorem zeC_s : ∀ a b : xC, zeC a b = true → a = b
  | .inl (k, L), .inl (k', L'), h => by
    obtain ⟨h1, h2⟩ := (Bool.and_eq_true _ _).mp (show (k == k' && L == L') = true from h)
    rw [beq_iff_eq.mp h1, beq_iff_eq.mp h2]
  | .inr (.inl (k, L)), .inr (.inl (k', L')), h => by
    obtain ⟨h1, h2⟩ := (Bool.and_eq_true _ _).mp (show (k == k' && L == L') = true from h)
    rw [beq_iff_eq.mp h1, beq_iff_eq.mp h2]
  | .inr (.inr (k, L)), .inr (.inr (k', L')), h => by
    obtain ⟨h1, h2⟩ := (Bool.and_eq_true _ _).mp (show (k == k' && zeL zeV L L') = true from h)
    rw [beq_iff_eq.mp h1, zeL_s zeV_s _ _ h2]
  | .inl _, .inr (.inl _), h => by cases h
  | .inl _, .inr (.inr _), h => by cases h
  | .inr (.inl _), .inl _, h => by cases h
  | .inr (.inr _), .inl _, h => by cases h
  | .inr (.inl _), .inr (.inr _), h => by cases h
  | .inr (.inr _), .inr (.inl _), h => by cases h
def zeO (o : Option (Int × xS)) (r : Int) (S : xS) : Bool := match o with
  | some z => z.1 == r && zeL zeC z.2 S
  | none => false
theorem zeO_s {o : Option (Int × xS)} {r : Int} {S : xS} (h : zeO o r S = true) : o = some (r, S) := by
  cases o with
  | none => cases h
  | some z =>
    obtain ⟨x, T⟩ := z
    obtain ⟨h1, h2⟩ := (Bool.and_eq_true _ _).mp (show (x == r && zeL zeC T S) = true from h)
    rw [beq_iff_eq.mp h1, zeL_s zeC_s _ _ h2]
/-! step 2: the pure fact: the fresh store, and what one call does on it -/
theorem bd2_some {α σ β : Type} {o : Option (α × σ)} {x : α} {s : σ} {f : α → σ → Option β} (h : o = some (x, s)) : bd2 o f = f x s := by rw [h]; rfl
theorem bind_some' {α β : Type} {o : Option α} {x : α} {f : α → Option β} (h : o = some x) : o.bind f = f x := by rw [h]; rfl
set_option maxRecDepth 100000 in
theorem z_i5 : f_X5_init 12001 (([] : xS) ++ [.inr (.inr (4, xNew_X5))]) ([] : xS).length = some (0, S0a) := zeO_s (by decide +kernel)
set_option maxRecDepth 100000 in
theorem z_i6 : f_X6_init 12001 (S0a ++ [.inr (.inr (5, xNew_X6))]) S0a.length = some (0, S0) := zeO_s (by decide +kernel)
theorem z_start (X : List Int) : f_law 12002 X = g_law X 12001 1 S0 0 26 0 := by
  show b_law_0 X (g_law X 12001) 12001 [] 0 0 0 = _
  unfold b_law_0
  refine (bd2_some z_i5).trans ?_
  exact bd2_some z_i6
def zTwo (o5 : Option (Int × xS)) (f6 : xS → Option (Int × xS)) : Prop := ∃ r S1 r' S2, o5 = some (r, S1) ∧ isO 5 S1 26 = true ∧ f6 S1 = some (r', S2) ∧ wI r = wI r'
def zTwoL (o5 : Option (Int × xS)) (f6 : xS → Option (Int × xS)) : Prop := ∃ r S1 r' S2, o5 = some (r, S1) ∧ isO 5 S1 26 = true ∧ f6 S1 = some (r', S2) ∧ wI (xLcmp r r') = 0
noncomputable def zChk (o5 : Option (Int × xS)) (f6 : xS → Option (Int × xS)) : Bool := match o5 with
  | none => false
  | some (r, S1) => isO 5 S1 26 && (match f6 S1 with
    | none => false
    | some (r', _) => wI r == wI r')
noncomputable def zChkL (o5 : Option (Int × xS)) (f6 : xS → Option (Int × xS)) : Bool := match o5 with
  | none => false
  | some (r, S1) => isO 5 S1 26 && (match f6 S1 with
    | none => false
    | some (r', _) => wI (xLcmp r r') == 0)
theorem zTwo_of {o5 : Option (Int × xS)} {f6 : xS → Option (Int × xS)} (h : zChk o5 f6 = true) : zTwo o5 f6 := by
  unfold zChk at h
  split at h
  · cases h
  · next r S1 =>
    rw [Bool.and_eq_true] at h
    obtain ⟨h1, h2⟩ := h
    split at h2
    · cases h2
    · next r' S2 e => exact ⟨r, S1, r', S2, rfl, h1, e, beq_iff_eq.mp h2⟩
theorem zTwoL_of {o5 : Option (Int × xS)} {f6 : xS → Option (Int × xS)} (h : zChkL o5 f6 = true) : zTwoL o5 f6 := by
  unfold zChkL at h
  split at h
  · cases h
  · next r S1 =>
    rw [Bool.and_eq_true] at h
    obtain ⟨h1, h2⟩ := h
    split at h2
    · cases h2
    · next r' S2 e => exact ⟨r, S1, r', S2, rfl, h1, e, beq_iff_eq.mp h2⟩
theorem z_end (a b c : Int) (S : xS) : g_law [a, b, c] 12000 2 S 0 26 0 = some (1, S) := by
  show b_law_1 [a, b, c] (g_law [a, b, c] 11998) 11998 S 0 26 (0 + 3) = _
  unfold b_law_1
  exact if_pos (show wI ((3 : Int) - 3) < wI (0 + 3) by decide)
theorem z_gl {a b c : Int} {r r' : Int} {S1 S2 : xS} (e : wI r = wI r') : (if wI r = wI r' then (g_law [a, b, c] 12000 2 S2 0 26 0) else (some ((0 : Int), S2))) = some (1, S2) := by rw [if_pos e, z_end]
theorem z_glL {a b c : Int} {r r' : Int} {S1 S2 : xS} (e : wI (xLcmp r r') = 0) : (if wI (xLcmp r r') = 0 then (g_law [a, b, c] 12000 2 S2 0 26 0) else (some ((0 : Int), S2))) = some (1, S2) := by rw [if_pos e, z_end]
theorem z_o4 : isO 4 S0 0 = true := by decide
theorem z_r1 {a b c : Int} : rdX [a, b, c] (0 + 1) = some b := rfl
theorem z_r2 {a b c : Int} : rdX [a, b, c] (0 + 2) = some c := rfl
theorem z_g0 {a b c : Int} {F5 : Option (Int × xS)} {F6 : xS → Option (Int × xS)} (h : zTwo F5 F6) : ∃ S', (if isO 4 S0 0 = true then bd2 F5 fun r S1 => if isO 5 S1 26 = true then bd2 (F6 S1) fun r' S2 => if wI r = wI r' then (g_law [a, b, c] 12000 2 S2 0 26 0) else (some ((0 : Int), S2)) else none else none) = some (1, S') := by
  obtain ⟨r, S1, r', S2, h1, h2, h3, h4⟩ := h
  refine ⟨S2, ?_⟩
  rw [if_pos z_o4, bd2_some h1, if_pos h2, bd2_some h3, z_gl (S1 := S1) h4]
theorem z_g0L {a b c : Int} {F5 : Option (Int × xS)} {F6 : xS → Option (Int × xS)} (h : zTwoL F5 F6) : ∃ S', (if isO 4 S0 0 = true then bd2 F5 fun r S1 => if isO 5 S1 26 = true then bd2 (F6 S1) fun r' S2 => if wI (xLcmp r r') = 0 then (g_law [a, b, c] 12000 2 S2 0 26 0) else (some ((0 : Int), S2)) else none else none) = some (1, S') := by
  obtain ⟨r, S1, r', S2, h1, h2, h3, h4⟩ := h
  refine ⟨S2, ?_⟩
  rw [if_pos z_o4, bd2_some h1, if_pos h2, bd2_some h3, z_glL (S1 := S1) h4]
theorem z_g1 {a b c : Int} {F5 : Int → Option (Int × xS)} {F6 : xS → Int → Option (Int × xS)} (h : zTwo (F5 b) (fun S => F6 S b)) : ∃ S', ((rdX [a, b, c] (0 + 1)).bind fun x => if isO 4 S0 0 = true then bd2 (F5 x) fun r S1 => (rdX [a, b, c] (0 + 1)).bind fun y => if isO 5 S1 26 = true then bd2 (F6 S1 y) fun r' S2 => if wI r = wI r' then (g_law [a, b, c] 12000 2 S2 0 26 0) else (some ((0 : Int), S2)) else none else none) = some (1, S') := by
  obtain ⟨r, S1, r', S2, h1, h2, h3, h4⟩ := h
  refine ⟨S2, ?_⟩
  rw [bind_some' z_r1, if_pos z_o4, bd2_some h1, bind_some' z_r1, if_pos h2, bd2_some h3, z_gl (S1 := S1) h4]
theorem z_g1L {a b c : Int} {F5 : Int → Option (Int × xS)} {F6 : xS → Int → Option (Int × xS)} (h : zTwoL (F5 b) (fun S => F6 S b)) : ∃ S', ((rdX [a, b, c] (0 + 1)).bind fun x => if isO 4 S0 0 = true then bd2 (F5 x) fun r S1 => (rdX [a, b, c] (0 + 1)).bind fun y => if isO 5 S1 26 = true then bd2 (F6 S1 y) fun r' S2 => if wI (xLcmp r r') = 0 then (g_law [a, b, c] 12000 2 S2 0 26 0) else (some ((0 : Int), S2)) else none else none) = some (1, S') := by
  obtain ⟨r, S1, r', S2, h1, h2, h3, h4⟩ := h
  refine ⟨S2, ?_⟩
  rw [bind_some' z_r1, if_pos z_o4, bd2_some h1, bind_some' z_r1, if_pos h2, bd2_some h3, z_glL (S1 := S1) h4]
theorem z_g2 {a b c : Int} {F5 : Int → Int → Option (Int × xS)} {F6 : xS → Int → Int → Option (Int × xS)} (h : zTwo (F5 b c) (fun S => F6 S b c)) : ∃ S', ((rdX [a, b, c] (0 + 1)).bind fun x => (rdX [a, b, c] (0 + 2)).bind fun y => if isO 4 S0 0 = true then bd2 (F5 x y) fun r S1 => (rdX [a, b, c] (0 + 1)).bind fun z => (rdX [a, b, c] (0 + 2)).bind fun w => if isO 5 S1 26 = true then bd2 (F6 S1 z w) fun r' S2 => if wI r = wI r' then (g_law [a, b, c] 12000 2 S2 0 26 0) else (some ((0 : Int), S2)) else none else none) = some (1, S') := by
  obtain ⟨r, S1, r', S2, h1, h2, h3, h4⟩ := h
  refine ⟨S2, ?_⟩
  rw [bind_some' z_r1, bind_some' z_r2, if_pos z_o4, bd2_some h1, bind_some' z_r1, bind_some' z_r2, if_pos h2, bd2_some h3, z_gl (S1 := S1) h4]
