def S0a : xS := [.inr (.inr (4, [.inr (.inr (some 1)), .inr (.inr (some 10)), .inr (.inr (some 19)), .inr (.inr (some 20)), .inr (.inr (some 22)), .inr (.inr (some 24)), .inr (.inr (some 25)), .inr (.inr none), .inr (.inl 0), .inr (.inl 1), .inl 0, .inl 0, .inl 0])),
  .inr (.inr (1, [.inl 5, .inl 2, .inl 1, .inr (.inr (some 2)), .inr (.inr (some 3)), .inr (.inr (some 4)), .inl 0, .inr (.inr (some 5)), .inr (.inr (some 6)), .inl 0, .inr (.inr (some 7)), .inl 0, .inr (.inr (some 8)), .inr (.inr (some 9))])),
  .inl (0, [0, 1, 2, 3, 4, 0, 0]),
  .inl (0, [-1, -1, -1, -1, -1, -1, -1]),
  .inl (0, [0, 0, 0, 0, 0, 0, 0]),
  .inl (0, [0, 0, 0, 0, 0, 0, 0, 0]),
  .inl (0, [0, 0, 0, 0, 0, 0, 0, 0]),
  .inl (0, [0, 0, 0, 0]),
  .inl (0, [0, 0, 0, 0, 0, 0, 0, 0, 0, 0]),
  .inl (0, [0, 0, 0, 0, 0, 0, 0]),
  .inr (.inr (1, [.inl 5, .inl 2, .inl 1, .inr (.inr (some 11)), .inr (.inr (some 12)), .inr (.inr (some 13)), .inl 0, .inr (.inr (some 14)), .inr (.inr (some 15)), .inl 0, .inr (.inr (some 16)), .inl 0, .inr (.inr (some 17)), .inr (.inr (some 18))])),
  .inl (0, [0, 1, 2, 3, 4, 0, 0]),
  .inl (0, [-1, -1, -1, -1, -1, -1, -1]),
  .inl (0, [0, 0, 0, 0, 0, 0, 0]),
  .inl (0, [0, 0, 0, 0, 0, 0, 0, 0]),
  .inl (0, [0, 0, 0, 0, 0, 0, 0, 0]),
  .inl (0, [0, 0, 0, 0]),
  .inl (0, [0, 0, 0, 0, 0, 0, 0, 0, 0, 0]),
  .inl (0, [0, 0, 0, 0, 0, 0, 0]),
  .inr (.inl (3, [none, none])),
  .inr (.inr (3, [.inr (.inr (some 21)), .inl 0, .inl 0, .inl 0, .inl 0, .inl 0])),
  .inl (1, List.replicate 150 0),
  .inr (.inr (2, [.inr (.inr (some 23)), .inl 0, .inl 0, .inl 0])),
  .inl (0, [0, 0, 0, 0, 0, 0, 0]),
  .inl (0, [0, 0, 0, 0, 0, 0, 0]),
  .inl (0, List.replicate 49 0)]
def S0b : xS := [.inr (.inr (5, [.inr (.inr (some 27)), .inr (.inr (some 28)), .inr (.inr (some 29)), .inr (.inr (some 30)), .inr (.inl 0), .inr (.inl 1), .inr (.inr (some 31)), .inl 0, .inr (.inr (some 32)), .inl 0, .inl 0, .inl 0, .inr (.inr (some 33)), .inr (.inr (some 34)), .inr (.inr (some 35)), .inr (.inr (some 36)), .inr (.inr (some 37)), .inl 0, .inr (.inr (some 38)), .inr (.inr (some 39)), .inr (.inr (some 40)), .inr (.inr (some 41)), .inr (.inr (some 42)), .inl 0, .inl 0, .inl 0, .inl 0, .inl 0, .inr (.inr (some 43)), .inr (.inr (some 44))])),
  .inl (0, [5, 2, 1, 0, 1, 2, 3, 4, 5, 6, 0, 0, 0, 0, 0, 0, 0, -1, -1, -1, -1, -1, -1, -1, 0, 0, 0, 0, 0, 0, 0, 0, 0, 0, 0, 0, 0, 0, 0, 0, 0, 0, 0, 0, 0, 0, 0, 0, 0, 0, 0, 0, 0, 0, 0, 0, 0]),
  .inl (0, List.replicate 114 0),
  .inl (2, [0, 0]),
  .inl (0, [0, 0, 0]),
  .inl (0, [0, 0, 0, 0, 0, 0, 0]),
  .inl (0, [0, 0, 0, 0, 0, 0, 0]),
  .inl (0, [0, 0, 0, 0, 0, 0, 0]),
  .inl (0, [0, 0, 0, 0, 0, 0, 0]),
  .inl (0, List.replicate 5040 0),
  .inl (0, List.replicate 5040 0),
  .inl (2, List.replicate 5040 0),
  .inl (0, List.replicate 49 0),
  .inl (0, [0, 0, 0, 0, 0, 0]),
  .inl (0, [0, 0, 0, 0, 0, 0, 0]),
  .inl (0, [0, 0, 0, 0, 0, 0, 0]),
  .inl (0, List.replicate 150 0),
  .inl (0, List.replicate 47 0),
  .inl (0, [0, 0])]
def S0 : xS := S0a ++ S0b
/-! equality of stores, as a row of booleans -/
def zeL {α : Type} (e : α → α → Bool) : List α → List α → Bool
  | [], [] => true
  | a :: l, b :: m => e a b && zeL e l m
  | _, _ => false
theorem zeL_s {α : Type} {e : α → α → Bool} (he : ∀ a b, e a b = true → a = b) : ∀ l m : List α, zeL e l m = true → l = m
  | [], [], _ => rfl
  | a :: l, b :: m, h => by
    unfold zeL at h
    rw [Bool.and_eq_true] at h
    rw [he a b h.1, zeL_s he l m h.2]
  | [], _ :: _, h => by cases h
  | _ :: _, [], h => by cases h
def zeV : xV → xV → Bool
  | .inl x, .inl y => x == y
  | .inr (.inl x), .inr (.inl y) => x == y
  | .inr (.inr x), .inr (.inr y) => x == y
  | _, _ => false
theorem zeV_s : ∀ a b : xV, zeV a b = true → a = b
  | .inl x, .inl y, h => congrArg Sum.inl (beq_iff_eq.mp h)
  | .inr (.inl x), .inr (.inl y), h => congrArg (fun z => Sum.inr (Sum.inl z)) (beq_iff_eq.mp h)
  | .inr (.inr x), .inr (.inr y), h => congrArg (fun z => Sum.inr (Sum.inr z)) (beq_iff_eq.mp h)
  | .inl _, .inr (.inl _), h => by cases h
  | .inl _, .inr (.inr _), h => by cases h
  | .inr (.inl _), .inl _, h => by cases h
  | .inr (.inr _), .inl _, h => by cases h
  | .inr (.inl _), .inr (.inr _), h => by cases h
  | .inr (.inr _), .inr (.inl _), h => by cases h
def zeC : xC → xC → Bool
  | .inl x, .inl y => x.1 == y.1 && x.2 == y.2
  | .inr (.inl x), .inr (.inl y) => x.1 == y.1 && x.2 == y.2
  | .inr (.inr x), .inr (.inr y) => x.1 == y.1 && zeL zeV x.2 y.2
  | _, _ => false
theorem zeC_s : ∀ a b : xC, zeC a b = true → a = b
  | .inl (k, L), .inl (k', L'), h => by
    obtain ⟨h1, h2⟩ := (Bool.and_eq_true _ _).mp (show (k == k' && L == L') = true from h)
    rw [beq_iff_eq.mp h1, beq_iff_eq.mp h2]
  | .inr (.inl (k, L)), .inr (.inl (k', L')), h => by
    obtain ⟨h1, h2⟩ := (Bool.and_eq_true _ _).mp (show (k == k' && L == L') = true from h)
    rw [beq_iff_eq.mp h1, beq_iff_eq.mp h2]
  | .inr (.inr (k, L)), .inr (.inr (k', L')), h => by
    obtain ⟨h1, h2⟩ := (Bool.and_eq_true _ _).mp (show (k == k' && zeL zeV L L') = true from h)
    rw [beq_iff_eq.mp h1, zeL_s zeV_s _ _ h2]
  | .inl _, .inr (.inl _), h => by cases h
  | .inl _, .inr (.inr _), h => by cases h
  | .inr (.inl _), .inl _, h => by cases h
  | .inr (.inr _), .inl _, h => by cases h
  | .inr (.inl _), .inr (.inr _), h => by cases h
  | .inr (.inr _), .inr (.inl _), h => by cases h
def zeO (o : Option (Int × xS)) (r : Int) (S : xS) : Bool := match o with
  | some z => z.1 == r && zeL zeC z.2 S
  | none => false
theorem zeO_s {o : Option (Int × xS)} {r : Int} {S : xS} (h : zeO o r S = true) : o = some (r, S) := by
  cases o with
  | none => cases h
  | some z =>
    obtain ⟨x, T⟩ := z
    obtain ⟨h1, h2⟩ := (Bool.and_eq_true _ _).mp (show (x == r && zeL zeC T S) = true from h)
    rw [beq_iff_eq.mp h1, zeL_s zeC_s _ _ h2]
set_option maxRecDepth 100000 in
theorem z_i5 : f_X5_init 400001 (([] : xS) ++ [.inr (.inr (4, xNew_X5))]) ([] : xS).length = some (0, S0a) := zeO_s (by decide +kernel)
set_option maxRecDepth 100000 in
theorem z_i6 : f_X6_init 400001 (S0a ++ [.inr (.inr (5, xNew_X6))]) S0a.length = some (0, S0) := zeO_s (by decide +kernel)
theorem z_start (X : List Int) : f_law 400002 X = g_law X 400001 1 S0 0 26 0 := by
  show b_law_0 X (g_law X 400001) 400001 [] 0 0 0 = _
  unfold b_law_0
  refine (bd2_some z_i5).trans ?_
  exact bd2_some z_i6
