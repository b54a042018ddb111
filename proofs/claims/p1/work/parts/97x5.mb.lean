/-! the ways in their order -/
def zQt : List (List Int) := [[0, 1, 2, 3, 4, 0, 0], [0, 1, 2, 4, 3, 0, 0], [0, 1, 3, 2, 4, 0, 0], [0, 1, 3, 4, 2, 0, 0], [0, 1, 4, 2, 3, 0, 0], [0, 1, 4, 3, 2, 0, 0], [0, 2, 1, 3, 4, 0, 0], [0, 2, 1, 4, 3, 0, 0], [0, 2, 3, 1, 4, 0, 0], [0, 2, 3, 4, 1, 0, 0], [0, 2, 4, 1, 3, 0, 0], [0, 2, 4, 3, 1, 0, 0], [0, 3, 1, 2, 4, 0, 0], [0, 3, 1, 4, 2, 0, 0], [0, 3, 2, 1, 4, 0, 0], [0, 3, 2, 4, 1, 0, 0], [0, 3, 4, 1, 2, 0, 0], [0, 3, 4, 2, 1, 0, 0], [0, 4, 1, 2, 3, 0, 0], [0, 4, 1, 3, 2, 0, 0], [0, 4, 2, 1, 3, 0, 0], [0, 4, 2, 3, 1, 0, 0], [0, 4, 3, 1, 2, 0, 0], [0, 4, 3, 2, 1, 0, 0], [1, 0, 2, 3, 4, 0, 0], [1, 0, 2, 4, 3, 0, 0], [1, 0, 3, 2, 4, 0, 0], [1, 0, 3, 4, 2, 0, 0], [1, 0, 4, 2, 3, 0, 0], [1, 0, 4, 3, 2, 0, 0], [1, 2, 0, 3, 4, 0, 0], [1, 2, 0, 4, 3, 0, 0], [1, 2, 3, 0, 4, 0, 0], [1, 2, 3, 4, 0, 0, 0], [1, 2, 4, 0, 3, 0, 0], [1, 2, 4, 3, 0, 0, 0], [1, 3, 0, 2, 4, 0, 0], [1, 3, 0, 4, 2, 0, 0], [1, 3, 2, 0, 4, 0, 0], [1, 3, 2, 4, 0, 0, 0], [1, 3, 4, 0, 2, 0, 0], [1, 3, 4, 2, 0, 0, 0], [1, 4, 0, 2, 3, 0, 0], [1, 4, 0, 3, 2, 0, 0], [1, 4, 2, 0, 3, 0, 0], [1, 4, 2, 3, 0, 0, 0], [1, 4, 3, 0, 2, 0, 0], [1, 4, 3, 2, 0, 0, 0], [2, 0, 1, 3, 4, 0, 0], [2, 0, 1, 4, 3, 0, 0], [2, 0, 3, 1, 4, 0, 0], [2, 0, 3, 4, 1, 0, 0], [2, 0, 4, 1, 3, 0, 0], [2, 0, 4, 3, 1, 0, 0], [2, 1, 0, 3, 4, 0, 0], [2, 1, 0, 4, 3, 0, 0], [2, 1, 3, 0, 4, 0, 0], [2, 1, 3, 4, 0, 0, 0], [2, 1, 4, 0, 3, 0, 0], [2, 1, 4, 3, 0, 0, 0], [2, 3, 0, 1, 4, 0, 0], [2, 3, 0, 4, 1, 0, 0], [2, 3, 1, 0, 4, 0, 0], [2, 3, 1, 4, 0, 0, 0], [2, 3, 4, 0, 1, 0, 0], [2, 3, 4, 1, 0, 0, 0], [2, 4, 0, 1, 3, 0, 0], [2, 4, 0, 3, 1, 0, 0], [2, 4, 1, 0, 3, 0, 0], [2, 4, 1, 3, 0, 0, 0], [2, 4, 3, 0, 1, 0, 0], [2, 4, 3, 1, 0, 0, 0], [3, 0, 1, 2, 4, 0, 0], [3, 0, 1, 4, 2, 0, 0], [3, 0, 2, 1, 4, 0, 0], [3, 0, 2, 4, 1, 0, 0], [3, 0, 4, 1, 2, 0, 0], [3, 0, 4, 2, 1, 0, 0], [3, 1, 0, 2, 4, 0, 0], [3, 1, 0, 4, 2, 0, 0], [3, 1, 2, 0, 4, 0, 0], [3, 1, 2, 4, 0, 0, 0], [3, 1, 4, 0, 2, 0, 0], [3, 1, 4, 2, 0, 0, 0], [3, 2, 0, 1, 4, 0, 0], [3, 2, 0, 4, 1, 0, 0], [3, 2, 1, 0, 4, 0, 0], [3, 2, 1, 4, 0, 0, 0], [3, 2, 4, 0, 1, 0, 0], [3, 2, 4, 1, 0, 0, 0], [3, 4, 0, 1, 2, 0, 0], [3, 4, 0, 2, 1, 0, 0], [3, 4, 1, 0, 2, 0, 0], [3, 4, 1, 2, 0, 0, 0], [3, 4, 2, 0, 1, 0, 0], [3, 4, 2, 1, 0, 0, 0], [4, 0, 1, 2, 3, 0, 0], [4, 0, 1, 3, 2, 0, 0], [4, 0, 2, 1, 3, 0, 0], [4, 0, 2, 3, 1, 0, 0], [4, 0, 3, 1, 2, 0, 0], [4, 0, 3, 2, 1, 0, 0], [4, 1, 0, 2, 3, 0, 0], [4, 1, 0, 3, 2, 0, 0], [4, 1, 2, 0, 3, 0, 0], [4, 1, 2, 3, 0, 0, 0], [4, 1, 3, 0, 2, 0, 0], [4, 1, 3, 2, 0, 0, 0], [4, 2, 0, 1, 3, 0, 0], [4, 2, 0, 3, 1, 0, 0], [4, 2, 1, 0, 3, 0, 0], [4, 2, 1, 3, 0, 0, 0], [4, 2, 3, 0, 1, 0, 0], [4, 2, 3, 1, 0, 0, 0], [4, 3, 0, 1, 2, 0, 0], [4, 3, 0, 2, 1, 0, 0], [4, 3, 1, 0, 2, 0, 0], [4, 3, 1, 2, 0, 0, 0], [4, 3, 2, 0, 1, 0, 0], [4, 3, 2, 1, 0, 0, 0], [0, 1, 2, 3, 4, 0, 0]]
def zQ (r : Nat) : List Int := (zQt[r]?).getD []
def zM : xS := [.inr (.inr (4, [.inr (.inr (some 1)), .inr (.inr (some 10)), .inr (.inr (some 19)), .inr (.inr (some 20)), .inr (.inr (some 22)), .inr (.inr (some 24)), .inr (.inr (some 25)), .inr (.inr none), .inr (.inl 0), .inr (.inl 1), .inl 0, .inl 0, .inl 0])),
  .inr (.inr (1, [.inl 5, .inl 2, .inl 1, .inr (.inr (some 2)), .inr (.inr (some 3)), .inr (.inr (some 4)), .inl 0, .inr (.inr (some 5)), .inr (.inr (some 6)), .inl 0, .inr (.inr (some 7)), .inl 0, .inr (.inr (some 8)), .inr (.inr (some 9))])),
  .inl (0, [0, 1, 2, 3, 4, 0, 0]),
  .inl (0, [-1, -1, -1, -1, -1, -1, -1]),
  .inl (0, [0, 0, 0, 0, 0, 0, 0]),
  .inl (0, [0, 0, 0, 0, 0, 0, 0, 0]),
  .inl (0, [0, 0, 0, 0, 0, 0, 0, 0]),
  .inl (0, [0, 0, 0, 0]),
  .inl (0, [0, 0, 0, 0, 0, 0, 0, 0, 0, 0]),
  .inl (0, [0, 0, 0, 0, 0, 0, 0]),
  .inr (.inr (1, [.inl 5, .inl 2, .inl 1, .inr (.inr (some 11)), .inr (.inr (some 12)), .inr (.inr (some 13)), .inl 0, .inr (.inr (some 14)), .inr (.inr (some 15)), .inl 0, .inr (.inr (some 16)), .inl 0, .inr (.inr (some 17)), .inr (.inr (some 18))])),
  .inl (0, [0, 1, 2, 3, 4, 0, 0]),
  .inl (0, [-1, -1, -1, -1, -1, -1, -1]),
  .inl (0, [0, 0, 0, 0, 0, 0, 0]),
  .inl (0, [0, 0, 0, 0, 0, 0, 0, 0]),
  .inl (0, [0, 0, 0, 0, 0, 0, 0, 0]),
  .inl (0, [0, 0, 0, 0]),
  .inl (0, [0, 0, 0, 0, 0, 0, 0, 0, 0, 0]),
  .inl (0, [0, 0, 0, 0, 0, 0, 0]),
  .inr (.inl (3, [none, none])),
  .inr (.inr (3, [.inr (.inr (some 21)), .inl 0, .inl 0, .inl 0, .inl 0, .inl 0])),
  .inl (1, List.replicate 150 0)]
def zN (T : List Int) : xS := [zD, zD, zD, zD, zD, zD, zD, zD, zD, zD, zD, zD, zD, zD, zD, zD, zD, zD, zD, zD, zD, zD, zD, zD, .inl (0, T)]
set_option maxRecDepth 100000 in
theorem zM_may : f_X5_mayTrialBe 60 zM 0 = some (1, zM) := zeO_s (by decide +kernel)
theorem zM_zz {f1 f2 f3 : Int} {L T : List Int} {g1 g2 : Int} {W B : List Int} : zmg zM (zz f1 f2 f3 L T g1 g2 W B) = (zz f1 f2 f3 L T g1 g2 W B) := rfl
theorem zz_may {f1 f2 f3 : Int} {L T : List Int} {g1 g2 : Int} {W B : List Int} {k : Nat} (hk : 60 ≤ k) : f_X5_mayTrialBe k (zz f1 f2 f3 L T g1 g2 W B) 0 = some (1, (zz f1 f2 f3 L T g1 g2 W B)) := by
  have h := frf_X5_mayTrialBe (X := (zz f1 f2 f3 L T g1 g2 W B)) k hk zM 0 1 zM zM_may
  rw [zM_zz] at h
  exact h
theorem zN_zz {f1 f2 f3 : Int} {L T T' : List Int} {g1 g2 : Int} {W B : List Int} : zmg (zN T') (zz f1 f2 f3 L T g1 g2 W B) = zz f1 f2 f3 L T' g1 g2 W B := rfl
noncomputable def zNk (A B : List Int) : Bool := zeO (f_X4_setToNext 60 (zN A) 24 5) 0 (zN B)
set_option maxRecDepth 100000 in
theorem zN_all : ∀ r : Nat, r < 120 → zNk (zQ r) (zQ (r + 1)) = true := by decide +kernel
theorem zz_next {f1 f2 f3 : Int} {L : List Int} {g1 g2 : Int} {W B : List Int} {k r : Nat} (hk : 60 ≤ k) (hr : r < 120) : f_X4_setToNext k (zz f1 f2 f3 L (zQ r) g1 g2 W B) 24 5 = some (0, zz f1 f2 f3 L (zQ (r + 1)) g1 g2 W B) := by
  have h := frf_X4_setToNext (X := zz f1 f2 f3 L (zQ r) g1 g2 W B) k hk (zN (zQ r)) 24 5 0 (zN (zQ (r + 1))) (zeO_s (zN_all r hr))
  rw [zN_zz, zN_zz] at h
  exact h
theorem wIn {n : Int} (h : -2147483648 ≤ n ∧ n < 2147483648) : wI n = n := wI_id h.1 h.2
/-- mayBe: the class -/
theorem mb_5 {f1 f2 f3 : Int} {L : List Int} {g1 g2 : Int} {W B : List Int} {b : Nat} (hb : b ≤ 119) : ∀ (m k r : Nat), r + m = b → g_X5_mayBe (k + 2 * m + 100) 1 (zz f1 f2 f3 L (zQ r) g1 g2 W B) 0 (b : Int) 5 (r : Int) (r : Int) = some ((b : Int), zz f1 f2 f3 L (zQ b) g1 g2 W B)
  | 0, k, r, hr => by
    have e : r = b := by omega
    subst e
    rw [show k + 2 * 0 + 100 = (k + 99) + 1 by omega]
    show b_X5_mayBe_1 (g_X5_mayBe (k + 99)) (k + 99) (zz f1 f2 f3 L (zQ r) g1 g2 W B) 0 (r : Int) 5 (r : Int) (r : Int) = _
    unfold b_X5_mayBe_1
    rw [bind_some' (show rdT 5 = some 120 from by decide), if_neg (by rw [wIn (n := (r : Int)) (by omega), show wI 120 = 120 from by decide]; omega), if_pos zz_o4, bd2_some (zz_may (by omega)), if_neg (by decide), if_pos rfl]
  | m + 1, k, r, hr => by
    have st : g_X5_mayBe (k + 2 * (m + 1) + 100) 1 (zz f1 f2 f3 L (zQ r) g1 g2 W B) 0 (b : Int) 5 (r : Int) (r : Int) = g_X5_mayBe (k + 2 * m + 101) 2 (zz f1 f2 f3 L (zQ r) g1 g2 W B) 0 (b : Int) 5 ((r : Int) + 1) (r : Int) := by
      rw [show k + 2 * (m + 1) + 100 = (k + 2 * m + 101) + 1 by omega]
      show b_X5_mayBe_1 (g_X5_mayBe (k + 2 * m + 101)) (k + 2 * m + 101) (zz f1 f2 f3 L (zQ r) g1 g2 W B) 0 (b : Int) 5 (r : Int) (r : Int) = _
      unfold b_X5_mayBe_1
      rw [bind_some' (show rdT 5 = some 120 from by decide), if_neg (by rw [wIn (n := (r : Int)) (by omega), show wI 120 = 120 from by decide]; omega), if_pos zz_o4, bd2_some (zz_may (by omega)), if_neg (by decide), if_neg (by rw [wIn (n := (r : Int)) (by omega), wIn (n := (b : Int)) (by omega)]; omega)]
    have st2 : g_X5_mayBe (k + 2 * m + 101) 2 (zz f1 f2 f3 L (zQ r) g1 g2 W B) 0 (b : Int) 5 ((r : Int) + 1) (r : Int) = g_X5_mayBe (k + 2 * m + 100) 1 (zz f1 f2 f3 L (zQ (r + 1)) g1 g2 W B) 0 (b : Int) 5 (((r + 1 : Nat)) : Int) (((r + 1 : Nat)) : Int) := by
      rw [show k + 2 * m + 101 = (k + 2 * m + 100) + 1 by omega]
      show b_X5_mayBe_2 (g_X5_mayBe (k + 2 * m + 100)) (k + 2 * m + 100) (zz f1 f2 f3 L (zQ r) g1 g2 W B) 0 (b : Int) 5 ((r : Int) + 1) (r : Int) = _
      unfold b_X5_mayBe_2
      rw [bind_some' zz_pt, bd2_some (zz_next (by omega) (by omega)), show (((r + 1 : Nat)) : Int) = (r : Int) + 1 by omega]
    rw [st, st2]
    exact mb_5 hb m k (r + 1) (by omega)
/-! the reference over all ways, on a store whose first 26 cells are unknown -/
def zR : xS := [zD,
  zD,
  zD,
  zD,
  zD,
  zD,
  zD,
  zD,
  zD,
  zD,
  zD,
  zD,
  zD,
  zD,
  zD,
  zD,
  zD,
  zD,
  zD,
  zD,
  zD,
  zD,
  zD,
  zD,
  zD,
  zD,
  .inr (.inr (5, [.inr (.inr (some 27)), .inr (.inr (some 28)), .inr (.inr (some 29)), .inr (.inr (some 30)), .inr (.inl 0), .inr (.inl 1), .inr (.inr (some 31)), .inl 0, .inr (.inr (some 32)), .inl 0, .inl 0, .inl 0, .inr (.inr (some 33)), .inr (.inr (some 34)), .inr (.inr (some 35)), .inr (.inr (some 36)), .inr (.inr (some 37)), .inl 0, .inr (.inr (some 38)), .inr (.inr (some 39)), .inr (.inr (some 40)), .inr (.inr (some 41)), .inr (.inr (some 42)), .inl 0, .inl 0, .inl 0, .inl 0, .inl 0, .inr (.inr (some 43)), .inr (.inr (some 44))])),
  .inl (0, [5, 2, 1, 0, 1, 2, 3, 4, 5, 6, 0, 0, 0, 0, 0, 0, 0, -1, -1, -1, -1, -1, -1, -1, 0, 0, 0, 0, 0, 0, 0, 0, 0, 0, 0, 0, 0, 0, 0, 0, 0, 0, 0, 0, 0, 0, 0, 0, 0, 0, 0, 0, 0, 0, 0, 0, 0]),
  .inl (0, List.replicate 114 0),
  .inl (2, [0, 0]),
  .inl (0, [0, 0, 0]),
  .inl (0, [0, 0, 0, 0, 0, 0, 0]),
  .inl (0, [0, 0, 0, 0, 0, 0, 0]),
  .inl (0, [0, 0, 0, 0, 0, 0, 0]),
  .inl (0, [0, 0, 0, 0, 0, 0, 0]),
  zD,
  zD,
  zD,
  .inl (0, List.replicate 49 0),
  .inl (0, [0, 0, 0, 0, 0, 0]),
  .inl (0, [0, 0, 0, 0, 0, 0, 0]),
  .inl (0, [0, 0, 0, 0, 0, 0, 0]),
  .inl (0, List.replicate 150 0),
  .inl (0, List.replicate 47 0),
  .inl (0, [0, 0])]
theorem zR_zz {f1 f2 f3 : Int} {L T : List Int} : zmg zR (zz f1 f2 f3 L T 0 0 [0, 0, 0, 0, 0, 0, 0] [0, 0, 0, 0, 0, 0, 0]) = zz f1 f2 f3 L T 0 0 [0, 0, 0, 0, 0, 0, 0] [0, 0, 0, 0, 0, 0, 0] := rfl
noncomputable def zCs (r : Int) (S : xS) : Option xS := if isO 5 S 26 = true then (bd2 (f_X6_ways 200 S 26) fun x S => if x = 120 then (if isO 5 S 26 = true then (bd2 (f_X6_takeRank 200 S 26 r) fun _ S => if isO 5 S 26 = true then (bd2 (f_X6_isSo 200 S 26) fun x S => if x = 1 then some S else none) else none) else none) else none) else none
theorem zCs_s {r : Int} {S S' : xS} (h : zCs r S = some S') : isO 5 S 26 = true ∧ ∃ S1, f_X6_ways 200 S 26 = some (120, S1) ∧ isO 5 S1 26 = true ∧ ∃ x S2, f_X6_takeRank 200 S1 26 r = some (x, S2) ∧ isO 5 S2 26 = true ∧ f_X6_isSo 200 S2 26 = some (1, S') := by
  obtain ⟨h1, h⟩ := ift h
  obtain ⟨w, S1, e1, h⟩ := ob2 h
  obtain ⟨hw, h⟩ := ift h
  rw [hw] at e1
  obtain ⟨h2, h⟩ := ift h
  obtain ⟨x, S2, e2, h⟩ := ob2 h
  obtain ⟨h3, h⟩ := ift h
  obtain ⟨y, S3, e3, h⟩ := ob2 h
  obtain ⟨hy, h⟩ := ift h
  rw [hy, Option.some.inj h] at e3
  exact ⟨h1, S1, e1, h2, x, S2, e2, h3, e3⟩
theorem mb_62 (k : Nat) (S : xS) (p : Nat) (i0 i1 i2 i3 : Int) : g_X6_mayBe (k + 2) 2 S p i0 i1 i2 i3 = g_X6_mayBe k 1 S p i0 (i1 + 1) i3 (i2 + 1) := rfl
/-- more fuel -/
theorem fu_ways {k : Nat} {S S' : xS} {x : Int} (hk : 200 ≤ k) (h : f_X6_ways 200 S 26 = some (x, S')) : f_X6_ways k S 26 = some (x, S') := by
  have := frf_X6_ways (X := []) k hk S 26 x S' h
  rwa [zmg_nil, zmg_nil] at this
theorem fu_take {k : Nat} {S S' : xS} {x r : Int} (hk : 200 ≤ k) (h : f_X6_takeRank 200 S 26 r = some (x, S')) : f_X6_takeRank k S 26 r = some (x, S') := by
  have := frf_X6_takeRank (X := []) k hk S 26 r x S' h
  rwa [zmg_nil, zmg_nil] at this
theorem fu_isSo {k : Nat} {S S' : xS} {x : Int} (hk : 200 ≤ k) (h : f_X6_isSo 200 S 26 = some (x, S')) : f_X6_isSo k S 26 = some (x, S') := by
  have := frf_X6_isSo (X := []) k hk S 26 x S' h
  rwa [zmg_nil, zmg_nil] at this
noncomputable def zIt (F : Int → xS → Option xS) (n : Nat) : Int → xS → Option xS := Nat.rec (motive := fun _ => Int → xS → Option xS) (fun _ S => some S) (fun _ ih r S => (F r S).bind fun S => ih (r + 1) S) n
theorem zIt_s {F : Int → xS → Option xS} {n : Nat} {r : Int} {S S' : xS} (h : zIt F (n + 1) r S = some S') : ∃ S1, F r S = some S1 ∧ zIt F n (r + 1) S1 = some S' := ob (show (F r S).bind (fun S => zIt F n (r + 1) S) = some S' from h)
theorem mb_6 {b : Nat} (hb : b ≤ 119) : ∀ (n k : Nat) (r i2 : Int) (S S' : xS), zIt zCs n r S = some S' → 0 ≤ r → r + n = 120 → ((b : Int) < r → i2 = b) →
    ∃ i2' : Int, i2' = b ∧ g_X6_mayBe (k + 3 * n + 300) 1 S 26 (b : Int) r i2 r = g_X6_mayBe (k + 300) 1 S' 26 (b : Int) 120 i2' 120
  | 0, k, r, i2, S, S', h, h0, hr, hi => by
    cases h
    have e : r = 120 := by omega
    subst e
    exact ⟨i2, hi (by omega), rfl⟩
  | n + 1, k, r, i2, S, S', h, h0, hr, hi => by
    obtain ⟨T, hF, hI⟩ := zIt_s h
    obtain ⟨h1, S1, e1, h2, x, S2, e2, h3, e3⟩ := zCs_s hF
    have st : g_X6_mayBe (k + 3 * (n + 1) + 300) 1 S 26 (b : Int) r i2 r = g_X6_mayBe (k + 3 * n + 302) 2 T 26 (b : Int) r r (if r = (b : Int) then r else i2) := by
      rw [show k + 3 * (n + 1) + 300 = (k + 3 * n + 302) + 1 by omega]
      show b_X6_mayBe_1 (g_X6_mayBe (k + 3 * n + 302)) (k + 3 * n + 302) S 26 (b : Int) r i2 r = _
      unfold b_X6_mayBe_1
      rw [if_pos h1, bd2_some (fu_ways (by omega) e1), if_neg (by rw [wIn (n := r) (by omega), show wI 120 = 120 from by decide]; omega), if_pos h2, bd2_some (fu_take (by omega) e2), if_pos h3, bd2_some (fu_isSo (by omega) e3), if_neg (by decide)]
      by_cases hc : r = (b : Int)
      · rw [if_pos (by rw [hc]), if_pos hc]
      · rw [if_neg (by rw [wIn (n := r) (by omega), wIn (n := (b : Int)) (by omega)]; exact hc), if_neg hc]
    obtain ⟨i2', hi', e⟩ := mb_6 hb n k (r + 1) (if r = (b : Int) then r else i2) T S' hI (by omega) (by omega) (by
      intro q
      by_cases hc : r = (b : Int)
      · rw [if_pos hc]
        exact hc
      · rw [if_neg hc]
        exact hi (by omega))
    refine ⟨i2', hi', ?_⟩
    rw [st, mb_62 (k + 3 * n + 300)]
    exact e
set_option maxRecDepth 100000 in
theorem zR_all : zAny (zIt zCs 120 0 zR) (fun S => isO 5 S 26 && zAny (f_X6_ways 200 S 26) (fun z => z.1 == 120)) = true := by decide +kernel
theorem mb_r {b : Int} (hb : 0 ≤ b ∧ b ≤ 119) : ∃ S', f_X6_mayBe 12000 zR 26 b = some (b, S') := by
  obtain ⟨S, e, h⟩ := zAny_s zR_all
  obtain ⟨h1, h⟩ := (Bool.and_eq_true _ _).mp h
  obtain ⟨⟨w, T⟩, e2, h2⟩ := zAny_s h
  have hw : w = 120 := beq_iff_eq.mp h2
  subst hw
  obtain ⟨n, hn⟩ : ∃ n : Nat, b = (n : Int) := ⟨b.toNat, by omega⟩
  obtain ⟨i2, hi, e3⟩ := mb_6 (b := n) (by omega) 120 11339 0 (-5) zR S e (by omega) (by omega) (by omega)
  rw [show 11339 + 3 * 120 + 300 = 11999 by omega, show 11339 + 300 = 11639 by omega, ← hn] at e3
  rw [← hn] at hi
  refine ⟨T, ?_⟩
  show b_X6_mayBe_0 (g_X6_mayBe 11999) 11999 zR 26 b 0 0 0 = _
  unfold b_X6_mayBe_0
  rw [if_pos (z_m1' (by omega) (by omega))]
  refine e3.trans ?_
  show b_X6_mayBe_1 (g_X6_mayBe 11638) 11638 S 26 b 120 i2 120 = _
  unfold b_X6_mayBe_1
  rw [if_pos h1, bd2_some (fu_ways (by omega) e2), if_pos (by decide), if_neg (by rw [wIn (n := b) (by omega), show wI (-1) = -1 from by decide]; omega), hi]
theorem in_30 {b : Int} (h : 0 ≤ b ∧ b ≤ 120) : zTwo (f_X5_mayBe 12000 S0 0 b) (fun S => f_X6_mayBe 12000 S 26 b) := by
  by_cases hb : 120 ≤ b
  · exact in_30b ⟨hb, by omega⟩
  · obtain ⟨n, hn⟩ : ∃ n : Nat, b = (n : Int) := ⟨b.toNat, by omega⟩
    have hS : S0 = zz 0 0 0 [0, 0, 0, 0, 0, 0, 0] [0, 0, 0, 0, 0, 0, 0] 0 0 [0, 0, 0, 0, 0, 0, 0] [0, 0, 0, 0, 0, 0, 0] := rfl
    obtain ⟨S', e6⟩ := mb_r (b := b) (by omega)
    have e6' := frf_X6_mayBe (X := zz 0 0 0 [0, 0, 0, 0, 0, 0, 0] (zQ n) 0 0 [0, 0, 0, 0, 0, 0, 0] [0, 0, 0, 0, 0, 0, 0]) 12000 (by omega) zR 26 b b S' e6
    rw [zR_zz] at e6'
    refine ⟨b, zz 0 0 0 [0, 0, 0, 0, 0, 0, 0] (zQ n) 0 0 [0, 0, 0, 0, 0, 0, 0] [0, 0, 0, 0, 0, 0, 0], b, _, ?_, zm_o5, e6', rfl⟩
    rw [hS]
    show b_X5_mayBe_0 (g_X5_mayBe 11999) 11999 (zz 0 0 0 [0, 0, 0, 0, 0, 0, 0] [0, 0, 0, 0, 0, 0, 0] 0 0 [0, 0, 0, 0, 0, 0, 0] [0, 0, 0, 0, 0, 0, 0]) 0 b 0 0 0 = _
    unfold b_X5_mayBe_0
    rw [if_pos (z_m1' (by omega) (by omega)), bind_some' zz_pr, bind_some' zz_bx, bind_some' zz_pt, bd2_some (zz_first (k := 11992) rfl)]
    have := mb_5 (f1 := 0) (f2 := 0) (f3 := 0) (L := [0, 0, 0, 0, 0, 0, 0]) (g1 := 0) (g2 := 0) (W := [0, 0, 0, 0, 0, 0, 0]) (B := [0, 0, 0, 0, 0, 0, 0]) (b := n) (by omega) n (11899 - 2 * n) 0 (by omega)
    rw [show 11899 - 2 * n + 2 * n + 100 = 11999 by omega, ← hn] at this
    exact this
