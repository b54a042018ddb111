theorem bd2_none {α σ β : Type} {f : α → σ → Option β} : bd2 none f = none := rfl
/-! opened behind the first, mayBe behind the last, laid -/
noncomputable def zOp6 (S : xS) (a : Int) : Bool := match f_X6_isBox 11999 S 26 a with
  | none => false
  | some z1 => z1.1 == 1 && (isO 5 z1.2 26 && (match f_X6_takeNow 11999 z1.2 26 with
    | none => false
    | some z2 => isO 5 z2.2 26 && (match f_X6_seek 11999 z2.2 26 a with
      | none => false
      | some z3 => rdFi 5 9 z3.2 26 == some 1)))
theorem z_op6 {S : xS} {a y : Int} (hy : -2147483648 ≤ y ∧ y < 2147483648) (h1 : 1 ≤ y) (h5 : isO 5 S 26 = true) (h : zOp6 S a = true) : ∃ S2, f_X6_opened 12000 S 26 a y = some (-5, S2) := by
  unfold zOp6 at h
  split at h
  · cases h
  · next z1 e1 =>
    obtain ⟨a1, k1⟩ := (Bool.and_eq_true _ _).mp h
    obtain ⟨a2, k2⟩ := (Bool.and_eq_true _ _).mp k1
    split at k2
    · cases k2
    · next z2 e2 =>
      obtain ⟨a3, k3⟩ := (Bool.and_eq_true _ _).mp k2
      split at k3
      · cases k3
      · next z3 e3 =>
        have b1 : z1.1 = 1 := beq_iff_eq.mp a1
        have b3 : rdFi 5 9 z3.2 26 = some 1 := beq_iff_eq.mp k3
        refine ⟨z3.2, ?_⟩
        show b_X6_opened_0 (g_X6_opened 11999) 11999 S 26 a y = _
        unfold b_X6_opened_0
        rw [if_pos h5, bd2_some (x := z1.1) (s := z1.2) e1, b1, if_neg (by decide), if_pos (z_m1' hy (by omega)), if_pos a2, bd2_some (x := z2.1) (s := z2.2) e2, if_pos a3, bd2_some (x := z3.1) (s := z3.2) e3, if_neg (by rw [wI_id hy.1 hy.2, show wI (-1) = -1 from by decide]; omega), bind_some' b3, if_pos (by rw [wI_id hy.1 hy.2, show wI 1 = 1 from by decide]; omega)]
def zAny {α : Type} (o : Option α) (p : α → Bool) : Bool := match o with
  | none => false
  | some z => p z
theorem zAny_s {α : Type} {o : Option α} {p : α → Bool} (h : zAny o p = true) : ∃ z, o = some z ∧ p z = true := by
  cases o with
  | none => cases h
  | some z => exact ⟨z, rfl, h⟩
noncomputable def zOp5 (a : Int) (z : Int × xS) : Bool := rdA 0 S0 4 a == some 0 && (rdFp 4 4 z.2 0 == some 22 && (rdFi 2 1 z.2 22 == some 1 && (isO 5 z.2 26 && zOp6 z.2 a)))
set_option maxRecDepth 100000 in
theorem z_15k : ∀ a : Nat, a < 5 → zAny (f_X2_seek 11999 S0 22 1 2 (a : Int) 0) (zOp5 (a : Int)) = true := by decide +kernel
theorem z_15c {x y : Int} (hx : 0 ≤ x ∧ x ≤ 4) (hy : -2147483648 ≤ y ∧ y < 2147483648) (h1 : 1 ≤ y) {z : Int × xS} (e : f_X2_seek 11999 S0 22 1 2 x 0 = some z) (h : zOp5 x z = true) : zTwo (f_X5_opened 12000 S0 0 x y) (fun S => f_X6_opened 12000 S 26 x y) := by
  obtain ⟨u, T⟩ := z
  obtain ⟨a1, k1⟩ := (Bool.and_eq_true _ _).mp h
  obtain ⟨a2, k2⟩ := (Bool.and_eq_true _ _).mp k1
  obtain ⟨a3, k3⟩ := (Bool.and_eq_true _ _).mp k2
  obtain ⟨a4, k4⟩ := (Bool.and_eq_true _ _).mp k3
  obtain ⟨S2, h6⟩ := z_op6 hy h1 a4 k4
  refine ⟨-5, T, -5, S2, ?_, a4, h6, rfl⟩
  show b_X5_opened_0 (g_X5_opened 11999) 11999 S0 0 x y = _
  unfold b_X5_opened_0
  rw [z_cb0 (z_nb0 (by omega) 11997 (by omega)), if_pos (z_m1' hy (by omega)), bind_some' (show rdFp 4 4 S0 0 = some 22 from by decide +kernel), bind_some' (show rdFp 4 0 S0 0 = some 1 from by decide +kernel), bind_some' (show rdFp 4 0 S0 0 = some 1 from by decide +kernel), bind_some' (show rdFp 1 3 S0 1 = some 2 from by decide +kernel), bind_some' (show rdFp 4 0 S0 0 = some 1 from by decide +kernel), bind_some' (show rdFp 1 5 S0 1 = some 4 from by decide +kernel), bind_some' (beq_iff_eq.mp a1), if_pos (show isO 2 S0 22 = true from by decide +kernel), bd2_some e, if_neg (by rw [wI_id hy.1 hy.2, show wI (-1) = -1 from by decide]; omega), bind_some' (beq_iff_eq.mp a2), bind_some' (beq_iff_eq.mp a3), if_pos (by rw [wI_id hy.1 hy.2, show wI 1 = 1 from by decide]; omega)]
theorem in_15b {x y : Int} (hx : 0 ≤ x ∧ x ≤ 4) (hy : -2147483648 ≤ y ∧ y < 2147483648) (h1 : 1 ≤ y) : zTwo (f_X5_opened 12000 S0 0 x y) (fun S => f_X6_opened 12000 S 26 x y) := by
  obtain ⟨z, e, h⟩ := zAny_s (z_15k x.toNat (by omega))
  rw [show ((x.toNat : Nat) : Int) = x by omega] at e h
  exact z_15c hx hy h1 e h
set_option maxRecDepth 100000 in
theorem in_15a {x y : Int} (hx : 0 ≤ x ∧ x ≤ 4) (hy : -1 ≤ y ∧ y ≤ 0) : zTwo (f_X5_opened 12000 S0 0 x y) (fun S => f_X6_opened 12000 S 26 x y) := by
  have key : ∀ a : Nat, a < 5 → ∀ b : Nat, b < 2 → zChk (f_X5_opened 12000 S0 0 (a : Int) (-(b : Int))) (fun S => f_X6_opened 12000 S 26 (a : Int) (-(b : Int))) = true := by decide +kernel
  obtain ⟨a, rfl⟩ : ∃ a : Nat, x = (a : Int) := ⟨x.toNat, by omega⟩
  obtain ⟨b, rfl⟩ : ∃ b : Nat, y = -(b : Int) := ⟨(-y).toNat, by omega⟩
  exact zTwo_of (key a (by omega) b (by omega))
/-- mayBe: behind the last the class answers alike -/
theorem z_mb5 {x x' : Int} (hx : 120 ≤ x ∧ x < 2147483648) (hx' : 120 ≤ x' ∧ x' < 2147483648) : ∀ k : Nat, (∀ (S : xS) (i2 i3 : Int), 0 ≤ i2 → i2 ≤ i3 → i3 ≤ 120 → g_X5_mayBe k 1 S 0 x 5 i2 i3 = g_X5_mayBe k 1 S 0 x' 5 i2 i3) ∧ (∀ (S : xS) (i2 i3 : Int), 0 ≤ i2 → i2 ≤ i3 + 1 → i3 < 120 → g_X5_mayBe k 2 S 0 x 5 i2 i3 = g_X5_mayBe k 2 S 0 x' 5 i2 i3) := by
  intro k
  induction k with
  | zero => exact ⟨fun _ _ _ _ _ _ => rfl, fun _ _ _ _ _ _ => rfl⟩
  | succ k ih =>
    obtain ⟨ih1, ih2⟩ := ih
    refine ⟨?_, ?_⟩
    · intro S i2 i3 h0 h1 h2
      show b_X5_mayBe_1 (g_X5_mayBe k) k S 0 x 5 i2 i3 = b_X5_mayBe_1 (g_X5_mayBe k) k S 0 x' 5 i2 i3
      unfold b_X5_mayBe_1
      rw [bind_some' (show rdT 5 = some 120 from by decide), bind_some' (show rdT 5 = some 120 from by decide)]
      by_cases hc : wI 120 ≤ wI i3
      · rw [if_pos hc, if_pos hc, if_neg (by rw [wI_id (by omega) hx.2, show wI (-1) = -1 from by decide]; omega), if_neg (by rw [wI_id (by omega) hx'.2, show wI (-1) = -1 from by decide]; omega)]
      · rw [if_neg hc, if_neg hc]
        rw [wI_id (z := i3) (by omega) (by omega), show wI 120 = 120 from by decide] at hc
        by_cases ho : isO 4 S 0 = true
        · rw [if_pos ho, if_pos ho]
          cases hm : f_X5_mayTrialBe k S 0 with
          | none => rfl
          | some z =>
            obtain ⟨r, T⟩ := z
            show (if wI r = 0 then g_X5_mayBe k 2 T 0 x 5 i2 i3 else (if wI i2 = wI x then some (i3, T) else g_X5_mayBe k 2 T 0 x 5 (i2 + 1) i3)) = (if wI r = 0 then g_X5_mayBe k 2 T 0 x' 5 i2 i3 else (if wI i2 = wI x' then some (i3, T) else g_X5_mayBe k 2 T 0 x' 5 (i2 + 1) i3))
            by_cases hr : wI r = 0
            · rw [if_pos hr, if_pos hr]
              exact ih2 T i2 i3 h0 (by omega) (by omega)
            · rw [if_neg hr, if_neg hr, if_neg (by rw [wI_id (by omega) (by omega), wI_id (by omega) hx.2]; omega), if_neg (by rw [wI_id (by omega) (by omega), wI_id (by omega) hx'.2]; omega)]
              exact ih2 T (i2 + 1) i3 (by omega) (by omega) (by omega)
        · rw [if_neg ho, if_neg ho]
    · intro S i2 i3 h0 h1 h2
      show b_X5_mayBe_2 (g_X5_mayBe k) k S 0 x 5 i2 i3 = b_X5_mayBe_2 (g_X5_mayBe k) k S 0 x' 5 i2 i3
      unfold b_X5_mayBe_2
      cases hq : rdFp 4 5 S 0 with
      | none => rfl
      | some q =>
        show bd2 (f_X4_setToNext k S q 5) (fun z31 S29 => g_X5_mayBe k 1 S29 0 x 5 i2 (i3 + 1)) = bd2 (f_X4_setToNext k S q 5) (fun z31 S29 => g_X5_mayBe k 1 S29 0 x' 5 i2 (i3 + 1))
        cases hn : f_X4_setToNext k S q 5 with
        | none => rw [bd2_none, bd2_none]
        | some z => exact ih1 z.2 i2 (i3 + 1) h0 h1 (by omega)
theorem z_mb5t {x : Int} (hx : 120 ≤ x ∧ x < 2147483648) : f_X5_mayBe 12000 S0 0 x = f_X5_mayBe 12000 S0 0 120 := by
  show b_X5_mayBe_0 (g_X5_mayBe 11999) 11999 S0 0 x 0 0 0 = b_X5_mayBe_0 (g_X5_mayBe 11999) 11999 S0 0 120 0 0 0
  unfold b_X5_mayBe_0
  rw [if_pos (z_m1' (by omega) (by omega)), if_pos (by decide), bind_some' (show rdFp 4 0 S0 0 = some 1 from by decide +kernel), bind_some' (show rdFp 4 0 S0 0 = some 1 from by decide +kernel), bind_some' (show rdFi 1 0 S0 1 = some 5 from by decide +kernel), bind_some' (show rdFi 1 0 S0 1 = some 5 from by decide +kernel), bind_some' (show rdFp 4 5 S0 0 = some 24 from by decide +kernel), bind_some' (show rdFp 4 5 S0 0 = some 24 from by decide +kernel)]
  generalize f_X4_setToFirst 11999 S0 24 5 = w
  cases w with
  | none => rw [bd2_none, bd2_none]
  | some z => exact (z_mb5 hx (by omega) 11999).1 z.2 0 0 (by omega) (by omega) (by omega)
/-- the reference's, where it has 120 ways at each turn -/
noncomputable def zHs (rc : Nat → xS → Nat → Int → Int → Int → Int → Option (Int × xS)) (fu lb : Nat) (S : xS) (p : Nat) (i0 i1 i2 i3 : Int) : Option (Int × xS) :=
  if lb = 1 ∧ (f_X6_ways fu S p).map Prod.fst ≠ some 120 then none else s_X6_mayBe rc fu lb S p i0 i1 i2 i3
noncomputable def zH (k : Nat) : Nat → xS → Nat → Int → Int → Int → Int → Option (Int × xS) := Nat.rec (motive := fun _ => Nat → xS → Nat → Int → Int → Int → Int → Option (Int × xS)) (fun _ _ _ _ _ _ _ => none) (fun fu rc => zHs rc fu) k
theorem z_h6 {x : Int} (hx : 120 ≤ x ∧ x < 2147483648) (r : Int × xS) : ∀ k : Nat,
    (∀ (S : xS) (i1 i2 i3 : Int), 0 ≤ i1 → i1 ≤ i3 → i3 ≤ 120 → zH k 1 S 26 120 i1 i2 i3 = some r → g_X6_mayBe k 1 S 26 x i1 i2 i3 = some r) ∧
    (∀ (S : xS) (i1 i2 i3 : Int), 0 ≤ i1 → i1 ≤ i2 → i2 < 120 → zH k 2 S 26 120 i1 i2 i3 = some r → g_X6_mayBe k 2 S 26 x i1 i2 i3 = some r) ∧
    (∀ (S : xS) (i1 i2 i3 : Int), 0 ≤ i1 → i1 ≤ i3 + 1 → i3 < 120 → zH k 3 S 26 120 i1 i2 i3 = some r → g_X6_mayBe k 3 S 26 x i1 i2 i3 = some r) := by
  intro k
  induction k with
  | zero => exact ⟨fun _ _ _ _ _ _ _ h => (by cases h), fun _ _ _ _ _ _ _ h => (by cases h), fun _ _ _ _ _ _ _ h => (by cases h)⟩
  | succ k ih =>
    obtain ⟨ih1, ih2, ih3⟩ := ih
    refine ⟨?_, ?_, ?_⟩
    · intro S i1 i2 i3 h0 h1 h2 h
      replace h : (if 1 = 1 ∧ (f_X6_ways k S 26).map Prod.fst ≠ some 120 then none else b_X6_mayBe_1 (zH k) k S 26 120 i1 i2 i3) = some r := h
      show b_X6_mayBe_1 (g_X6_mayBe k) k S 26 x i1 i2 i3 = _
      obtain ⟨hw, h⟩ := ifz h
      unfold b_X6_mayBe_1 at h ⊢
      obtain ⟨ho, h⟩ := ift h
      rw [if_pos ho]
      obtain ⟨w, T, e1, h⟩ := ob2 h
      rw [bd2_some e1]
      have hw2 : w = 120 := by
        rw [e1] at hw
        by_cases q : w = 120
        · exact q
        · exact absurd ⟨rfl, fun c => q (Option.some.inj c)⟩ hw
      subst hw2
      by_cases hc : wI 120 ≤ wI i3
      · rw [if_pos hc] at h ⊢
        rw [if_neg (by decide)] at h
        rw [if_neg (by rw [wI_id (by omega) hx.2, show wI (-1) = -1 from by decide]; omega)]
        exact h
      · rw [if_neg hc] at h ⊢
        rw [wI_id (z := i3) (by omega) (by omega), show wI 120 = 120 from by decide] at hc
        obtain ⟨h3, h⟩ := ift h
        rw [if_pos h3]
        obtain ⟨u, T2, e2, h⟩ := ob2 h
        rw [bd2_some e2]
        obtain ⟨h4, h⟩ := ift h
        rw [if_pos h4]
        obtain ⟨v, T3, e3, h⟩ := ob2 h
        rw [bd2_some e3]
        by_cases hv : wI v = 0
        · rw [if_pos hv] at h ⊢
          exact ih3 T3 i1 i2 i3 h0 (by omega) (by omega) h
        · rw [if_neg hv] at h ⊢
          rw [if_neg (by rw [wI_id (by omega) (by omega), show wI 120 = 120 from by decide]; omega)] at h
          rw [if_neg (by rw [wI_id (by omega) (by omega), wI_id (by omega) hx.2]; omega)]
          exact ih2 T3 i1 i3 i2 h0 (by omega) (by omega) h
    · intro S i1 i2 i3 h0 h1 h2 h
      replace h : (if 2 = 1 ∧ (f_X6_ways k S 26).map Prod.fst ≠ some 120 then none else zH k 3 S 26 120 (i1 + 1) i3 i2) = some r := h
      rw [if_neg (by intro c; exact absurd c.1 (by decide))] at h
      show g_X6_mayBe k 3 S 26 x (i1 + 1) i3 i2 = _
      exact ih3 S (i1 + 1) i3 i2 (by omega) (by omega) (by omega) h
    · intro S i1 i2 i3 h0 h1 h2 h
      replace h : (if 3 = 1 ∧ (f_X6_ways k S 26).map Prod.fst ≠ some 120 then none else zH k 1 S 26 120 i1 i2 (i3 + 1)) = some r := h
      rw [if_neg (by intro c; exact absurd c.1 (by decide))] at h
      show g_X6_mayBe k 1 S 26 x i1 i2 (i3 + 1) = _
      exact ih1 S i1 i2 (i3 + 1) h0 (by omega) (by omega) h
noncomputable def zHc : Bool := match f_X5_mayBe 12000 S0 0 120 with
  | none => false
  | some z => isO 5 z.2 26 && (match zH 11999 1 z.2 26 120 0 (-5) 0 with
    | none => false
    | some w => wI z.1 == wI w.1)
set_option maxRecDepth 100000 in
theorem in_30b {x : Int} (hx : 120 ≤ x ∧ x < 2147483648) : zTwo (f_X5_mayBe 12000 S0 0 x) (fun S => f_X6_mayBe 12000 S 26 x) := by
  have h : zHc = true := by decide +kernel
  unfold zHc at h
  split at h
  · cases h
  · next z e =>
    obtain ⟨h1, h⟩ := (Bool.and_eq_true _ _).mp h
    split at h
    · cases h
    · next w e2 =>
      refine ⟨z.1, z.2, w.1, w.2, (z_mb5t hx).trans e, h1, ?_, beq_iff_eq.mp h⟩
      show b_X6_mayBe_0 (g_X6_mayBe 11999) 11999 z.2 26 x 0 0 0 = _
      unfold b_X6_mayBe_0
      rw [if_pos (z_m1' (by omega) (by omega))]
      exact (z_h6 hx w 11999).1 z.2 0 (-5) 0 (by omega) (by omega) (by omega) e2
