/-! worst: the class and the reference apart, each on its own cells -/
theorem frf_X5_refuseBad {X : xS} {fu : Nat} (fv : Nat) (hk : fu ≤ fv) (S : xS) (p0 : Nat) : Fr X (f_X5_refuseBad fu S p0) (f_X5_refuseBad fv (zmg S X) p0) := by
  unfold f_X5_refuseBad
  repeat' (first
    | exact fr_some
    | exact fr_none
    | refine fr_is (by decide) ?_
    | refine fr_if ?_ ?_
    | refine fr_rd (fun _ h => rdFi_m (by decide) h) (fun _ => ?_)
    | refine fr_wr (fun _ h => wrF_m (by decide) h) (fun _ => ?_))
theorem fr_X5_findersIn {X : xS} : ∀ (k k2 : Nat), k ≤ k2 → ∀ (lb : Nat) (S : xS) (p0 : Nat) (p1 : Nat) (i0 : Int) (i1 : Int), Fr X (g_X5_findersIn k lb S p0 p1 i0 i1) (g_X5_findersIn k2 lb (zmg S X) p0 p1 i0 i1) := by
  intro k
  induction k with
  | zero => intros; exact fr_none
  | succ k ih =>
    intro k2 hk lb S p0 p1 i0 i1
    obtain ⟨k2, rfl⟩ : ∃ z, k2 = z + 1 := ⟨k2 - 1, by omega⟩
    rcases lb with _ | _ | lb
    · show Fr X (b_X5_findersIn_0 (g_X5_findersIn k) k S p0 p1 i0 i1) (b_X5_findersIn_0 (g_X5_findersIn k2) k2 (zmg S X) p0 p1 i0 i1)
      unfold b_X5_findersIn_0
      repeat' (first
        | exact fr_some
        | exact fr_none
        | exact ih _ (by omega) _ _ _ _ _ _
        | refine fr_is (by decide) ?_
        | refine fr_if ?_ ?_)
    · show Fr X (b_X5_findersIn_1 (g_X5_findersIn k) k S p0 p1 i0 i1) (b_X5_findersIn_1 (g_X5_findersIn k2) k2 (zmg S X) p0 p1 i0 i1)
      unfold b_X5_findersIn_1
      repeat' (first
        | exact fr_some
        | exact fr_none
        | exact ih _ (by omega) _ _ _ _ _ _
        | refine fr_bd2 (frf_X5_doesFind _ (by omega) _ _ _ _ _) (fun _ _ => ?_)
        | refine fr_is (by decide) ?_
        | refine fr_if ?_ ?_
        | refine fr_rd (fun _ h => rdFp_m (by decide) h) (fun _ => ?_)
        | refine fr_rd (fun _ h => rdFi_m (by decide) h) (fun _ => ?_)
        | refine fr_rd (fun _ h => rdA_m h) (fun _ => ?_))
    · show Fr X (b_X5_findersIn_2 (g_X5_findersIn k) k S p0 p1 i0 i1) (b_X5_findersIn_2 (g_X5_findersIn k2) k2 (zmg S X) p0 p1 i0 i1)
      unfold b_X5_findersIn_2
      repeat' (first
        | exact fr_some
        | exact fr_none
        | exact ih _ (by omega) _ _ _ _ _ _
        | refine fr_is (by decide) ?_
        | refine fr_if ?_ ?_)
theorem frf_X5_findersIn {X : xS} {fu : Nat} (fv : Nat) (hk : fu ≤ fv) (S : xS) (p0 : Nat) (p1 : Nat) : Fr X (f_X5_findersIn fu S p0 p1) (f_X5_findersIn fv (zmg S X) p0 p1) := fr_X5_findersIn fu fv hk _ _ _ _ _ _
theorem frf_J6_bitCount_0f7a4 {X : xS} {fu : Nat} (fv : Nat) (hk : fu ≤ fv) (S : xS) (i0 : Int) : Fr X (f_J6_bitCount_0f7a4 fu S i0) (f_J6_bitCount_0f7a4 fv (zmg S X) i0) := by
  unfold f_J6_bitCount_0f7a4
  repeat' (first
    | exact fr_some
    | exact fr_none
    | refine fr_is (by decide) ?_
    | refine fr_if ?_ ?_)
theorem fr_X5_worst {X : xS} : ∀ (k k2 : Nat), k ≤ k2 → ∀ (lb : Nat) (S : xS) (p0 : Nat) (i0 : Int) (i1 : Int) (i2 : Int) (i3 : Int) (i4 : Int), Fr X (g_X5_worst k lb S p0 i0 i1 i2 i3 i4) (g_X5_worst k2 lb (zmg S X) p0 i0 i1 i2 i3 i4) := by
  intro k
  induction k with
  | zero => intros; exact fr_none
  | succ k ih =>
    intro k2 hk lb S p0 i0 i1 i2 i3 i4
    obtain ⟨k2, rfl⟩ : ∃ z, k2 = z + 1 := ⟨k2 - 1, by omega⟩
    rcases lb with _ | _ | _ | _ | lb
    · show Fr X (b_X5_worst_0 (g_X5_worst k) k S p0 i0 i1 i2 i3 i4) (b_X5_worst_0 (g_X5_worst k2) k2 (zmg S X) p0 i0 i1 i2 i3 i4)
      unfold b_X5_worst_0
      repeat' (first
        | exact fr_some
        | exact fr_none
        | exact ih _ (by omega) _ _ _ _ _ _ _ _
        | refine fr_bd2 (frf_X5_refuseBad _ (by omega) _ _) (fun _ _ => ?_)
        | refine fr_is (by decide) ?_
        | refine fr_if ?_ ?_)
    · show Fr X (b_X5_worst_1 (g_X5_worst k) k S p0 i0 i1 i2 i3 i4) (b_X5_worst_1 (g_X5_worst k2) k2 (zmg S X) p0 i0 i1 i2 i3 i4)
      unfold b_X5_worst_1
      repeat' (first
        | exact fr_some
        | exact fr_none
        | exact ih _ (by omega) _ _ _ _ _ _ _ _
        | refine fr_bd2 (frf_X4_setToFirst _ (by omega) _ _ _) (fun _ _ => ?_)
        | refine fr_is (by decide) ?_
        | refine fr_if ?_ ?_
        | refine fr_rd (fun _ h => rdFp_m (by decide) h) (fun _ => ?_)
        | refine fr_rd (fun _ h => rdFi_m (by decide) h) (fun _ => ?_))
    · show Fr X (b_X5_worst_2 (g_X5_worst k) k S p0 i0 i1 i2 i3 i4) (b_X5_worst_2 (g_X5_worst k2) k2 (zmg S X) p0 i0 i1 i2 i3 i4)
      unfold b_X5_worst_2
      repeat' (first
        | exact fr_some
        | exact fr_none
        | exact ih _ (by omega) _ _ _ _ _ _ _ _
        | refine fr_bd2 (frf_X5_refuseNo _ (by omega) _ _) (fun _ _ => ?_)
        | refine fr_bd2 (frf_X5_mayTrialBe _ (by omega) _ _) (fun _ _ => ?_)
        | refine fr_bd2 (frf_X5_findersIn _ (by omega) _ _ _) (fun _ _ => ?_)
        | refine fr_bd2 (frf_J6_bitCount_0f7a4 _ (by omega) _ _) (fun _ _ => ?_)
        | refine fr_is (by decide) ?_
        | refine fr_if ?_ ?_
        | refine fr_rd (fun _ h => h) (fun _ => ?_)
        | refine fr_rd (fun _ h => rdFp_m (by decide) h) (fun _ => ?_))
    · show Fr X (b_X5_worst_3 (g_X5_worst k) k S p0 i0 i1 i2 i3 i4) (b_X5_worst_3 (g_X5_worst k2) k2 (zmg S X) p0 i0 i1 i2 i3 i4)
      unfold b_X5_worst_3
      repeat' (first
        | exact fr_some
        | exact fr_none
        | exact ih _ (by omega) _ _ _ _ _ _ _ _
        | refine fr_is (by decide) ?_
        | refine fr_if ?_ ?_)
    · show Fr X (b_X5_worst_4 (g_X5_worst k) k S p0 i0 i1 i2 i3 i4) (b_X5_worst_4 (g_X5_worst k2) k2 (zmg S X) p0 i0 i1 i2 i3 i4)
      unfold b_X5_worst_4
      repeat' (first
        | exact fr_some
        | exact fr_none
        | exact ih _ (by omega) _ _ _ _ _ _ _ _
        | refine fr_bd2 (frf_X4_setToNext _ (by omega) _ _ _) (fun _ _ => ?_)
        | refine fr_is (by decide) ?_
        | refine fr_if ?_ ?_
        | refine fr_rd (fun _ h => rdFp_m (by decide) h) (fun _ => ?_))
theorem frf_X5_worst {X : xS} {fu : Nat} (fv : Nat) (hk : fu ≤ fv) (S : xS) (p0 : Nat) (i0 : Int) : Fr X (f_X5_worst fu S p0 i0) (f_X5_worst fv (zmg S X) p0 i0) := fr_X5_worst fu fv hk _ _ _ _ _ _ _ _
theorem fr_X6_bits {X : xS} : ∀ (k k2 : Nat), k ≤ k2 → ∀ (lb : Nat) (S : xS) (i0 : Int) (i1 : Int), Fr X (g_X6_bits k lb S i0 i1) (g_X6_bits k2 lb (zmg S X) i0 i1) := by
  intro k
  induction k with
  | zero => intros; exact fr_none
  | succ k ih =>
    intro k2 hk lb S i0 i1
    obtain ⟨k2, rfl⟩ : ∃ z, k2 = z + 1 := ⟨k2 - 1, by omega⟩
    rcases lb with _ | lb
    · show Fr X (b_X6_bits_0 (g_X6_bits k) k S i0 i1) (b_X6_bits_0 (g_X6_bits k2) k2 (zmg S X) i0 i1)
      unfold b_X6_bits_0
      repeat' (first
        | exact fr_some
        | exact fr_none
        | exact ih _ (by omega) _ _ _ _
        | refine fr_is (by decide) ?_
        | refine fr_if ?_ ?_)
    · show Fr X (b_X6_bits_1 (g_X6_bits k) k S i0 i1) (b_X6_bits_1 (g_X6_bits k2) k2 (zmg S X) i0 i1)
      unfold b_X6_bits_1
      repeat' (first
        | exact fr_some
        | exact fr_none
        | exact ih _ (by omega) _ _ _ _
        | refine fr_is (by decide) ?_
        | refine fr_if ?_ ?_)
theorem frf_X6_bits {X : xS} {fu : Nat} (fv : Nat) (hk : fu ≤ fv) (S : xS) (i0 : Int) : Fr X (f_X6_bits fu S i0) (f_X6_bits fv (zmg S X) i0) := fr_X6_bits fu fv hk _ _ _ _
theorem fr_X6_worst {X : xS} : ∀ (k k2 : Nat), k ≤ k2 → ∀ (lb : Nat) (S : xS) (p0 : Nat) (i0 : Int) (i1 : Int) (i2 : Int) (i3 : Int) (i4 : Int), Fr X (g_X6_worst k lb S p0 i0 i1 i2 i3 i4) (g_X6_worst k2 lb (zmg S X) p0 i0 i1 i2 i3 i4) := by
  intro k
  induction k with
  | zero => intros; exact fr_none
  | succ k ih =>
    intro k2 hk lb S p0 i0 i1 i2 i3 i4
    obtain ⟨k2, rfl⟩ : ∃ z, k2 = z + 1 := ⟨k2 - 1, by omega⟩
    rcases lb with _ | _ | _ | _ | lb
    · show Fr X (b_X6_worst_0 (g_X6_worst k) k S p0 i0 i1 i2 i3 i4) (b_X6_worst_0 (g_X6_worst k2) k2 (zmg S X) p0 i0 i1 i2 i3 i4)
      unfold b_X6_worst_0
      repeat' (first
        | exact fr_some
        | exact fr_none
        | exact ih _ (by omega) _ _ _ _ _ _ _ _
        | refine fr_bd2 (frf_X6_in _ (by omega) _ _ _ _) (fun _ _ => ?_)
        | refine fr_bd2 (frf_X6_bad _ (by omega) _ _ _) (fun _ _ => ?_)
        | refine fr_is (by decide) ?_
        | refine fr_if ?_ ?_)
    · show Fr X (b_X6_worst_1 (g_X6_worst k) k S p0 i0 i1 i2 i3 i4) (b_X6_worst_1 (g_X6_worst k2) k2 (zmg S X) p0 i0 i1 i2 i3 i4)
      unfold b_X6_worst_1
      repeat' (first
        | exact fr_some
        | exact fr_none
        | exact ih _ (by omega) _ _ _ _ _ _ _ _
        | refine fr_bd2 (frf_X6_ways _ (by omega) _ _) (fun _ _ => ?_)
        | refine fr_bd2 (frf_X6_no _ (by omega) _ _) (fun _ _ => ?_)
        | refine fr_bd2 (frf_X6_takeRank _ (by omega) _ _ _) (fun _ _ => ?_)
        | refine fr_bd2 (frf_X6_isSo _ (by omega) _ _) (fun _ _ => ?_)
        | refine fr_bd2 (frf_X6_findsHand _ (by omega) _ _) (fun _ _ => ?_)
        | refine fr_bd2 (frf_X6_bits _ (by omega) _ _) (fun _ _ => ?_)
        | refine fr_is (by decide) ?_
        | refine fr_if ?_ ?_)
    · show Fr X (b_X6_worst_2 (g_X6_worst k) k S p0 i0 i1 i2 i3 i4) (b_X6_worst_2 (g_X6_worst k2) k2 (zmg S X) p0 i0 i1 i2 i3 i4)
      unfold b_X6_worst_2
      repeat' (first
        | exact fr_some
        | exact fr_none
        | exact ih _ (by omega) _ _ _ _ _ _ _ _
        | refine fr_is (by decide) ?_
        | refine fr_if ?_ ?_)
    · show Fr X (b_X6_worst_3 (g_X6_worst k) k S p0 i0 i1 i2 i3 i4) (b_X6_worst_3 (g_X6_worst k2) k2 (zmg S X) p0 i0 i1 i2 i3 i4)
      unfold b_X6_worst_3
      repeat' (first
        | exact fr_some
        | exact fr_none
        | exact ih _ (by omega) _ _ _ _ _ _ _ _
        | refine fr_is (by decide) ?_
        | refine fr_if ?_ ?_)
    · show Fr X (b_X6_worst_4 (g_X6_worst k) k S p0 i0 i1 i2 i3 i4) (b_X6_worst_4 (g_X6_worst k2) k2 (zmg S X) p0 i0 i1 i2 i3 i4)
      unfold b_X6_worst_4
      repeat' (first
        | exact fr_some
        | exact fr_none
        | exact ih _ (by omega) _ _ _ _ _ _ _ _
        | refine fr_is (by decide) ?_
        | refine fr_if ?_ ?_)
theorem frf_X6_worst {X : xS} {fu : Nat} (fv : Nat) (hk : fu ≤ fv) (S : xS) (p0 : Nat) (i0 : Int) : Fr X (f_X6_worst fu S p0 i0) (f_X6_worst fv (zmg S X) p0 i0) := fr_X6_worst fu fv hk _ _ _ _ _ _ _ _
theorem zS0a_S0 : zmg S0a S0 = S0 := rfl
def yW0 : xS := [.inr (.inr (4, [.inr (.inr (some 1)), .inr (.inr (some 10)), .inr (.inr (some 19)), .inr (.inr (some 20)), .inr (.inr (some 22)), .inr (.inr (some 24)), .inr (.inr (some 25)), .inr (.inr none), .inr (.inl 0), .inr (.inl 1), .inl 0, .inl 0, .inl 0])),
  .inr (.inr (1, [.inl 5, .inl 2, .inl 1, .inr (.inr (some 2)), .inr (.inr (some 3)), .inr (.inr (some 4)), .inl 0, .inr (.inr (some 5)), .inr (.inr (some 6)), .inl 0, .inr (.inr (some 7)), .inl 0, .inr (.inr (some 8)), .inr (.inr (some 9))])),
  .inl (0, [0, 1, 2, 3, 4, 0, 0]),
  .inl (0, [-1, -1, -1, -1, -1, -1, -1]),
  .inl (0, [0, 0, 0, 0, 0, 0, 0]),
  .inl (0, [0, 0, 0, 0, 0, 0, 0, 0]),
  .inl (0, [0, 0, 0, 0, 0, 0, 0, 0]),
  .inl (0, [0, 0, 0, 0]),
  .inl (0, [0, 0, 0, 0, 0, 0, 0, 0, 0, 0]),
  .inl (0, [0, 0, 0, 0, 0, 0, 0]),
  .inr (.inr (1, [.inl 5, .inl 2, .inl 1, .inr (.inr (some 11)), .inr (.inr (some 12)), .inr (.inr (some 13)), .inl 0, .inr (.inr (some 14)), .inr (.inr (some 15)), .inl 0, .inr (.inr (some 16)), .inl 0, .inr (.inr (some 17)), .inr (.inr (some 18))])),
  .inl (0, [0, 1, 2, 3, 4, 0, 0]),
  .inl (0, [-1, -1, -1, -1, -1, -1, -1]),
  .inl (0, [0, 0, 0, 0, 0, 0, 0]),
  .inl (0, [0, 0, 0, 0, 0, 0, 0, 0]),
  .inl (0, [0, 0, 0, 0, 0, 0, 0, 0]),
  .inl (0, [0, 0, 0, 0]),
  .inl (0, [0, 0, 0, 0, 0, 0, 0, 0, 0, 0]),
  .inl (0, [0, 0, 0, 0, 0, 0, 0]),
  .inr (.inl (3, [none, none])),
  .inr (.inr (3, [.inr (.inr (some 21)), .inl 0, .inl 0, .inl 0, .inl 0, .inl 0])),
  .inl (1, List.replicate 150 0),
  .inr (.inr (2, [.inr (.inr (some 23)), .inl 2, .inl 1, .inl 17])),
  .inl (0, [4, 0, 0, 0, 0, 0, 0]),
  .inl (0, [0, 1, 2, 3, 4, 0, 0]),
  .inl (0, List.replicate 49 0)]
set_option maxRecDepth 100000 in
theorem yW0_5 : f_X5_worst 12000 S0a 0 0 = some (33, yW0) := zeO_s (by decide +kernel)
set_option maxRecDepth 100000 in
theorem yW0_6 : f_X6_worst 12000 zR 26 0 = some (33, ((f_X6_worst 12000 zR 26 0).getD (0, [])).2) := z_opt (by decide +kernel)
theorem zR_yW0 : zmg zR (zmg yW0 S0) = zmg yW0 S0 := rfl
theorem in_34_0 : zTwo (f_X5_worst 12000 S0 0 0) (fun S => f_X6_worst 12000 S 26 0) := by
  have e5 := frf_X5_worst (X := S0) 12000 (by omega) S0a 0 0 33 yW0 yW0_5
  rw [zS0a_S0] at e5
  have e6 := frf_X6_worst (X := zmg yW0 S0) 12000 (by omega) zR 26 0 33 _ yW0_6
  rw [zR_yW0] at e6
  exact ⟨33, zmg yW0 S0, 33, _, e5, (show isO 5 (zmg yW0 S0) 26 = true from by decide +kernel), e6, rfl⟩
def yW1 : xS := [.inr (.inr (4, [.inr (.inr (some 1)), .inr (.inr (some 10)), .inr (.inr (some 19)), .inr (.inr (some 20)), .inr (.inr (some 22)), .inr (.inr (some 24)), .inr (.inr (some 25)), .inr (.inr none), .inr (.inl 0), .inr (.inl 1), .inl 0, .inl 0, .inl 0])),
  .inr (.inr (1, [.inl 5, .inl 2, .inl 1, .inr (.inr (some 2)), .inr (.inr (some 3)), .inr (.inr (some 4)), .inl 0, .inr (.inr (some 5)), .inr (.inr (some 6)), .inl 0, .inr (.inr (some 7)), .inl 0, .inr (.inr (some 8)), .inr (.inr (some 9))])),
  .inl (0, [0, 1, 2, 3, 4, 0, 0]),
  .inl (0, [-1, -1, -1, -1, -1, -1, -1]),
  .inl (0, [0, 0, 0, 0, 0, 0, 0]),
  .inl (0, [0, 0, 0, 0, 0, 0, 0, 0]),
  .inl (0, [0, 0, 0, 0, 0, 0, 0, 0]),
  .inl (0, [0, 0, 0, 0]),
  .inl (0, [0, 0, 0, 0, 0, 0, 0, 0, 0, 0]),
  .inl (0, [0, 0, 0, 0, 0, 0, 0]),
  .inr (.inr (1, [.inl 5, .inl 2, .inl 1, .inr (.inr (some 11)), .inr (.inr (some 12)), .inr (.inr (some 13)), .inl 0, .inr (.inr (some 14)), .inr (.inr (some 15)), .inl 0, .inr (.inr (some 16)), .inl 0, .inr (.inr (some 17)), .inr (.inr (some 18))])),
  .inl (0, [0, 1, 2, 3, 4, 0, 0]),
  .inl (0, [-1, -1, -1, -1, -1, -1, -1]),
  .inl (0, [0, 0, 0, 0, 0, 0, 0]),
  .inl (0, [0, 0, 0, 0, 0, 0, 0, 0]),
  .inl (0, [0, 0, 0, 0, 0, 0, 0, 0]),
  .inl (0, [0, 0, 0, 0]),
  .inl (0, [0, 0, 0, 0, 0, 0, 0, 0, 0, 0]),
  .inl (0, [0, 0, 0, 0, 0, 0, 0]),
  .inr (.inl (3, [none, none])),
  .inr (.inr (3, [.inr (.inr (some 21)), .inl 0, .inl 0, .inl 0, .inl 0, .inl 0])),
  .inl (1, List.replicate 150 0),
  .inr (.inr (2, [.inr (.inr (some 23)), .inl 2, .inl 1, .inl 17])),
  .inl (0, [4, 0, 0, 0, 0, 0, 0]),
  .inl (0, [0, 1, 2, 3, 4, 0, 0]),
  .inl (0, List.replicate 49 0)]
set_option maxRecDepth 100000 in
theorem yW1_5 : f_X5_worst 12000 S0a 0 1 = some (0, yW1) := zeO_s (by decide +kernel)
set_option maxRecDepth 100000 in
theorem yW1_6 : f_X6_worst 12000 zR 26 1 = some (0, ((f_X6_worst 12000 zR 26 1).getD (0, [])).2) := z_opt (by decide +kernel)
theorem zR_yW1 : zmg zR (zmg yW1 S0) = zmg yW1 S0 := rfl
theorem in_34_1 : zTwo (f_X5_worst 12000 S0 0 1) (fun S => f_X6_worst 12000 S 26 1) := by
  have e5 := frf_X5_worst (X := S0) 12000 (by omega) S0a 0 1 0 yW1 yW1_5
  rw [zS0a_S0] at e5
  have e6 := frf_X6_worst (X := zmg yW1 S0) 12000 (by omega) zR 26 1 0 _ yW1_6
  rw [zR_yW1] at e6
  exact ⟨0, zmg yW1 S0, 0, _, e5, (show isO 5 (zmg yW1 S0) 26 = true from by decide +kernel), e6, rfl⟩
theorem in_34 {b : Int} (h : 0 ≤ b ∧ b ≤ 1) : zTwo (f_X5_worst 12000 S0 0 b) (fun S => f_X6_worst 12000 S 26 b) := by
  rcases (show b = 0 ∨ b = 1 by omega) with rfl | rfl
  · exact in_34_0
  · exact in_34_1
