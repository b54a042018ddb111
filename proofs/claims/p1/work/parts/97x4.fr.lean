/-! a store with unknown cells (zD), and the stores that fill them: a run on the first, with some fuel, is a run on the others, with any more fuel -/
def zD : xC := .inr (.inr (99, []))
def zD99 (c : xC) : Bool := match c with
  | .inr (.inr (k, _)) => k == 99
  | _ => false
def zmg : xS → xS → xS
  | [], X => X
  | a :: S, [] => a :: S
  | a :: S, b :: X => (if zD99 a = true then b else a) :: zmg S X
theorem zmg_nil : ∀ S : xS, zmg S [] = S
  | [] => rfl
  | _ :: _ => rfl
theorem zmg_get : ∀ (S X : xS) (q : Nat) (a : xC), lGet S q = some a → zD99 a = false → lGet (zmg S X) q = some a
  | [], _, _, _, h, _ => by cases h
  | _ :: _, [], _, _, h, _ => h
  | b :: S, c :: X, 0, a, h, ha => by
    have e : b = a := Option.some.inj h
    subst e
    show some (if zD99 b = true then c else b) = some b
    rw [if_neg (by rw [ha]; decide)]
  | _ :: S, _ :: X, q + 1, a, h, ha => zmg_get S X q a h ha
theorem zmg_set : ∀ (S X : xS) (q : Nat) (a c : xC), lGet S q = some a → zD99 c = false → lSet (zmg S X) q c = zmg (lSet S q c) X
  | [], _, _, _, _, h, _ => by cases h
  | _ :: _, [], 0, _, _, _, _ => rfl
  | _ :: _, [], _ + 1, _, _, _, _ => rfl
  | b :: S, d :: X, 0, a, c, h, hc => by
    show c :: zmg S X = (if zD99 c = true then d else c) :: zmg S X
    rw [if_neg (by rw [hc]; decide)]
  | b :: S, d :: X, q + 1, a, c, h, hc => by
    show (if zD99 b = true then d else b) :: lSet (zmg S X) q c = (if zD99 b = true then d else b) :: zmg (lSet S q c) X
    rw [zmg_set S X q a c h hc]
theorem rdA_m {X : xS} {k : Nat} {S : xS} {q : Nat} {i v : Int} (h : rdA k S q i = some v) : rdA k (zmg S X) q i = some v := by
  unfold rdA at h ⊢
  split at h
  · next k' L hq =>
    rw [zmg_get S X q _ hq rfl]
    exact h
  · cases h
theorem rdP_m {X : xS} {k : Nat} {S : xS} {q : Nat} {i : Int} {v : Option Nat} (h : rdP k S q i = some v) : rdP k (zmg S X) q i = some v := by
  unfold rdP at h ⊢
  split at h
  · next k' L hq =>
    rw [zmg_get S X q _ hq rfl]
    exact h
  · cases h
theorem lenA_m {X : xS} {k : Nat} {S : xS} {q : Nat} {v : Int} (h : lenA k S q = some v) : lenA k (zmg S X) q = some v := by
  unfold lenA at h ⊢
  split at h
  · next k' L hq =>
    rw [zmg_get S X q _ hq rfl]
    exact h
  · cases h
theorem zD99_ne {c : Nat} {fs : List xV} (h : c ≠ 99) : zD99 (.inr (.inr (c, fs))) = false := beq_eq_false_iff_ne.mpr h
theorem rdF_m {X : xS} {ci k : Nat} {S : xS} {q : Nat} {v : xV} (hci : ci ≠ 99) (h : rdF ci k S q = some v) : rdF ci k (zmg S X) q = some v := by
  unfold rdF at h ⊢
  split at h
  · next c' fs hq =>
    split at h
    · next hc =>
      rw [zmg_get S X q _ hq (zD99_ne (by rw [hc]; exact hci))]
      show (if c' = ci then lGet fs k else none) = _
      rw [if_pos hc]
      exact h
    · cases h
  · cases h
theorem rdFi_m {X : xS} {ci k : Nat} {S : xS} {q : Nat} {v : Int} (hci : ci ≠ 99) (h : rdFi ci k S q = some v) : rdFi ci k (zmg S X) q = some v := by
  unfold rdFi at h ⊢
  split at h
  · next z hz =>
    rw [rdF_m hci hz]
    exact h
  · cases h
theorem rdFl_m {X : xS} {ci k : Nat} {S : xS} {q : Nat} {v : Int} (hci : ci ≠ 99) (h : rdFl ci k S q = some v) : rdFl ci k (zmg S X) q = some v := by
  unfold rdFl at h ⊢
  split at h
  · next z hz =>
    rw [rdF_m hci hz]
    exact h
  · cases h
theorem rdFr_m {X : xS} {ci k : Nat} {S : xS} {q : Nat} {v : Option Nat} (hci : ci ≠ 99) (h : rdFr ci k S q = some v) : rdFr ci k (zmg S X) q = some v := by
  unfold rdFr at h ⊢
  split at h
  · next z hz =>
    rw [rdF_m hci hz]
    exact h
  · cases h
theorem rdFp_m {X : xS} {ci k : Nat} {S : xS} {q : Nat} {v : Nat} (hci : ci ≠ 99) (h : rdFp ci k S q = some v) : rdFp ci k (zmg S X) q = some v := by
  unfold rdFp at h ⊢
  split at h
  · next z hz =>
    rw [rdF_m hci hz]
    exact h
  · cases h
theorem isO_m {X : xS} {ci : Nat} {S : xS} {q : Nat} (hci : ci ≠ 99) (h : isO ci S q = true) : isO ci (zmg S X) q = true := by
  unfold isO at h ⊢
  split at h
  · next c' fs hq =>
    have hc : c' = ci := beq_iff_eq.mp h
    rw [zmg_get S X q _ hq (zD99_ne (by rw [hc]; exact hci))]
    exact h
  · cases h
theorem wrA_m {X : xS} {k : Nat} {S S' : xS} {q : Nat} {i x : Int} (h : wrA k S q i x = some S') : wrA k (zmg S X) q i x = some (zmg S' X) := by
  unfold wrA at h ⊢
  split at h
  · next k' L hq =>
    split at h
    · next hc =>
      rw [zmg_get S X q _ hq rfl]
      show (if k' = k ∧ 0 ≤ i ∧ i < 2147483648 ∧ (lGet L i.toNat).isSome = true then some (lSet (zmg S X) q (.inl (k, lSet L i.toNat x))) else none) = _
      rw [if_pos hc, zmg_set S X q _ _ hq rfl, Option.some.inj h]
    · cases h
  · cases h
theorem wrF_m {X : xS} {ci k : Nat} {S S' : xS} {q : Nat} {v : xV} (hci : ci ≠ 99) (h : wrF ci k S q v = some S') : wrF ci k (zmg S X) q v = some (zmg S' X) := by
  unfold wrF at h ⊢
  split at h
  · next c' fs hq =>
    split at h
    · next hc =>
      rw [zmg_get S X q _ hq (zD99_ne (by rw [hc.1]; exact hci))]
      show (if c' = ci ∧ (lGet fs k).isSome = true then some (lSet (zmg S X) q (.inr (.inr (ci, lSet fs k v)))) else none) = _
      rw [if_pos hc, zmg_set S X q _ _ hq (zD99_ne hci), Option.some.inj h]
    · cases h
  · cases h
def Fr (X : xS) (o o' : Option (Int × xS)) : Prop := ∀ (r : Int) (S' : xS), o = some (r, S') → o' = some (r, zmg S' X)
theorem fr_some {X : xS} {r : Int} {S : xS} : Fr X (some (r, S)) (some (r, zmg S X)) := by
  intro r' S' h
  cases h
  rfl
theorem fr_none {X : xS} {o : Option (Int × xS)} : Fr X none o := by
  intro r S h
  cases h
theorem fr_bd2 {X : xS} {o o' : Option (Int × xS)} {f f' : Int → xS → Option (Int × xS)} (h1 : Fr X o o') (h2 : ∀ (x : Int) (S : xS), Fr X (f x S) (f' x (zmg S X))) : Fr X (bd2 o f) (bd2 o' f') := by
  intro r S' h
  obtain ⟨x, S, e, h⟩ := ob2 h
  rw [bd2_some (h1 x S e)]
  exact h2 x S r S' h
theorem fr_rd {X : xS} {α : Type} {o o' : Option α} {f f' : α → Option (Int × xS)} (h1 : ∀ v : α, o = some v → o' = some v) (h2 : ∀ v : α, Fr X (f v) (f' v)) : Fr X (o.bind f) (o'.bind f') := by
  intro r S' h
  obtain ⟨x, e, h⟩ := ob h
  rw [bind_some' (h1 x e)]
  exact h2 x r S' h
theorem fr_wr {X : xS} {o o' : Option xS} {f f' : xS → Option (Int × xS)} (h1 : ∀ S : xS, o = some S → o' = some (zmg S X)) (h2 : ∀ S : xS, Fr X (f S) (f' (zmg S X))) : Fr X (o.bind f) (o'.bind f') := by
  intro r S' h
  obtain ⟨x, e, h⟩ := ob h
  rw [bind_some' (h1 x e)]
  exact h2 x r S' h
theorem fr_if {X : xS} {c : Prop} [Decidable c] {a a' b b' : Option (Int × xS)} (ha : Fr X a a') (hb : Fr X b b') : Fr X (if c then a else b) (if c then a' else b') := by
  by_cases h : c
  · rw [if_pos h, if_pos h]
    exact ha
  · rw [if_neg h, if_neg h]
    exact hb
theorem fr_is {X : xS} {ci : Nat} {S : xS} {p : Nat} {a a' : Option (Int × xS)} (hci : ci ≠ 99) (ha : Fr X a a') : Fr X (if isO ci S p = true then a else none) (if isO ci (zmg S X) p = true then a' else none) := by
  intro r S' h
  obtain ⟨ho, h⟩ := ift h
  rw [if_pos (isO_m hci ho)]
  exact ha r S' h
theorem nmx_b {α β : Type} {a : α} {f : α → β} : nmx a f = f a := rfl
theorem frf_X4_exchange {X : xS} {fu : Nat} (fv : Nat) (hk : fu ≤ fv) (S : xS) (p0 : Nat) (i0 : Int) (i1 : Int) : Fr X (f_X4_exchange fu S p0 i0 i1) (f_X4_exchange fv (zmg S X) p0 i0 i1) := by
  unfold f_X4_exchange
  repeat' (first
    | exact fr_some
    | exact fr_none
    | refine fr_is (by decide) ?_
    | refine fr_if ?_ ?_
    | refine fr_rd (fun _ h => rdA_m h) (fun _ => ?_)
    | refine fr_wr (fun _ h => wrA_m h) (fun _ => ?_))
theorem fr_X4_setToNext {X : xS} : ∀ (k k2 : Nat), k ≤ k2 → ∀ (lb : Nat) (S : xS) (p0 : Nat) (i0 : Int) (i1 : Int) (i2 : Int), Fr X (g_X4_setToNext k lb S p0 i0 i1 i2) (g_X4_setToNext k2 lb (zmg S X) p0 i0 i1 i2) := by
  intro k
  induction k with
  | zero => intros; exact fr_none
  | succ k ih =>
    intro k2 hk lb S p0 i0 i1 i2
    obtain ⟨k2, rfl⟩ : ∃ z, k2 = z + 1 := ⟨k2 - 1, by omega⟩
    rcases lb with _ | _ | _ | _ | _ | _ | lb
    · show Fr X (b_X4_setToNext_0 (g_X4_setToNext k) k S p0 i0 i1 i2) (b_X4_setToNext_0 (g_X4_setToNext k2) k2 (zmg S X) p0 i0 i1 i2)
      unfold b_X4_setToNext_0
      repeat' (first
        | exact fr_some
        | exact fr_none
        | exact ih _ (by omega) _ _ _ _ _ _
        | refine fr_is (by decide) ?_
        | refine fr_if ?_ ?_)
    · show Fr X (b_X4_setToNext_1 (g_X4_setToNext k) k S p0 i0 i1 i2) (b_X4_setToNext_1 (g_X4_setToNext k2) k2 (zmg S X) p0 i0 i1 i2)
      unfold b_X4_setToNext_1
      repeat' (first
        | exact fr_some
        | exact fr_none
        | exact ih _ (by omega) _ _ _ _ _ _
        | refine fr_is (by decide) ?_
        | refine fr_if ?_ ?_
        | refine fr_rd (fun _ h => rdA_m h) (fun _ => ?_))
    · show Fr X (b_X4_setToNext_2 (g_X4_setToNext k) k S p0 i0 i1 i2) (b_X4_setToNext_2 (g_X4_setToNext k2) k2 (zmg S X) p0 i0 i1 i2)
      unfold b_X4_setToNext_2
      repeat' (first
        | exact fr_some
        | exact fr_none
        | exact ih _ (by omega) _ _ _ _ _ _
        | refine fr_is (by decide) ?_
        | refine fr_if ?_ ?_)
    · show Fr X (b_X4_setToNext_3 (g_X4_setToNext k) k S p0 i0 i1 i2) (b_X4_setToNext_3 (g_X4_setToNext k2) k2 (zmg S X) p0 i0 i1 i2)
      unfold b_X4_setToNext_3
      repeat' (first
        | exact fr_some
        | exact fr_none
        | exact ih _ (by omega) _ _ _ _ _ _
        | refine fr_is (by decide) ?_
        | refine fr_if ?_ ?_
        | refine fr_rd (fun _ h => rdA_m h) (fun _ => ?_))
    · show Fr X (b_X4_setToNext_4 (g_X4_setToNext k) k S p0 i0 i1 i2) (b_X4_setToNext_4 (g_X4_setToNext k2) k2 (zmg S X) p0 i0 i1 i2)
      unfold b_X4_setToNext_4
      repeat' (first
        | exact fr_some
        | exact fr_none
        | exact ih _ (by omega) _ _ _ _ _ _
        | refine fr_bd2 (frf_X4_exchange _ (by omega) _ _ _ _) (fun _ _ => ?_)
        | refine fr_is (by decide) ?_
        | refine fr_if ?_ ?_)
    · show Fr X (b_X4_setToNext_5 (g_X4_setToNext k) k S p0 i0 i1 i2) (b_X4_setToNext_5 (g_X4_setToNext k2) k2 (zmg S X) p0 i0 i1 i2)
      unfold b_X4_setToNext_5
      repeat' (first
        | exact fr_some
        | exact fr_none
        | exact ih _ (by omega) _ _ _ _ _ _
        | refine fr_is (by decide) ?_
        | refine fr_if ?_ ?_)
    · show Fr X (b_X4_setToNext_6 (g_X4_setToNext k) k S p0 i0 i1 i2) (b_X4_setToNext_6 (g_X4_setToNext k2) k2 (zmg S X) p0 i0 i1 i2)
      unfold b_X4_setToNext_6
      repeat' (first
        | exact fr_some
        | exact fr_none
        | exact ih _ (by omega) _ _ _ _ _ _
        | refine fr_bd2 (frf_X4_exchange _ (by omega) _ _ _ _) (fun _ _ => ?_)
        | refine fr_is (by decide) ?_
        | refine fr_if ?_ ?_)
theorem frf_X4_setToNext {X : xS} {fu : Nat} (fv : Nat) (hk : fu ≤ fv) (S : xS) (p0 : Nat) (i0 : Int) : Fr X (f_X4_setToNext fu S p0 i0) (f_X4_setToNext fv (zmg S X) p0 i0) := fr_X4_setToNext fu fv hk _ _ _ _ _ _
theorem fr_X2_closedFrom {X : xS} : ∀ (k k2 : Nat), k ≤ k2 → ∀ (lb : Nat) (S : xS) (p0 : Nat) (i0 : Int) (i1 : Int) (i2 : Int), Fr X (g_X2_closedFrom k lb S p0 i0 i1 i2) (g_X2_closedFrom k2 lb (zmg S X) p0 i0 i1 i2) := by
  intro k
  induction k with
  | zero => intros; exact fr_none
  | succ k ih =>
    intro k2 hk lb S p0 i0 i1 i2
    obtain ⟨k2, rfl⟩ : ∃ z, k2 = z + 1 := ⟨k2 - 1, by omega⟩
    rcases lb with _ | lb
    · show Fr X (b_X2_closedFrom_0 (g_X2_closedFrom k) k S p0 i0 i1 i2) (b_X2_closedFrom_0 (g_X2_closedFrom k2) k2 (zmg S X) p0 i0 i1 i2)
      unfold b_X2_closedFrom_0
      repeat' (first
        | exact fr_some
        | exact fr_none
        | exact ih _ (by omega) _ _ _ _ _ _
        | refine fr_is (by decide) ?_
        | refine fr_if ?_ ?_)
    · show Fr X (b_X2_closedFrom_1 (g_X2_closedFrom k) k S p0 i0 i1 i2) (b_X2_closedFrom_1 (g_X2_closedFrom k2) k2 (zmg S X) p0 i0 i1 i2)
      unfold b_X2_closedFrom_1
      repeat' (first
        | exact fr_some
        | exact fr_none
        | exact ih _ (by omega) _ _ _ _ _ _
        | refine fr_is (by decide) ?_
        | refine fr_if ?_ ?_
        | refine fr_rd (fun _ h => rdFi_m (by decide) h) (fun _ => ?_))
theorem frf_X2_closedFrom {X : xS} {fu : Nat} (fv : Nat) (hk : fu ≤ fv) (S : xS) (p0 : Nat) (i0 : Int) (i1 : Int) : Fr X (f_X2_closedFrom fu S p0 i0 i1) (f_X2_closedFrom fv (zmg S X) p0 i0 i1) := fr_X2_closedFrom fu fv hk _ _ _ _ _ _
theorem frf_X2_nextBox {X : xS} {fu : Nat} (fv : Nat) (hk : fu ≤ fv) (S : xS) (p0 : Nat) (p1 : Nat) (i0 : Int) (i1 : Int) (i2 : Int) : Fr X (f_X2_nextBox fu S p0 p1 i0 i1 i2) (f_X2_nextBox fv (zmg S X) p0 p1 i0 i1 i2) := by
  unfold f_X2_nextBox
  repeat' (first
    | exact fr_some
    | exact fr_none
    | refine fr_bd2 (frf_X2_closedFrom _ (by omega) _ _ _ _) (fun _ _ => ?_)
    | refine fr_is (by decide) ?_
    | refine fr_if ?_ ?_
    | refine fr_rd (fun _ h => rdFi_m (by decide) h) (fun _ => ?_))
theorem fr_X2_seek {X : xS} : ∀ (k k2 : Nat), k ≤ k2 → ∀ (lb : Nat) (S : xS) (p0 : Nat) (p1 : Nat) (p2 : Nat) (p3 : Nat) (i0 : Int) (i1 : Int) (i2 : Int) (i3 : Int) (i4 : Int), Fr X (g_X2_seek k lb S p0 p1 p2 p3 i0 i1 i2 i3 i4) (g_X2_seek k2 lb (zmg S X) p0 p1 p2 p3 i0 i1 i2 i3 i4) := by
  intro k
  induction k with
  | zero => intros; exact fr_none
  | succ k ih =>
    intro k2 hk lb S p0 p1 p2 p3 i0 i1 i2 i3 i4
    obtain ⟨k2, rfl⟩ : ∃ z, k2 = z + 1 := ⟨k2 - 1, by omega⟩
    rcases lb with _ | _ | lb
    · show Fr X (b_X2_seek_0 (g_X2_seek k) k S p0 p1 p2 p3 i0 i1 i2 i3 i4) (b_X2_seek_0 (g_X2_seek k2) k2 (zmg S X) p0 p1 p2 p3 i0 i1 i2 i3 i4)
      unfold b_X2_seek_0
      repeat' (first
        | exact fr_some
        | exact fr_none
        | exact ih _ (by omega) _ _ _ _ _ _ _ _ _ _ _
        | refine fr_is (by decide) ?_
        | refine fr_if ?_ ?_
        | refine fr_wr (fun _ h => wrF_m (by decide) h) (fun _ => ?_))
    · show Fr X (b_X2_seek_1 (g_X2_seek k) k S p0 p1 p2 p3 i0 i1 i2 i3 i4) (b_X2_seek_1 (g_X2_seek k2) k2 (zmg S X) p0 p1 p2 p3 i0 i1 i2 i3 i4)
      unfold b_X2_seek_1
      repeat' (first
        | exact fr_some
        | exact fr_none
        | exact ih _ (by omega) _ _ _ _ _ _ _ _ _ _ _
        | refine fr_bd2 (frf_X2_nextBox _ (by omega) _ _ _ _ _ _) (fun _ _ => ?_)
        | refine fr_is (by decide) ?_
        | refine fr_if ?_ ?_
        | refine fr_rd (fun _ h => rdFi_m (by decide) h) (fun _ => ?_)
        | refine fr_rd (fun _ h => rdFp_m (by decide) h) (fun _ => ?_)
        | refine fr_wr (fun _ h => wrA_m h) (fun _ => ?_)
        | refine fr_wr (fun _ h => wrF_m (by decide) h) (fun _ => ?_)
        | refine fr_rd (fun _ h => rdA_m h) (fun _ => ?_))
    · show Fr X (b_X2_seek_2 (g_X2_seek k) k S p0 p1 p2 p3 i0 i1 i2 i3 i4) (b_X2_seek_2 (g_X2_seek k2) k2 (zmg S X) p0 p1 p2 p3 i0 i1 i2 i3 i4)
      unfold b_X2_seek_2
      repeat' (first
        | exact fr_some
        | exact fr_none
        | exact ih _ (by omega) _ _ _ _ _ _ _ _ _ _ _
        | refine fr_is (by decide) ?_
        | refine fr_if ?_ ?_
        | refine fr_wr (fun _ h => wrF_m (by decide) h) (fun _ => ?_))
theorem frf_X2_seek {X : xS} {fu : Nat} (fv : Nat) (hk : fu ≤ fv) (S : xS) (p0 : Nat) (p1 : Nat) (p2 : Nat) (i0 : Int) (i1 : Int) : Fr X (f_X2_seek fu S p0 p1 p2 i0 i1) (f_X2_seek fv (zmg S X) p0 p1 p2 i0 i1) := fr_X2_seek fu fv hk _ _ _ _ _ _ _ _ _ _ _
theorem fr_X5_mayTrialBe {X : xS} : ∀ (k k2 : Nat), k ≤ k2 → ∀ (lb : Nat) (S : xS) (p0 : Nat) (i0 : Int) (i1 : Int), Fr X (g_X5_mayTrialBe k lb S p0 i0 i1) (g_X5_mayTrialBe k2 lb (zmg S X) p0 i0 i1) := by
  intro k
  induction k with
  | zero => intros; exact fr_none
  | succ k ih =>
    intro k2 hk lb S p0 i0 i1
    obtain ⟨k2, rfl⟩ : ∃ z, k2 = z + 1 := ⟨k2 - 1, by omega⟩
    rcases lb with _ | _ | _ | _ | lb
    · show Fr X (b_X5_mayTrialBe_0 (g_X5_mayTrialBe k) k S p0 i0 i1) (b_X5_mayTrialBe_0 (g_X5_mayTrialBe k2) k2 (zmg S X) p0 i0 i1)
      unfold b_X5_mayTrialBe_0
      repeat' (first
        | exact fr_some
        | exact fr_none
        | exact ih _ (by omega) _ _ _ _ _
        | refine fr_is (by decide) ?_
        | refine fr_if ?_ ?_)
    · show Fr X (b_X5_mayTrialBe_1 (g_X5_mayTrialBe k) k S p0 i0 i1) (b_X5_mayTrialBe_1 (g_X5_mayTrialBe k2) k2 (zmg S X) p0 i0 i1)
      unfold b_X5_mayTrialBe_1
      repeat' (first
        | exact fr_some
        | exact fr_none
        | exact ih _ (by omega) _ _ _ _ _
        | refine fr_is (by decide) ?_
        | refine fr_if ?_ ?_
        | refine fr_rd (fun _ h => rdFp_m (by decide) h) (fun _ => ?_)
        | refine fr_rd (fun _ h => rdFi_m (by decide) h) (fun _ => ?_)
        | refine fr_rd (fun _ h => rdA_m h) (fun _ => ?_))
    · show Fr X (b_X5_mayTrialBe_2 (g_X5_mayTrialBe k) k S p0 i0 i1) (b_X5_mayTrialBe_2 (g_X5_mayTrialBe k2) k2 (zmg S X) p0 i0 i1)
      unfold b_X5_mayTrialBe_2
      repeat' (first
        | exact fr_some
        | exact fr_none
        | exact ih _ (by omega) _ _ _ _ _
        | refine fr_is (by decide) ?_
        | refine fr_if ?_ ?_)
    · show Fr X (b_X5_mayTrialBe_3 (g_X5_mayTrialBe k) k S p0 i0 i1) (b_X5_mayTrialBe_3 (g_X5_mayTrialBe k2) k2 (zmg S X) p0 i0 i1)
      unfold b_X5_mayTrialBe_3
      repeat' (first
        | exact fr_some
        | exact fr_none
        | exact ih _ (by omega) _ _ _ _ _
        | refine fr_bd2 (frf_X2_seek _ (by omega) _ _ _ _ _ _) (fun _ _ => ?_)
        | refine fr_is (by decide) ?_
        | refine fr_if ?_ ?_
        | refine fr_rd (fun _ h => rdFp_m (by decide) h) (fun _ => ?_)
        | refine fr_rd (fun _ h => rdFi_m (by decide) h) (fun _ => ?_)
        | refine fr_rd (fun _ h => rdA_m h) (fun _ => ?_))
    · show Fr X (b_X5_mayTrialBe_4 (g_X5_mayTrialBe k) k S p0 i0 i1) (b_X5_mayTrialBe_4 (g_X5_mayTrialBe k2) k2 (zmg S X) p0 i0 i1)
      unfold b_X5_mayTrialBe_4
      repeat' (first
        | exact fr_some
        | exact fr_none
        | exact ih _ (by omega) _ _ _ _ _
        | refine fr_is (by decide) ?_
        | refine fr_if ?_ ?_
        | refine fr_rd (fun _ h => rdFp_m (by decide) h) (fun _ => ?_)
        | refine fr_rd (fun _ h => rdA_m h) (fun _ => ?_))
theorem frf_X5_mayTrialBe {X : xS} {fu : Nat} (fv : Nat) (hk : fu ≤ fv) (S : xS) (p0 : Nat) : Fr X (f_X5_mayTrialBe fu S p0) (f_X5_mayTrialBe fv (zmg S X) p0) := fr_X5_mayTrialBe fu fv hk _ _ _ _ _
theorem fr_X5_commonDivisor {X : xS} : ∀ (k k2 : Nat), k ≤ k2 → ∀ (lb : Nat) (S : xS) (i0 : Int) (i1 : Int) (i2 : Int), Fr X (g_X5_commonDivisor k lb S i0 i1 i2) (g_X5_commonDivisor k2 lb (zmg S X) i0 i1 i2) := by
  intro k
  induction k with
  | zero => intros; exact fr_none
  | succ k ih =>
    intro k2 hk lb S i0 i1 i2
    obtain ⟨k2, rfl⟩ : ∃ z, k2 = z + 1 := ⟨k2 - 1, by omega⟩
    rcases lb with _ | _ | lb
    · show Fr X (b_X5_commonDivisor_0 (g_X5_commonDivisor k) k S i0 i1 i2) (b_X5_commonDivisor_0 (g_X5_commonDivisor k2) k2 (zmg S X) i0 i1 i2)
      unfold b_X5_commonDivisor_0
      repeat' (first
        | exact fr_some
        | exact fr_none
        | exact ih _ (by omega) _ _ _ _ _
        | refine fr_is (by decide) ?_
        | refine fr_if ?_ ?_)
    · show Fr X (b_X5_commonDivisor_1 (g_X5_commonDivisor k) k S i0 i1 i2) (b_X5_commonDivisor_1 (g_X5_commonDivisor k2) k2 (zmg S X) i0 i1 i2)
      unfold b_X5_commonDivisor_1
      repeat' (first
        | exact fr_some
        | exact fr_none
        | exact ih _ (by omega) _ _ _ _ _
        | refine fr_is (by decide) ?_
        | refine fr_if ?_ ?_)
    · show Fr X (b_X5_commonDivisor_2 (g_X5_commonDivisor k) k S i0 i1 i2) (b_X5_commonDivisor_2 (g_X5_commonDivisor k2) k2 (zmg S X) i0 i1 i2)
      unfold b_X5_commonDivisor_2
      repeat' (first
        | exact fr_some
        | exact fr_none
        | exact ih _ (by omega) _ _ _ _ _
        | refine fr_is (by decide) ?_
        | refine fr_if ?_ ?_)
theorem frf_X5_commonDivisor {X : xS} {fu : Nat} (fv : Nat) (hk : fu ≤ fv) (S : xS) (i0 : Int) (i1 : Int) : Fr X (f_X5_commonDivisor fu S i0 i1) (f_X5_commonDivisor fv (zmg S X) i0 i1) := fr_X5_commonDivisor fu fv hk _ _ _ _ _
theorem frf_X5_setFraction {X : xS} {fu : Nat} (fv : Nat) (hk : fu ≤ fv) (S : xS) (p0 : Nat) (i0 : Int) (i1 : Int) : Fr X (f_X5_setFraction fu S p0 i0 i1) (f_X5_setFraction fv (zmg S X) p0 i0 i1) := by
  unfold f_X5_setFraction
  repeat' (first
    | exact fr_some
    | exact fr_none
    | refine fr_bd2 (frf_X5_commonDivisor _ (by omega) _ _ _) (fun _ _ => ?_)
    | refine fr_is (by decide) ?_
    | refine fr_if ?_ ?_
    | refine fr_wr (fun _ h => wrF_m (by decide) h) (fun _ => ?_))
theorem frf_X5_doesFind {X : xS} {fu : Nat} (fv : Nat) (hk : fu ≤ fv) (S : xS) (p0 : Nat) (p1 : Nat) (i0 : Int) (i1 : Int) : Fr X (f_X5_doesFind fu S p0 p1 i0 i1) (f_X5_doesFind fv (zmg S X) p0 p1 i0 i1) := by
  unfold f_X5_doesFind
  repeat' (first
    | exact fr_some
    | exact fr_none
    | refine fr_bd2 (frf_X2_seek _ (by omega) _ _ _ _ _ _) (fun _ _ => ?_)
    | refine fr_is (by decide) ?_
    | refine fr_if ?_ ?_
    | refine fr_rd (fun _ h => rdFp_m (by decide) h) (fun _ => ?_)
    | refine fr_rd (fun _ h => rdFi_m (by decide) h) (fun _ => ?_))
theorem fr_X5_doAllFindBy {X : xS} : ∀ (k k2 : Nat), k ≤ k2 → ∀ (lb : Nat) (S : xS) (p0 : Nat) (p1 : Nat) (i0 : Int) (i1 : Int), Fr X (g_X5_doAllFindBy k lb S p0 p1 i0 i1) (g_X5_doAllFindBy k2 lb (zmg S X) p0 p1 i0 i1) := by
  intro k
  induction k with
  | zero => intros; exact fr_none
  | succ k ih =>
    intro k2 hk lb S p0 p1 i0 i1
    obtain ⟨k2, rfl⟩ : ∃ z, k2 = z + 1 := ⟨k2 - 1, by omega⟩
    rcases lb with _ | lb
    · show Fr X (b_X5_doAllFindBy_0 (g_X5_doAllFindBy k) k S p0 p1 i0 i1) (b_X5_doAllFindBy_0 (g_X5_doAllFindBy k2) k2 (zmg S X) p0 p1 i0 i1)
      unfold b_X5_doAllFindBy_0
      repeat' (first
        | exact fr_some
        | exact fr_none
        | exact ih _ (by omega) _ _ _ _ _ _
        | refine fr_is (by decide) ?_
        | refine fr_if ?_ ?_)
    · show Fr X (b_X5_doAllFindBy_1 (g_X5_doAllFindBy k) k S p0 p1 i0 i1) (b_X5_doAllFindBy_1 (g_X5_doAllFindBy k2) k2 (zmg S X) p0 p1 i0 i1)
      unfold b_X5_doAllFindBy_1
      repeat' (first
        | exact fr_some
        | exact fr_none
        | exact ih _ (by omega) _ _ _ _ _ _
        | refine fr_bd2 (frf_X5_doesFind _ (by omega) _ _ _ _ _) (fun _ _ => ?_)
        | refine fr_is (by decide) ?_
        | refine fr_if ?_ ?_
        | refine fr_rd (fun _ h => rdFp_m (by decide) h) (fun _ => ?_)
        | refine fr_rd (fun _ h => rdFi_m (by decide) h) (fun _ => ?_))
theorem frf_X5_doAllFindBy {X : xS} {fu : Nat} (fv : Nat) (hk : fu ≤ fv) (S : xS) (p0 : Nat) (p1 : Nat) (i0 : Int) : Fr X (f_X5_doAllFindBy fu S p0 p1 i0) (f_X5_doAllFindBy fv (zmg S X) p0 p1 i0) := fr_X5_doAllFindBy fu fv hk _ _ _ _ _ _
theorem frf_X5_refuseNo {X : xS} {fu : Nat} (fv : Nat) (hk : fu ≤ fv) (S : xS) (p0 : Nat) : Fr X (f_X5_refuseNo fu S p0) (f_X5_refuseNo fv (zmg S X) p0) := by
  unfold f_X5_refuseNo
  repeat' (first
    | exact fr_some
    | exact fr_none
    | refine fr_is (by decide) ?_
    | refine fr_if ?_ ?_
    | refine fr_rd (fun _ h => rdFi_m (by decide) h) (fun _ => ?_)
    | refine fr_wr (fun _ h => wrF_m (by decide) h) (fun _ => ?_))
theorem fr_J7_fill_53178 {X : xS} : ∀ (k k2 : Nat), k ≤ k2 → ∀ (lb : Nat) (S : xS) (p0 : Nat) (i0 : Int) (i1 : Int) (i2 : Int), Fr X (g_J7_fill_53178 k lb S p0 i0 i1 i2) (g_J7_fill_53178 k2 lb (zmg S X) p0 i0 i1 i2) := by
  intro k
  induction k with
  | zero => intros; exact fr_none
  | succ k ih =>
    intro k2 hk lb S p0 i0 i1 i2
    obtain ⟨k2, rfl⟩ : ∃ z, k2 = z + 1 := ⟨k2 - 1, by omega⟩
    rcases lb with _ | lb
    · show Fr X (b_J7_fill_53178_0 (g_J7_fill_53178 k) k S p0 i0 i1 i2) (b_J7_fill_53178_0 (g_J7_fill_53178 k2) k2 (zmg S X) p0 i0 i1 i2)
      unfold b_J7_fill_53178_0
      repeat' (first
        | exact fr_some
        | exact fr_none
        | exact ih _ (by omega) _ _ _ _ _ _
        | refine fr_is (by decide) ?_
        | refine fr_if ?_ ?_
        | refine fr_rd (fun _ h => lenA_m h) (fun _ => ?_))
    · show Fr X (b_J7_fill_53178_1 (g_J7_fill_53178 k) k S p0 i0 i1 i2) (b_J7_fill_53178_1 (g_J7_fill_53178 k2) k2 (zmg S X) p0 i0 i1 i2)
      unfold b_J7_fill_53178_1
      repeat' (first
        | exact fr_some
        | exact fr_none
        | exact ih _ (by omega) _ _ _ _ _ _
        | refine fr_is (by decide) ?_
        | refine fr_if ?_ ?_
        | refine fr_wr (fun _ h => wrA_m h) (fun _ => ?_))
theorem frf_J7_fill_53178 {X : xS} {fu : Nat} (fv : Nat) (hk : fu ≤ fv) (S : xS) (p0 : Nat) (i0 : Int) : Fr X (f_J7_fill_53178 fu S p0 i0) (f_J7_fill_53178 fv (zmg S X) p0 i0) := fr_J7_fill_53178 fu fv hk _ _ _ _ _ _
theorem fr_X4_setToFirst {X : xS} : ∀ (k k2 : Nat), k ≤ k2 → ∀ (lb : Nat) (S : xS) (p0 : Nat) (i0 : Int) (i1 : Int), Fr X (g_X4_setToFirst k lb S p0 i0 i1) (g_X4_setToFirst k2 lb (zmg S X) p0 i0 i1) := by
  intro k
  induction k with
  | zero => intros; exact fr_none
  | succ k ih =>
    intro k2 hk lb S p0 i0 i1
    obtain ⟨k2, rfl⟩ : ∃ z, k2 = z + 1 := ⟨k2 - 1, by omega⟩
    rcases lb with _ | lb
    · show Fr X (b_X4_setToFirst_0 (g_X4_setToFirst k) k S p0 i0 i1) (b_X4_setToFirst_0 (g_X4_setToFirst k2) k2 (zmg S X) p0 i0 i1)
      unfold b_X4_setToFirst_0
      repeat' (first
        | exact fr_some
        | exact fr_none
        | exact ih _ (by omega) _ _ _ _ _
        | refine fr_is (by decide) ?_
        | refine fr_if ?_ ?_)
    · show Fr X (b_X4_setToFirst_1 (g_X4_setToFirst k) k S p0 i0 i1) (b_X4_setToFirst_1 (g_X4_setToFirst k2) k2 (zmg S X) p0 i0 i1)
      unfold b_X4_setToFirst_1
      repeat' (first
        | exact fr_some
        | exact fr_none
        | exact ih _ (by omega) _ _ _ _ _
        | refine fr_is (by decide) ?_
        | refine fr_if ?_ ?_
        | refine fr_wr (fun _ h => wrA_m h) (fun _ => ?_))
theorem frf_X4_setToFirst {X : xS} {fu : Nat} (fv : Nat) (hk : fu ≤ fv) (S : xS) (p0 : Nat) (i0 : Int) : Fr X (f_X4_setToFirst fu S p0 i0) (f_X4_setToFirst fv (zmg S X) p0 i0) := fr_X4_setToFirst fu fv hk _ _ _ _ _
theorem fr_X5_tallyRules {X : xS} : ∀ (k k2 : Nat), k ≤ k2 → ∀ (lb : Nat) (S : xS) (p0 : Nat) (p1 : Nat) (i0 : Int) (i1 : Int) (i2 : Int) (i3 : Int) (i4 : Int) (i5 : Int) (i6 : Int), Fr X (g_X5_tallyRules k lb S p0 p1 i0 i1 i2 i3 i4 i5 i6) (g_X5_tallyRules k2 lb (zmg S X) p0 p1 i0 i1 i2 i3 i4 i5 i6) := by
  intro k
  induction k with
  | zero => intros; exact fr_none
  | succ k ih =>
    intro k2 hk lb S p0 p1 i0 i1 i2 i3 i4 i5 i6
    obtain ⟨k2, rfl⟩ : ∃ z, k2 = z + 1 := ⟨k2 - 1, by omega⟩
    rcases lb with _ | _ | _ | _ | lb
    · show Fr X (b_X5_tallyRules_0 (g_X5_tallyRules k) k S p0 p1 i0 i1 i2 i3 i4 i5 i6) (b_X5_tallyRules_0 (g_X5_tallyRules k2) k2 (zmg S X) p0 p1 i0 i1 i2 i3 i4 i5 i6)
      unfold b_X5_tallyRules_0
      repeat' (first
        | exact fr_some
        | exact fr_none
        | exact ih _ (by omega) _ _ _ _ _ _ _ _ _ _ _
        | refine fr_bd2 (frf_J7_fill_53178 _ (by omega) _ _ _) (fun _ _ => ?_)
        | refine fr_bd2 (frf_X4_setToFirst _ (by omega) _ _ _) (fun _ _ => ?_)
        | refine fr_is (by decide) ?_
        | refine fr_if ?_ ?_
        | refine fr_rd (fun _ h => rdFp_m (by decide) h) (fun _ => ?_)
        | refine fr_rd (fun _ h => rdFi_m (by decide) h) (fun _ => ?_))
    · show Fr X (b_X5_tallyRules_1 (g_X5_tallyRules k) k S p0 p1 i0 i1 i2 i3 i4 i5 i6) (b_X5_tallyRules_1 (g_X5_tallyRules k2) k2 (zmg S X) p0 p1 i0 i1 i2 i3 i4 i5 i6)
      unfold b_X5_tallyRules_1
      repeat' (first
        | exact fr_some
        | exact fr_none
        | exact ih _ (by omega) _ _ _ _ _ _ _ _ _ _ _
        | refine fr_bd2 (frf_X5_mayTrialBe _ (by omega) _ _) (fun _ _ => ?_)
        | refine fr_is (by decide) ?_
        | refine fr_if ?_ ?_
        | refine fr_rd (fun _ h => h) (fun _ => ?_))
    · show Fr X (b_X5_tallyRules_2 (g_X5_tallyRules k) k S p0 p1 i0 i1 i2 i3 i4 i5 i6) (b_X5_tallyRules_2 (g_X5_tallyRules k2) k2 (zmg S X) p0 p1 i0 i1 i2 i3 i4 i5 i6)
      unfold b_X5_tallyRules_2
      repeat' (first
        | exact fr_some
        | exact fr_none
        | exact ih _ (by omega) _ _ _ _ _ _ _ _ _ _ _
        | refine fr_bd2 (frf_X5_doAllFindBy _ (by omega) _ _ _ _) (fun _ _ => ?_)
        | refine fr_is (by decide) ?_
        | refine fr_if ?_ ?_
        | refine fr_rd (fun _ h => rdFp_m (by decide) h) (fun _ => ?_)
        | refine fr_rd (fun _ h => rdA_m h) (fun _ => ?_))
    · show Fr X (b_X5_tallyRules_3 (g_X5_tallyRules k) k S p0 p1 i0 i1 i2 i3 i4 i5 i6) (b_X5_tallyRules_3 (g_X5_tallyRules k2) k2 (zmg S X) p0 p1 i0 i1 i2 i3 i4 i5 i6)
      unfold b_X5_tallyRules_3
      repeat' (first
        | exact fr_some
        | exact fr_none
        | exact ih _ (by omega) _ _ _ _ _ _ _ _ _ _ _
        | refine fr_is (by decide) ?_
        | refine fr_if ?_ ?_
        | refine fr_wr (fun _ h => wrA_m h) (fun _ => ?_))
    · show Fr X (b_X5_tallyRules_4 (g_X5_tallyRules k) k S p0 p1 i0 i1 i2 i3 i4 i5 i6) (b_X5_tallyRules_4 (g_X5_tallyRules k2) k2 (zmg S X) p0 p1 i0 i1 i2 i3 i4 i5 i6)
      unfold b_X5_tallyRules_4
      repeat' (first
        | exact fr_some
        | exact fr_none
        | exact ih _ (by omega) _ _ _ _ _ _ _ _ _ _ _
        | refine fr_bd2 (frf_X4_setToNext _ (by omega) _ _ _) (fun _ _ => ?_)
        | refine fr_is (by decide) ?_
        | refine fr_if ?_ ?_
        | refine fr_rd (fun _ h => rdFp_m (by decide) h) (fun _ => ?_))
theorem frf_X5_tallyRules {X : xS} {fu : Nat} (fv : Nat) (hk : fu ≤ fv) (S : xS) (p0 : Nat) : Fr X (f_X5_tallyRules fu S p0) (f_X5_tallyRules fv (zmg S X) p0) := fr_X5_tallyRules fu fv hk _ _ _ _ _ _ _ _ _ _ _
theorem fr_X5_advice {X : xS} : ∀ (k k2 : Nat), k ≤ k2 → ∀ (lb : Nat) (S : xS) (p0 : Nat) (i0 : Int) (i1 : Int) (i2 : Int), Fr X (g_X5_advice k lb S p0 i0 i1 i2) (g_X5_advice k2 lb (zmg S X) p0 i0 i1 i2) := by
  intro k
  induction k with
  | zero => intros; exact fr_none
  | succ k ih =>
    intro k2 hk lb S p0 i0 i1 i2
    obtain ⟨k2, rfl⟩ : ∃ z, k2 = z + 1 := ⟨k2 - 1, by omega⟩
    rcases lb with _ | _ | lb
    · show Fr X (b_X5_advice_0 (g_X5_advice k) k S p0 i0 i1 i2) (b_X5_advice_0 (g_X5_advice k2) k2 (zmg S X) p0 i0 i1 i2)
      unfold b_X5_advice_0
      repeat' (first
        | exact fr_some
        | exact fr_none
        | exact ih _ (by omega) _ _ _ _ _ _
        | refine fr_bd2 (frf_X5_tallyRules _ (by omega) _ _) (fun _ _ => ?_)
        | refine fr_bd2 (frf_X5_refuseNo _ (by omega) _ _) (fun _ _ => ?_)
        | refine fr_is (by decide) ?_
        | refine fr_if ?_ ?_)
    · show Fr X (b_X5_advice_1 (g_X5_advice k) k S p0 i0 i1 i2) (b_X5_advice_1 (g_X5_advice k2) k2 (zmg S X) p0 i0 i1 i2)
      unfold b_X5_advice_1
      repeat' (first
        | exact fr_some
        | exact fr_none
        | exact ih _ (by omega) _ _ _ _ _ _
        | refine fr_bd2 (frf_X5_setFraction _ (by omega) _ _ _ _) (fun _ _ => ?_)
        | refine fr_is (by decide) ?_
        | refine fr_if ?_ ?_
        | refine fr_rd (fun _ h => rdFp_m (by decide) h) (fun _ => ?_)
        | refine fr_rd (fun _ h => rdA_m h) (fun _ => ?_))
    · show Fr X (b_X5_advice_2 (g_X5_advice k) k S p0 i0 i1 i2) (b_X5_advice_2 (g_X5_advice k2) k2 (zmg S X) p0 i0 i1 i2)
      unfold b_X5_advice_2
      repeat' (first
        | exact fr_some
        | exact fr_none
        | exact ih _ (by omega) _ _ _ _ _ _
        | refine fr_is (by decide) ?_
        | refine fr_if ?_ ?_)
theorem frf_X5_advice {X : xS} {fu : Nat} (fv : Nat) (hk : fu ≤ fv) (S : xS) (p0 : Nat) : Fr X (f_X5_advice fu S p0) (f_X5_advice fv (zmg S X) p0) := fr_X5_advice fu fv hk _ _ _ _ _ _
theorem frf_X6_bad {X : xS} {fu : Nat} (fv : Nat) (hk : fu ≤ fv) (S : xS) (p0 : Nat) (i0 : Int) : Fr X (f_X6_bad fu S p0 i0) (f_X6_bad fv (zmg S X) p0 i0) := by
  unfold f_X6_bad
  repeat' (first
    | exact fr_some
    | exact fr_none
    | refine fr_is (by decide) ?_
    | refine fr_if ?_ ?_
    | refine fr_rd (fun _ h => rdFp_m (by decide) h) (fun _ => ?_)
    | refine fr_rd (fun _ h => rdA_m h) (fun _ => ?_)
    | refine fr_wr (fun _ h => wrA_m h) (fun _ => ?_))
theorem frf_X6_n {X : xS} {fu : Nat} (fv : Nat) (hk : fu ≤ fv) (S : xS) (p0 : Nat) : Fr X (f_X6_n fu S p0) (f_X6_n fv (zmg S X) p0) := by
  unfold f_X6_n
  repeat' (first
    | exact fr_some
    | exact fr_none
    | refine fr_is (by decide) ?_
    | refine fr_if ?_ ?_
    | refine fr_rd (fun _ h => rdFp_m (by decide) h) (fun _ => ?_)
    | refine fr_rd (fun _ h => rdA_m h) (fun _ => ?_))
theorem fr_X6_factorial {X : xS} : ∀ (k k2 : Nat), k ≤ k2 → ∀ (lb : Nat) (S : xS) (i0 : Int) (i1 : Int) (i2 : Int), Fr X (g_X6_factorial k lb S i0 i1 i2) (g_X6_factorial k2 lb (zmg S X) i0 i1 i2) := by
  intro k
  induction k with
  | zero => intros; exact fr_none
  | succ k ih =>
    intro k2 hk lb S i0 i1 i2
    obtain ⟨k2, rfl⟩ : ∃ z, k2 = z + 1 := ⟨k2 - 1, by omega⟩
    rcases lb with _ | lb
    · show Fr X (b_X6_factorial_0 (g_X6_factorial k) k S i0 i1 i2) (b_X6_factorial_0 (g_X6_factorial k2) k2 (zmg S X) i0 i1 i2)
      unfold b_X6_factorial_0
      repeat' (first
        | exact fr_some
        | exact fr_none
        | exact ih _ (by omega) _ _ _ _ _
        | refine fr_is (by decide) ?_
        | refine fr_if ?_ ?_)
    · show Fr X (b_X6_factorial_1 (g_X6_factorial k) k S i0 i1 i2) (b_X6_factorial_1 (g_X6_factorial k2) k2 (zmg S X) i0 i1 i2)
      unfold b_X6_factorial_1
      repeat' (first
        | exact fr_some
        | exact fr_none
        | exact ih _ (by omega) _ _ _ _ _
        | refine fr_is (by decide) ?_
        | refine fr_if ?_ ?_)
theorem frf_X6_factorial {X : xS} {fu : Nat} (fv : Nat) (hk : fu ≤ fv) (S : xS) (i0 : Int) : Fr X (f_X6_factorial fu S i0) (f_X6_factorial fv (zmg S X) i0) := fr_X6_factorial fu fv hk _ _ _ _ _
theorem frf_X6_ways {X : xS} {fu : Nat} (fv : Nat) (hk : fu ≤ fv) (S : xS) (p0 : Nat) : Fr X (f_X6_ways fu S p0) (f_X6_ways fv (zmg S X) p0) := by
  unfold f_X6_ways
  repeat' (first
    | exact fr_some
    | exact fr_none
    | refine fr_bd2 (frf_X6_n _ (by omega) _ _) (fun _ _ => ?_)
    | refine fr_bd2 (frf_X6_factorial _ (by omega) _ _) (fun _ _ => ?_)
    | refine fr_is (by decide) ?_
    | refine fr_if ?_ ?_)
theorem fr_X6_takeRank {X : xS} : ∀ (k k2 : Nat), k ≤ k2 → ∀ (lb : Nat) (S : xS) (p0 : Nat) (i0 : Int) (i1 : Int) (i2 : Int) (i3 : Int) (i4 : Int) (i5 : Int), Fr X (g_X6_takeRank k lb S p0 i0 i1 i2 i3 i4 i5) (g_X6_takeRank k2 lb (zmg S X) p0 i0 i1 i2 i3 i4 i5) := by
  intro k
  induction k with
  | zero => intros; exact fr_none
  | succ k ih =>
    intro k2 hk lb S p0 i0 i1 i2 i3 i4 i5
    obtain ⟨k2, rfl⟩ : ∃ z, k2 = z + 1 := ⟨k2 - 1, by omega⟩
    rcases lb with _ | _ | _ | _ | lb
    · show Fr X (b_X6_takeRank_0 (g_X6_takeRank k) k S p0 i0 i1 i2 i3 i4 i5) (b_X6_takeRank_0 (g_X6_takeRank k2) k2 (zmg S X) p0 i0 i1 i2 i3 i4 i5)
      unfold b_X6_takeRank_0
      repeat' (first
        | exact fr_some
        | exact fr_none
        | exact ih _ (by omega) _ _ _ _ _ _ _ _ _
        | refine fr_is (by decide) ?_
        | refine fr_if ?_ ?_)
    · show Fr X (b_X6_takeRank_1 (g_X6_takeRank k) k S p0 i0 i1 i2 i3 i4 i5) (b_X6_takeRank_1 (g_X6_takeRank k2) k2 (zmg S X) p0 i0 i1 i2 i3 i4 i5)
      unfold b_X6_takeRank_1
      repeat' (first
        | exact fr_some
        | exact fr_none
        | exact ih _ (by omega) _ _ _ _ _ _ _ _ _
        | refine fr_bd2 (frf_X6_n _ (by omega) _ _) (fun _ _ => ?_)
        | refine fr_bd2 (frf_X6_factorial _ (by omega) _ _) (fun _ _ => ?_)
        | refine fr_is (by decide) ?_
        | refine fr_if ?_ ?_)
    · show Fr X (b_X6_takeRank_2 (g_X6_takeRank k) k S p0 i0 i1 i2 i3 i4 i5) (b_X6_takeRank_2 (g_X6_takeRank k2) k2 (zmg S X) p0 i0 i1 i2 i3 i4 i5)
      unfold b_X6_takeRank_2
      repeat' (first
        | exact fr_some
        | exact fr_none
        | exact ih _ (by omega) _ _ _ _ _ _ _ _ _
        | refine fr_is (by decide) ?_
        | refine fr_if ?_ ?_
        | refine fr_rd (fun _ h => rdFp_m (by decide) h) (fun _ => ?_)
        | refine fr_wr (fun _ h => wrA_m h) (fun _ => ?_))
    · show Fr X (b_X6_takeRank_3 (g_X6_takeRank k) k S p0 i0 i1 i2 i3 i4 i5) (b_X6_takeRank_3 (g_X6_takeRank k2) k2 (zmg S X) p0 i0 i1 i2 i3 i4 i5)
      unfold b_X6_takeRank_3
      repeat' (first
        | exact fr_some
        | exact fr_none
        | exact ih _ (by omega) _ _ _ _ _ _ _ _ _
        | refine fr_is (by decide) ?_
        | refine fr_if ?_ ?_)
    · show Fr X (b_X6_takeRank_4 (g_X6_takeRank k) k S p0 i0 i1 i2 i3 i4 i5) (b_X6_takeRank_4 (g_X6_takeRank k2) k2 (zmg S X) p0 i0 i1 i2 i3 i4 i5)
      unfold b_X6_takeRank_4
      repeat' (first
        | exact fr_some
        | exact fr_none
        | exact ih _ (by omega) _ _ _ _ _ _ _ _ _
        | refine fr_is (by decide) ?_
        | refine fr_if ?_ ?_)
theorem frf_X6_takeRank {X : xS} {fu : Nat} (fv : Nat) (hk : fu ≤ fv) (S : xS) (p0 : Nat) (i0 : Int) : Fr X (f_X6_takeRank fu S p0 i0) (f_X6_takeRank fv (zmg S X) p0 i0) := fr_X6_takeRank fu fv hk _ _ _ _ _ _ _ _ _
theorem frf_X6_evenBox {X : xS} {fu : Nat} (fv : Nat) (hk : fu ≤ fv) (S : xS) (p0 : Nat) (i0 : Int) : Fr X (f_X6_evenBox fu S p0 i0) (f_X6_evenBox fv (zmg S X) p0 i0) := by
  unfold f_X6_evenBox
  repeat' (first
    | exact fr_some
    | exact fr_none
    | refine fr_bd2 (frf_X6_n _ (by omega) _ _) (fun _ _ => ?_)
    | refine fr_is (by decide) ?_
    | refine fr_if ?_ ?_)
theorem fr_X6_free {X : xS} : ∀ (k k2 : Nat), k ≤ k2 → ∀ (lb : Nat) (S : xS) (p0 : Nat) (i0 : Int) (i1 : Int), Fr X (g_X6_free k lb S p0 i0 i1) (g_X6_free k2 lb (zmg S X) p0 i0 i1) := by
  intro k
  induction k with
  | zero => intros; exact fr_none
  | succ k ih =>
    intro k2 hk lb S p0 i0 i1
    obtain ⟨k2, rfl⟩ : ∃ z, k2 = z + 1 := ⟨k2 - 1, by omega⟩
    rcases lb with _ | lb
    · show Fr X (b_X6_free_0 (g_X6_free k) k S p0 i0 i1) (b_X6_free_0 (g_X6_free k2) k2 (zmg S X) p0 i0 i1)
      unfold b_X6_free_0
      repeat' (first
        | exact fr_some
        | exact fr_none
        | exact ih _ (by omega) _ _ _ _ _
        | refine fr_is (by decide) ?_
        | refine fr_if ?_ ?_)
    · show Fr X (b_X6_free_1 (g_X6_free k) k S p0 i0 i1) (b_X6_free_1 (g_X6_free k2) k2 (zmg S X) p0 i0 i1)
      unfold b_X6_free_1
      repeat' (first
        | exact fr_some
        | exact fr_none
        | exact ih _ (by omega) _ _ _ _ _
        | refine fr_bd2 (frf_X6_n _ (by omega) _ _) (fun _ _ => ?_)
        | refine fr_is (by decide) ?_
        | refine fr_if ?_ ?_)
theorem frf_X6_free {X : xS} {fu : Nat} (fv : Nat) (hk : fu ≤ fv) (S : xS) (p0 : Nat) (i0 : Int) (i1 : Int) : Fr X (f_X6_free fu S p0 i0 i1) (f_X6_free fv (zmg S X) p0 i0 i1) := fr_X6_free fu fv hk _ _ _ _ _
theorem fr_X6_boxOf {X : xS} : ∀ (k k2 : Nat), k ≤ k2 → ∀ (lb : Nat) (S : xS) (p0 : Nat) (p1 : Nat) (i0 : Int) (i1 : Int) (i2 : Int) (i3 : Int) (i4 : Int), Fr X (g_X6_boxOf k lb S p0 p1 i0 i1 i2 i3 i4) (g_X6_boxOf k2 lb (zmg S X) p0 p1 i0 i1 i2 i3 i4) := by
  intro k
  induction k with
  | zero => intros; exact fr_none
  | succ k ih =>
    intro k2 hk lb S p0 p1 i0 i1 i2 i3 i4
    obtain ⟨k2, rfl⟩ : ∃ z, k2 = z + 1 := ⟨k2 - 1, by omega⟩
    rcases lb with _ | _ | _ | lb
    · show Fr X (b_X6_boxOf_0 (g_X6_boxOf k) k S p0 p1 i0 i1 i2 i3 i4) (b_X6_boxOf_0 (g_X6_boxOf k2) k2 (zmg S X) p0 p1 i0 i1 i2 i3 i4)
      unfold b_X6_boxOf_0
      repeat' (first
        | exact fr_some
        | exact fr_none
        | exact ih _ (by omega) _ _ _ _ _ _ _ _ _
        | refine fr_is (by decide) ?_
        | refine fr_if ?_ ?_
        | refine fr_rd (fun _ h => rdFp_m (by decide) h) (fun _ => ?_)
        | refine fr_rd (fun _ h => rdA_m h) (fun _ => ?_))
    · show Fr X (b_X6_boxOf_1 (g_X6_boxOf k) k S p0 p1 i0 i1 i2 i3 i4) (b_X6_boxOf_1 (g_X6_boxOf k2) k2 (zmg S X) p0 p1 i0 i1 i2 i3 i4)
      unfold b_X6_boxOf_1
      repeat' (first
        | exact fr_some
        | exact fr_none
        | exact ih _ (by omega) _ _ _ _ _ _ _ _ _
        | refine fr_is (by decide) ?_
        | refine fr_if ?_ ?_
        | refine fr_rd (fun _ h => rdFp_m (by decide) h) (fun _ => ?_)
        | refine fr_rd (fun _ h => rdA_m h) (fun _ => ?_))
    · show Fr X (b_X6_boxOf_2 (g_X6_boxOf k) k S p0 p1 i0 i1 i2 i3 i4) (b_X6_boxOf_2 (g_X6_boxOf k2) k2 (zmg S X) p0 p1 i0 i1 i2 i3 i4)
      unfold b_X6_boxOf_2
      repeat' (first
        | exact fr_some
        | exact fr_none
        | exact ih _ (by omega) _ _ _ _ _ _ _ _ _
        | refine fr_bd2 (frf_X6_n _ (by omega) _ _) (fun _ _ => ?_)
        | refine fr_bd2 (frf_X6_evenBox _ (by omega) _ _ _) (fun _ _ => ?_)
        | refine fr_bd2 (frf_X6_free _ (by omega) _ _ _ _) (fun _ _ => ?_)
        | refine fr_is (by decide) ?_
        | refine fr_if ?_ ?_
        | refine fr_rd (fun _ h => rdFp_m (by decide) h) (fun _ => ?_)
        | refine fr_rd (fun _ h => rdA_m h) (fun _ => ?_))
    · show Fr X (b_X6_boxOf_3 (g_X6_boxOf k) k S p0 p1 i0 i1 i2 i3 i4) (b_X6_boxOf_3 (g_X6_boxOf k2) k2 (zmg S X) p0 p1 i0 i1 i2 i3 i4)
      unfold b_X6_boxOf_3
      repeat' (first
        | exact fr_some
        | exact fr_none
        | exact ih _ (by omega) _ _ _ _ _ _ _ _ _
        | refine fr_bd2 (frf_X6_n _ (by omega) _ _) (fun _ _ => ?_)
        | refine fr_bd2 (frf_X6_free _ (by omega) _ _ _ _) (fun _ _ => ?_)
        | refine fr_is (by decide) ?_
        | refine fr_if ?_ ?_)
theorem frf_X6_boxOf {X : xS} {fu : Nat} (fv : Nat) (hk : fu ≤ fv) (S : xS) (p0 : Nat) (i0 : Int) (i1 : Int) (i2 : Int) : Fr X (f_X6_boxOf fu S p0 i0 i1 i2) (f_X6_boxOf fv (zmg S X) p0 i0 i1 i2) := fr_X6_boxOf fu fv hk _ _ _ _ _ _ _ _ _
theorem fr_X6_seek {X : xS} : ∀ (k k2 : Nat), k ≤ k2 → ∀ (lb : Nat) (S : xS) (p0 : Nat) (p1 : Nat) (i0 : Int) (i1 : Int) (i2 : Int), Fr X (g_X6_seek k lb S p0 p1 i0 i1 i2) (g_X6_seek k2 lb (zmg S X) p0 p1 i0 i1 i2) := by
  intro k
  induction k with
  | zero => intros; exact fr_none
  | succ k ih =>
    intro k2 hk lb S p0 p1 i0 i1 i2
    obtain ⟨k2, rfl⟩ : ∃ z, k2 = z + 1 := ⟨k2 - 1, by omega⟩
    rcases lb with _ | _ | lb
    · show Fr X (b_X6_seek_0 (g_X6_seek k) k S p0 p1 i0 i1 i2) (b_X6_seek_0 (g_X6_seek k2) k2 (zmg S X) p0 p1 i0 i1 i2)
      unfold b_X6_seek_0
      repeat' (first
        | exact fr_some
        | exact fr_none
        | exact ih _ (by omega) _ _ _ _ _ _ _
        | refine fr_is (by decide) ?_
        | refine fr_if ?_ ?_
        | refine fr_wr (fun _ h => wrF_m (by decide) h) (fun _ => ?_))
    · show Fr X (b_X6_seek_1 (g_X6_seek k) k S p0 p1 i0 i1 i2) (b_X6_seek_1 (g_X6_seek k2) k2 (zmg S X) p0 p1 i0 i1 i2)
      unfold b_X6_seek_1
      repeat' (first
        | exact fr_some
        | exact fr_none
        | exact ih _ (by omega) _ _ _ _ _ _ _
        | refine fr_bd2 (frf_X6_boxOf _ (by omega) _ _ _ _ _) (fun _ _ => ?_)
        | refine fr_is (by decide) ?_
        | refine fr_if ?_ ?_
        | refine fr_rd (fun _ h => rdFi_m (by decide) h) (fun _ => ?_)
        | refine fr_rd (fun _ h => rdFp_m (by decide) h) (fun _ => ?_)
        | refine fr_rd (fun _ h => rdA_m h) (fun _ => ?_)
        | refine fr_wr (fun _ h => wrA_m h) (fun _ => ?_)
        | refine fr_wr (fun _ h => wrF_m (by decide) h) (fun _ => ?_))
    · show Fr X (b_X6_seek_2 (g_X6_seek k) k S p0 p1 i0 i1 i2) (b_X6_seek_2 (g_X6_seek k2) k2 (zmg S X) p0 p1 i0 i1 i2)
      unfold b_X6_seek_2
      repeat' (first
        | exact fr_some
        | exact fr_none
        | exact ih _ (by omega) _ _ _ _ _ _ _
        | refine fr_is (by decide) ?_
        | refine fr_if ?_ ?_
        | refine fr_wr (fun _ h => wrF_m (by decide) h) (fun _ => ?_))
theorem frf_X6_seek {X : xS} {fu : Nat} (fv : Nat) (hk : fu ≤ fv) (S : xS) (p0 : Nat) (i0 : Int) : Fr X (f_X6_seek fu S p0 i0) (f_X6_seek fv (zmg S X) p0 i0) := fr_X6_seek fu fv hk _ _ _ _ _ _ _
theorem fr_X6_isSo {X : xS} : ∀ (k k2 : Nat), k ≤ k2 → ∀ (lb : Nat) (S : xS) (p0 : Nat) (i0 : Int) (i1 : Int), Fr X (g_X6_isSo k lb S p0 i0 i1) (g_X6_isSo k2 lb (zmg S X) p0 i0 i1) := by
  intro k
  induction k with
  | zero => intros; exact fr_none
  | succ k ih =>
    intro k2 hk lb S p0 i0 i1
    obtain ⟨k2, rfl⟩ : ∃ z, k2 = z + 1 := ⟨k2 - 1, by omega⟩
    rcases lb with _ | _ | _ | _ | _ | _ | _ | lb
    · show Fr X (b_X6_isSo_0 (g_X6_isSo k) k S p0 i0 i1) (b_X6_isSo_0 (g_X6_isSo k2) k2 (zmg S X) p0 i0 i1)
      unfold b_X6_isSo_0
      repeat' (first
        | exact fr_some
        | exact fr_none
        | exact ih _ (by omega) _ _ _ _ _
        | refine fr_is (by decide) ?_
        | refine fr_if ?_ ?_)
    · show Fr X (b_X6_isSo_1 (g_X6_isSo k) k S p0 i0 i1) (b_X6_isSo_1 (g_X6_isSo k2) k2 (zmg S X) p0 i0 i1)
      unfold b_X6_isSo_1
      repeat' (first
        | exact fr_some
        | exact fr_none
        | exact ih _ (by omega) _ _ _ _ _
        | refine fr_bd2 (frf_X6_n _ (by omega) _ _) (fun _ _ => ?_)
        | refine fr_is (by decide) ?_
        | refine fr_if ?_ ?_
        | refine fr_rd (fun _ h => rdFp_m (by decide) h) (fun _ => ?_)
        | refine fr_rd (fun _ h => rdA_m h) (fun _ => ?_))
    · show Fr X (b_X6_isSo_2 (g_X6_isSo k) k S p0 i0 i1) (b_X6_isSo_2 (g_X6_isSo k2) k2 (zmg S X) p0 i0 i1)
      unfold b_X6_isSo_2
      repeat' (first
        | exact fr_some
        | exact fr_none
        | exact ih _ (by omega) _ _ _ _ _
        | refine fr_is (by decide) ?_
        | refine fr_if ?_ ?_)
    · show Fr X (b_X6_isSo_3 (g_X6_isSo k) k S p0 i0 i1) (b_X6_isSo_3 (g_X6_isSo k2) k2 (zmg S X) p0 i0 i1)
      unfold b_X6_isSo_3
      repeat' (first
        | exact fr_some
        | exact fr_none
        | exact ih _ (by omega) _ _ _ _ _
        | refine fr_is (by decide) ?_
        | refine fr_if ?_ ?_)
    · show Fr X (b_X6_isSo_4 (g_X6_isSo k) k S p0 i0 i1) (b_X6_isSo_4 (g_X6_isSo k2) k2 (zmg S X) p0 i0 i1)
      unfold b_X6_isSo_4
      repeat' (first
        | exact fr_some
        | exact fr_none
        | exact ih _ (by omega) _ _ _ _ _
        | refine fr_is (by decide) ?_
        | refine fr_if ?_ ?_)
    · show Fr X (b_X6_isSo_5 (g_X6_isSo k) k S p0 i0 i1) (b_X6_isSo_5 (g_X6_isSo k2) k2 (zmg S X) p0 i0 i1)
      unfold b_X6_isSo_5
      repeat' (first
        | exact fr_some
        | exact fr_none
        | exact ih _ (by omega) _ _ _ _ _
        | refine fr_bd2 (frf_X6_seek _ (by omega) _ _ _) (fun _ _ => ?_)
        | refine fr_is (by decide) ?_
        | refine fr_if ?_ ?_
        | refine fr_rd (fun _ h => rdFp_m (by decide) h) (fun _ => ?_)
        | refine fr_rd (fun _ h => rdA_m h) (fun _ => ?_)
        | refine fr_rd (fun _ h => rdFi_m (by decide) h) (fun _ => ?_))
    · show Fr X (b_X6_isSo_6 (g_X6_isSo k) k S p0 i0 i1) (b_X6_isSo_6 (g_X6_isSo k2) k2 (zmg S X) p0 i0 i1)
      unfold b_X6_isSo_6
      repeat' (first
        | exact fr_some
        | exact fr_none
        | exact ih _ (by omega) _ _ _ _ _
        | refine fr_is (by decide) ?_
        | refine fr_if ?_ ?_
        | refine fr_rd (fun _ h => rdFp_m (by decide) h) (fun _ => ?_)
        | refine fr_rd (fun _ h => rdA_m h) (fun _ => ?_))
    · show Fr X (b_X6_isSo_7 (g_X6_isSo k) k S p0 i0 i1) (b_X6_isSo_7 (g_X6_isSo k2) k2 (zmg S X) p0 i0 i1)
      unfold b_X6_isSo_7
      repeat' (first
        | exact fr_some
        | exact fr_none
        | exact ih _ (by omega) _ _ _ _ _
        | refine fr_is (by decide) ?_
        | refine fr_if ?_ ?_)
theorem frf_X6_isSo {X : xS} {fu : Nat} (fv : Nat) (hk : fu ≤ fv) (S : xS) (p0 : Nat) : Fr X (f_X6_isSo fu S p0) (f_X6_isSo fv (zmg S X) p0) := fr_X6_isSo fu fv hk _ _ _ _ _
theorem fr_X6_mayBe {X : xS} : ∀ (k k2 : Nat), k ≤ k2 → ∀ (lb : Nat) (S : xS) (p0 : Nat) (i0 : Int) (i1 : Int) (i2 : Int) (i3 : Int), Fr X (g_X6_mayBe k lb S p0 i0 i1 i2 i3) (g_X6_mayBe k2 lb (zmg S X) p0 i0 i1 i2 i3) := by
  intro k
  induction k with
  | zero => intros; exact fr_none
  | succ k ih =>
    intro k2 hk lb S p0 i0 i1 i2 i3
    obtain ⟨k2, rfl⟩ : ∃ z, k2 = z + 1 := ⟨k2 - 1, by omega⟩
    rcases lb with _ | _ | _ | lb
    · show Fr X (b_X6_mayBe_0 (g_X6_mayBe k) k S p0 i0 i1 i2 i3) (b_X6_mayBe_0 (g_X6_mayBe k2) k2 (zmg S X) p0 i0 i1 i2 i3)
      unfold b_X6_mayBe_0
      repeat' (first
        | exact fr_some
        | exact fr_none
        | exact ih _ (by omega) _ _ _ _ _ _ _
        | refine fr_bd2 (frf_X6_bad _ (by omega) _ _ _) (fun _ _ => ?_)
        | refine fr_is (by decide) ?_
        | refine fr_if ?_ ?_)
    · show Fr X (b_X6_mayBe_1 (g_X6_mayBe k) k S p0 i0 i1 i2 i3) (b_X6_mayBe_1 (g_X6_mayBe k2) k2 (zmg S X) p0 i0 i1 i2 i3)
      unfold b_X6_mayBe_1
      repeat' (first
        | exact fr_some
        | exact fr_none
        | exact ih _ (by omega) _ _ _ _ _ _ _
        | refine fr_bd2 (frf_X6_ways _ (by omega) _ _) (fun _ _ => ?_)
        | refine fr_bd2 (frf_X6_takeRank _ (by omega) _ _ _) (fun _ _ => ?_)
        | refine fr_bd2 (frf_X6_isSo _ (by omega) _ _) (fun _ _ => ?_)
        | refine fr_is (by decide) ?_
        | refine fr_if ?_ ?_)
    · show Fr X (b_X6_mayBe_2 (g_X6_mayBe k) k S p0 i0 i1 i2 i3) (b_X6_mayBe_2 (g_X6_mayBe k2) k2 (zmg S X) p0 i0 i1 i2 i3)
      unfold b_X6_mayBe_2
      repeat' (first
        | exact fr_some
        | exact fr_none
        | exact ih _ (by omega) _ _ _ _ _ _ _
        | refine fr_is (by decide) ?_
        | refine fr_if ?_ ?_)
    · show Fr X (b_X6_mayBe_3 (g_X6_mayBe k) k S p0 i0 i1 i2 i3) (b_X6_mayBe_3 (g_X6_mayBe k2) k2 (zmg S X) p0 i0 i1 i2 i3)
      unfold b_X6_mayBe_3
      repeat' (first
        | exact fr_some
        | exact fr_none
        | exact ih _ (by omega) _ _ _ _ _ _ _
        | refine fr_is (by decide) ?_
        | refine fr_if ?_ ?_)
theorem frf_X6_mayBe {X : xS} {fu : Nat} (fv : Nat) (hk : fu ≤ fv) (S : xS) (p0 : Nat) (i0 : Int) : Fr X (f_X6_mayBe fu S p0 i0) (f_X6_mayBe fv (zmg S X) p0 i0) := fr_X6_mayBe fu fv hk _ _ _ _ _ _ _
theorem frf_X6_all {X : xS} {fu : Nat} (fv : Nat) (hk : fu ≤ fv) (S : xS) (p0 : Nat) : Fr X (f_X6_all fu S p0) (f_X6_all fv (zmg S X) p0) := by
  unfold f_X6_all
  repeat' (first
    | exact fr_some
    | exact fr_none
    | refine fr_bd2 (frf_X6_n _ (by omega) _ _) (fun _ _ => ?_)
    | refine fr_is (by decide) ?_
    | refine fr_if ?_ ?_)
theorem fr_X6_in {X : xS} : ∀ (k k2 : Nat), k ≤ k2 → ∀ (lb : Nat) (S : xS) (i0 : Int) (i1 : Int) (i2 : Int), Fr X (g_X6_in k lb S i0 i1 i2) (g_X6_in k2 lb (zmg S X) i0 i1 i2) := by
  intro k
  induction k with
  | zero => intros; exact fr_none
  | succ k ih =>
    intro k2 hk lb S i0 i1 i2
    obtain ⟨k2, rfl⟩ : ∃ z, k2 = z + 1 := ⟨k2 - 1, by omega⟩
    rcases lb with _ | lb
    · show Fr X (b_X6_in_0 (g_X6_in k) k S i0 i1 i2) (b_X6_in_0 (g_X6_in k2) k2 (zmg S X) i0 i1 i2)
      unfold b_X6_in_0
      repeat' (first
        | exact fr_some
        | exact fr_none
        | exact ih _ (by omega) _ _ _ _ _
        | refine fr_is (by decide) ?_
        | refine fr_if ?_ ?_)
    · show Fr X (b_X6_in_1 (g_X6_in k) k S i0 i1 i2) (b_X6_in_1 (g_X6_in k2) k2 (zmg S X) i0 i1 i2)
      unfold b_X6_in_1
      repeat' (first
        | exact fr_some
        | exact fr_none
        | exact ih _ (by omega) _ _ _ _ _
        | refine fr_is (by decide) ?_
        | refine fr_if ?_ ?_)
theorem frf_X6_in {X : xS} {fu : Nat} (fv : Nat) (hk : fu ≤ fv) (S : xS) (i0 : Int) (i1 : Int) (i2 : Int) : Fr X (f_X6_in fu S i0 i1 i2) (f_X6_in fv (zmg S X) i0 i1 i2) := fr_X6_in fu fv hk _ _ _ _ _
theorem frf_X6_no {X : xS} {fu : Nat} (fv : Nat) (hk : fu ≤ fv) (S : xS) (p0 : Nat) : Fr X (f_X6_no fu S p0) (f_X6_no fv (zmg S X) p0) := by
  unfold f_X6_no
  repeat' (first
    | exact fr_some
    | exact fr_none
    | refine fr_is (by decide) ?_
    | refine fr_if ?_ ?_
    | refine fr_rd (fun _ h => rdFp_m (by decide) h) (fun _ => ?_)
    | refine fr_rd (fun _ h => rdA_m h) (fun _ => ?_)
    | refine fr_wr (fun _ h => wrA_m h) (fun _ => ?_))
theorem fr_X6_tell {X : xS} : ∀ (k k2 : Nat), k ≤ k2 → ∀ (lb : Nat) (S : xS) (p0 : Nat) (i0 : Int) (i1 : Int) (i2 : Int) (i3 : Int), Fr X (g_X6_tell k lb S p0 i0 i1 i2 i3) (g_X6_tell k2 lb (zmg S X) p0 i0 i1 i2 i3) := by
  intro k
  induction k with
  | zero => intros; exact fr_none
  | succ k ih =>
    intro k2 hk lb S p0 i0 i1 i2 i3
    obtain ⟨k2, rfl⟩ : ∃ z, k2 = z + 1 := ⟨k2 - 1, by omega⟩
    rcases lb with _ | lb
    · show Fr X (b_X6_tell_0 (g_X6_tell k) k S p0 i0 i1 i2 i3) (b_X6_tell_0 (g_X6_tell k2) k2 (zmg S X) p0 i0 i1 i2 i3)
      unfold b_X6_tell_0
      repeat' (first
        | exact fr_some
        | exact fr_none
        | exact ih _ (by omega) _ _ _ _ _ _ _
        | refine fr_is (by decide) ?_
        | refine fr_if ?_ ?_)
    · show Fr X (b_X6_tell_1 (g_X6_tell k) k S p0 i0 i1 i2 i3) (b_X6_tell_1 (g_X6_tell k2) k2 (zmg S X) p0 i0 i1 i2 i3)
      unfold b_X6_tell_1
      repeat' (first
        | exact fr_some
        | exact fr_none
        | exact ih _ (by omega) _ _ _ _ _ _ _
        | refine fr_is (by decide) ?_
        | refine fr_if ?_ ?_
        | refine fr_wr (fun _ h => wrF_m (by decide) h) (fun _ => ?_))
theorem frf_X6_tell {X : xS} {fu : Nat} (fv : Nat) (hk : fu ≤ fv) (S : xS) (p0 : Nat) (i0 : Int) (i1 : Int) : Fr X (f_X6_tell fu S p0 i0 i1) (f_X6_tell fv (zmg S X) p0 i0 i1) := fr_X6_tell fu fv hk _ _ _ _ _ _ _
theorem fr_X6_findsHand {X : xS} : ∀ (k k2 : Nat), k ≤ k2 → ∀ (lb : Nat) (S : xS) (p0 : Nat) (i0 : Int) (i1 : Int) (i2 : Int), Fr X (g_X6_findsHand k lb S p0 i0 i1 i2) (g_X6_findsHand k2 lb (zmg S X) p0 i0 i1 i2) := by
  intro k
  induction k with
  | zero => intros; exact fr_none
  | succ k ih =>
    intro k2 hk lb S p0 i0 i1 i2
    obtain ⟨k2, rfl⟩ : ∃ z, k2 = z + 1 := ⟨k2 - 1, by omega⟩
    rcases lb with _ | _ | lb
    · show Fr X (b_X6_findsHand_0 (g_X6_findsHand k) k S p0 i0 i1 i2) (b_X6_findsHand_0 (g_X6_findsHand k2) k2 (zmg S X) p0 i0 i1 i2)
      unfold b_X6_findsHand_0
      repeat' (first
        | exact fr_some
        | exact fr_none
        | exact ih _ (by omega) _ _ _ _ _ _
        | refine fr_is (by decide) ?_
        | refine fr_if ?_ ?_)
    · show Fr X (b_X6_findsHand_1 (g_X6_findsHand k) k S p0 i0 i1 i2) (b_X6_findsHand_1 (g_X6_findsHand k2) k2 (zmg S X) p0 i0 i1 i2)
      unfold b_X6_findsHand_1
      repeat' (first
        | exact fr_some
        | exact fr_none
        | exact ih _ (by omega) _ _ _ _ _ _
        | refine fr_bd2 (frf_X6_n _ (by omega) _ _) (fun _ _ => ?_)
        | refine fr_bd2 (frf_X6_seek _ (by omega) _ _ _) (fun _ _ => ?_)
        | refine fr_is (by decide) ?_
        | refine fr_if ?_ ?_
        | refine fr_rd (fun _ h => rdFi_m (by decide) h) (fun _ => ?_))
    · show Fr X (b_X6_findsHand_2 (g_X6_findsHand k) k S p0 i0 i1 i2) (b_X6_findsHand_2 (g_X6_findsHand k2) k2 (zmg S X) p0 i0 i1 i2)
      unfold b_X6_findsHand_2
      repeat' (first
        | exact fr_some
        | exact fr_none
        | exact ih _ (by omega) _ _ _ _ _ _
        | refine fr_is (by decide) ?_
        | refine fr_if ?_ ?_)
theorem frf_X6_findsHand {X : xS} {fu : Nat} (fv : Nat) (hk : fu ≤ fv) (S : xS) (p0 : Nat) : Fr X (f_X6_findsHand fu S p0) (f_X6_findsHand fv (zmg S X) p0) := fr_X6_findsHand fu fv hk _ _ _ _ _ _
theorem fr_X6_chance {X : xS} : ∀ (k k2 : Nat), k ≤ k2 → ∀ (lb : Nat) (S : xS) (p0 : Nat) (i0 : Int) (i1 : Int) (i2 : Int) (i3 : Int) (i4 : Int), Fr X (g_X6_chance k lb S p0 i0 i1 i2 i3 i4) (g_X6_chance k2 lb (zmg S X) p0 i0 i1 i2 i3 i4) := by
  intro k
  induction k with
  | zero => intros; exact fr_none
  | succ k ih =>
    intro k2 hk lb S p0 i0 i1 i2 i3 i4
    obtain ⟨k2, rfl⟩ : ∃ z, k2 = z + 1 := ⟨k2 - 1, by omega⟩
    rcases lb with _ | _ | _ | lb
    · show Fr X (b_X6_chance_0 (g_X6_chance k) k S p0 i0 i1 i2 i3 i4) (b_X6_chance_0 (g_X6_chance k2) k2 (zmg S X) p0 i0 i1 i2 i3 i4)
      unfold b_X6_chance_0
      repeat' (first
        | exact fr_some
        | exact fr_none
        | exact ih _ (by omega) _ _ _ _ _ _ _ _
        | refine fr_bd2 (frf_X6_all _ (by omega) _ _) (fun _ _ => ?_)
        | refine fr_bd2 (frf_X6_in _ (by omega) _ _ _ _) (fun _ _ => ?_)
        | refine fr_bd2 (frf_X6_bad _ (by omega) _ _ _) (fun _ _ => ?_)
        | refine fr_is (by decide) ?_
        | refine fr_if ?_ ?_)
    · show Fr X (b_X6_chance_1 (g_X6_chance k) k S p0 i0 i1 i2 i3 i4) (b_X6_chance_1 (g_X6_chance k2) k2 (zmg S X) p0 i0 i1 i2 i3 i4)
      unfold b_X6_chance_1
      repeat' (first
        | exact fr_some
        | exact fr_none
        | exact ih _ (by omega) _ _ _ _ _ _ _ _
        | refine fr_bd2 (frf_X6_ways _ (by omega) _ _) (fun _ _ => ?_)
        | refine fr_bd2 (frf_X6_no _ (by omega) _ _) (fun _ _ => ?_)
        | refine fr_bd2 (frf_X6_tell _ (by omega) _ _ _ _) (fun _ _ => ?_)
        | refine fr_bd2 (frf_X6_takeRank _ (by omega) _ _ _) (fun _ _ => ?_)
        | refine fr_bd2 (frf_X6_isSo _ (by omega) _ _) (fun _ _ => ?_)
        | refine fr_bd2 (frf_X6_findsHand _ (by omega) _ _) (fun _ _ => ?_)
        | refine fr_is (by decide) ?_
        | refine fr_if ?_ ?_)
    · show Fr X (b_X6_chance_2 (g_X6_chance k) k S p0 i0 i1 i2 i3 i4) (b_X6_chance_2 (g_X6_chance k2) k2 (zmg S X) p0 i0 i1 i2 i3 i4)
      unfold b_X6_chance_2
      repeat' (first
        | exact fr_some
        | exact fr_none
        | exact ih _ (by omega) _ _ _ _ _ _ _ _
        | refine fr_is (by decide) ?_
        | refine fr_if ?_ ?_)
    · show Fr X (b_X6_chance_3 (g_X6_chance k) k S p0 i0 i1 i2 i3 i4) (b_X6_chance_3 (g_X6_chance k2) k2 (zmg S X) p0 i0 i1 i2 i3 i4)
      unfold b_X6_chance_3
      repeat' (first
        | exact fr_some
        | exact fr_none
        | exact ih _ (by omega) _ _ _ _ _ _ _ _
        | refine fr_is (by decide) ?_
        | refine fr_if ?_ ?_)
theorem frf_X6_chance {X : xS} {fu : Nat} (fv : Nat) (hk : fu ≤ fv) (S : xS) (p0 : Nat) (i0 : Int) : Fr X (f_X6_chance fu S p0 i0) (f_X6_chance fv (zmg S X) p0 i0) := fr_X6_chance fu fv hk _ _ _ _ _ _ _ _
theorem fr_X6_takeRules {X : xS} : ∀ (k k2 : Nat), k ≤ k2 → ∀ (lb : Nat) (S : xS) (p0 : Nat) (i0 : Int), Fr X (g_X6_takeRules k lb S p0 i0) (g_X6_takeRules k2 lb (zmg S X) p0 i0) := by
  intro k
  induction k with
  | zero => intros; exact fr_none
  | succ k ih =>
    intro k2 hk lb S p0 i0
    obtain ⟨k2, rfl⟩ : ∃ z, k2 = z + 1 := ⟨k2 - 1, by omega⟩
    rcases lb with _ | lb
    · show Fr X (b_X6_takeRules_0 (g_X6_takeRules k) k S p0 i0) (b_X6_takeRules_0 (g_X6_takeRules k2) k2 (zmg S X) p0 i0)
      unfold b_X6_takeRules_0
      repeat' (first
        | exact fr_some
        | exact fr_none
        | exact ih _ (by omega) _ _ _ _
        | refine fr_is (by decide) ?_
        | refine fr_if ?_ ?_)
    · show Fr X (b_X6_takeRules_1 (g_X6_takeRules k) k S p0 i0) (b_X6_takeRules_1 (g_X6_takeRules k2) k2 (zmg S X) p0 i0)
      unfold b_X6_takeRules_1
      repeat' (first
        | exact fr_some
        | exact fr_none
        | exact ih _ (by omega) _ _ _ _
        | refine fr_is (by decide) ?_
        | refine fr_if ?_ ?_
        | refine fr_rd (fun _ h => rdFp_m (by decide) h) (fun _ => ?_)
        | refine fr_rd (fun _ h => rdA_m h) (fun _ => ?_)
        | refine fr_wr (fun _ h => wrA_m h) (fun _ => ?_))
theorem frf_X6_takeRules {X : xS} {fu : Nat} (fv : Nat) (hk : fu ≤ fv) (S : xS) (p0 : Nat) : Fr X (f_X6_takeRules fu S p0) (f_X6_takeRules fv (zmg S X) p0) := fr_X6_takeRules fu fv hk _ _ _ _
theorem fr_X6_giveRules {X : xS} : ∀ (k k2 : Nat), k ≤ k2 → ∀ (lb : Nat) (S : xS) (p0 : Nat) (i0 : Int), Fr X (g_X6_giveRules k lb S p0 i0) (g_X6_giveRules k2 lb (zmg S X) p0 i0) := by
  intro k
  induction k with
  | zero => intros; exact fr_none
  | succ k ih =>
    intro k2 hk lb S p0 i0
    obtain ⟨k2, rfl⟩ : ∃ z, k2 = z + 1 := ⟨k2 - 1, by omega⟩
    rcases lb with _ | lb
    · show Fr X (b_X6_giveRules_0 (g_X6_giveRules k) k S p0 i0) (b_X6_giveRules_0 (g_X6_giveRules k2) k2 (zmg S X) p0 i0)
      unfold b_X6_giveRules_0
      repeat' (first
        | exact fr_some
        | exact fr_none
        | exact ih _ (by omega) _ _ _ _
        | refine fr_is (by decide) ?_
        | refine fr_if ?_ ?_)
    · show Fr X (b_X6_giveRules_1 (g_X6_giveRules k) k S p0 i0) (b_X6_giveRules_1 (g_X6_giveRules k2) k2 (zmg S X) p0 i0)
      unfold b_X6_giveRules_1
      repeat' (first
        | exact fr_some
        | exact fr_none
        | exact ih _ (by omega) _ _ _ _
        | refine fr_is (by decide) ?_
        | refine fr_if ?_ ?_
        | refine fr_rd (fun _ h => rdFp_m (by decide) h) (fun _ => ?_)
        | refine fr_rd (fun _ h => rdA_m h) (fun _ => ?_)
        | refine fr_wr (fun _ h => wrA_m h) (fun _ => ?_))
theorem frf_X6_giveRules {X : xS} {fu : Nat} (fv : Nat) (hk : fu ≤ fv) (S : xS) (p0 : Nat) : Fr X (f_X6_giveRules fu S p0) (f_X6_giveRules fv (zmg S X) p0) := fr_X6_giveRules fu fv hk _ _ _ _
theorem fr_X6_tryRules {X : xS} : ∀ (k k2 : Nat), k ≤ k2 → ∀ (lb : Nat) (S : xS) (p0 : Nat) (p1 : Nat) (i0 : Int) (i1 : Int) (i2 : Int) (i3 : Int), Fr X (g_X6_tryRules k lb S p0 p1 i0 i1 i2 i3) (g_X6_tryRules k2 lb (zmg S X) p0 p1 i0 i1 i2 i3) := by
  intro k
  induction k with
  | zero => intros; exact fr_none
  | succ k ih =>
    intro k2 hk lb S p0 p1 i0 i1 i2 i3
    obtain ⟨k2, rfl⟩ : ∃ z, k2 = z + 1 := ⟨k2 - 1, by omega⟩
    rcases lb with _ | _ | _ | lb
    · show Fr X (b_X6_tryRules_0 (g_X6_tryRules k) k S p0 p1 i0 i1 i2 i3) (b_X6_tryRules_0 (g_X6_tryRules k2) k2 (zmg S X) p0 p1 i0 i1 i2 i3)
      unfold b_X6_tryRules_0
      repeat' (first
        | exact fr_some
        | exact fr_none
        | exact ih _ (by omega) _ _ _ _ _ _ _ _
        | refine fr_is (by decide) ?_
        | refine fr_if ?_ ?_)
    · show Fr X (b_X6_tryRules_1 (g_X6_tryRules k) k S p0 p1 i0 i1 i2 i3) (b_X6_tryRules_1 (g_X6_tryRules k2) k2 (zmg S X) p0 p1 i0 i1 i2 i3)
      unfold b_X6_tryRules_1
      repeat' (first
        | exact fr_some
        | exact fr_none
        | exact ih _ (by omega) _ _ _ _ _ _ _ _
        | refine fr_bd2 (frf_X6_giveRules _ (by omega) _ _) (fun _ _ => ?_)
        | refine fr_is (by decide) ?_
        | refine fr_if ?_ ?_)
    · show Fr X (b_X6_tryRules_2 (g_X6_tryRules k) k S p0 p1 i0 i1 i2 i3) (b_X6_tryRules_2 (g_X6_tryRules k2) k2 (zmg S X) p0 p1 i0 i1 i2 i3)
      unfold b_X6_tryRules_2
      repeat' (first
        | exact fr_some
        | exact fr_none
        | exact ih _ (by omega) _ _ _ _ _ _ _ _
        | refine fr_bd2 (frf_X6_n _ (by omega) _ _) (fun _ _ => ?_)
        | refine fr_bd2 (frf_X6_findsHand _ (by omega) _ _) (fun _ _ => ?_)
        | refine fr_bd2 (frf_X6_all _ (by omega) _ _) (fun _ _ => ?_)
        | refine fr_is (by decide) ?_
        | refine fr_if ?_ ?_
        | refine fr_rd (fun _ h => rdFp_m (by decide) h) (fun _ => ?_)
        | refine fr_rd (fun _ h => rdA_m h) (fun _ => ?_)
        | refine fr_wr (fun _ h => wrA_m h) (fun _ => ?_))
    · show Fr X (b_X6_tryRules_3 (g_X6_tryRules k) k S p0 p1 i0 i1 i2 i3) (b_X6_tryRules_3 (g_X6_tryRules k2) k2 (zmg S X) p0 p1 i0 i1 i2 i3)
      unfold b_X6_tryRules_3
      repeat' (first
        | exact fr_some
        | exact fr_none
        | exact ih _ (by omega) _ _ _ _ _ _ _ _
        | refine fr_is (by decide) ?_
        | refine fr_if ?_ ?_
        | refine fr_wr (fun _ h => wrA_m h) (fun _ => ?_))
theorem frf_X6_tryRules {X : xS} {fu : Nat} (fv : Nat) (hk : fu ≤ fv) (S : xS) (p0 : Nat) : Fr X (f_X6_tryRules fu S p0) (f_X6_tryRules fv (zmg S X) p0) := fr_X6_tryRules fu fv hk _ _ _ _ _ _ _ _
theorem fr_X6_advice {X : xS} : ∀ (k k2 : Nat), k ≤ k2 → ∀ (lb : Nat) (S : xS) (p0 : Nat) (i0 : Int) (i1 : Int) (i2 : Int), Fr X (g_X6_advice k lb S p0 i0 i1 i2) (g_X6_advice k2 lb (zmg S X) p0 i0 i1 i2) := by
  intro k
  induction k with
  | zero => intros; exact fr_none
  | succ k ih =>
    intro k2 hk lb S p0 i0 i1 i2
    obtain ⟨k2, rfl⟩ : ∃ z, k2 = z + 1 := ⟨k2 - 1, by omega⟩
    rcases lb with _ | _ | _ | _ | _ | lb
    · show Fr X (b_X6_advice_0 (g_X6_advice k) k S p0 i0 i1 i2) (b_X6_advice_0 (g_X6_advice k2) k2 (zmg S X) p0 i0 i1 i2)
      unfold b_X6_advice_0
      repeat' (first
        | exact fr_some
        | exact fr_none
        | exact ih _ (by omega) _ _ _ _ _ _
        | refine fr_bd2 (frf_X6_takeRules _ (by omega) _ _) (fun _ _ => ?_)
        | refine fr_is (by decide) ?_
        | refine fr_if ?_ ?_)
    · show Fr X (b_X6_advice_1 (g_X6_advice k) k S p0 i0 i1 i2) (b_X6_advice_1 (g_X6_advice k2) k2 (zmg S X) p0 i0 i1 i2)
      unfold b_X6_advice_1
      repeat' (first
        | exact fr_some
        | exact fr_none
        | exact ih _ (by omega) _ _ _ _ _ _
        | refine fr_is (by decide) ?_
        | refine fr_if ?_ ?_
        | refine fr_rd (fun _ h => rdFp_m (by decide) h) (fun _ => ?_)
        | refine fr_wr (fun _ h => wrA_m h) (fun _ => ?_))
    · show Fr X (b_X6_advice_2 (g_X6_advice k) k S p0 i0 i1 i2) (b_X6_advice_2 (g_X6_advice k2) k2 (zmg S X) p0 i0 i1 i2)
      unfold b_X6_advice_2
      repeat' (first
        | exact fr_some
        | exact fr_none
        | exact ih _ (by omega) _ _ _ _ _ _
        | refine fr_bd2 (frf_X6_ways _ (by omega) _ _) (fun _ _ => ?_)
        | refine fr_bd2 (frf_X6_no _ (by omega) _ _) (fun _ _ => ?_)
        | refine fr_bd2 (frf_X6_takeRank _ (by omega) _ _ _) (fun _ _ => ?_)
        | refine fr_bd2 (frf_X6_isSo _ (by omega) _ _) (fun _ _ => ?_)
        | refine fr_bd2 (frf_X6_tryRules _ (by omega) _ _) (fun _ _ => ?_)
        | refine fr_is (by decide) ?_
        | refine fr_if ?_ ?_)
    · show Fr X (b_X6_advice_3 (g_X6_advice k) k S p0 i0 i1 i2) (b_X6_advice_3 (g_X6_advice k2) k2 (zmg S X) p0 i0 i1 i2)
      unfold b_X6_advice_3
      repeat' (first
        | exact fr_some
        | exact fr_none
        | exact ih _ (by omega) _ _ _ _ _ _
        | refine fr_is (by decide) ?_
        | refine fr_if ?_ ?_)
    · show Fr X (b_X6_advice_4 (g_X6_advice k) k S p0 i0 i1 i2) (b_X6_advice_4 (g_X6_advice k2) k2 (zmg S X) p0 i0 i1 i2)
      unfold b_X6_advice_4
      repeat' (first
        | exact fr_some
        | exact fr_none
        | exact ih _ (by omega) _ _ _ _ _ _
        | refine fr_bd2 (frf_X6_tell _ (by omega) _ _ _ _) (fun _ _ => ?_)
        | refine fr_is (by decide) ?_
        | refine fr_if ?_ ?_
        | refine fr_rd (fun _ h => rdFp_m (by decide) h) (fun _ => ?_)
        | refine fr_rd (fun _ h => rdA_m h) (fun _ => ?_))
    · show Fr X (b_X6_advice_5 (g_X6_advice k) k S p0 i0 i1 i2) (b_X6_advice_5 (g_X6_advice k2) k2 (zmg S X) p0 i0 i1 i2)
      unfold b_X6_advice_5
      repeat' (first
        | exact fr_some
        | exact fr_none
        | exact ih _ (by omega) _ _ _ _ _ _
        | refine fr_is (by decide) ?_
        | refine fr_if ?_ ?_)
theorem frf_X6_advice {X : xS} {fu : Nat} (fv : Nat) (hk : fu ≤ fv) (S : xS) (p0 : Nat) : Fr X (f_X6_advice fu S p0) (f_X6_advice fv (zmg S X) p0) := fr_X6_advice fu fv hk _ _ _ _ _ _
