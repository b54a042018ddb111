/-! a store with unknown cells (zD), and the stores that fill them: a run on the first, with some fuel, is a run on the others, with any more fuel -/
def zD : xC := .inr (.inr (99, []))
def zD99 (c : xC) : Bool := match c with
  | .inr (.inr (k, _)) => k == 99
  | _ => false
def zmg : xS → xS → xS
  | [], X => X
  | a :: S, [] => a :: S
  | a :: S, b :: X => (if zD99 a = true then b else a) :: zmg S X
theorem zmg_nil : ∀ S : xS, zmg S [] = S
  | [] => rfl
  | _ :: _ => rfl
theorem zmg_get : ∀ (S X : xS) (q : Nat) (a : xC), lGet S q = some a → zD99 a = false → lGet (zmg S X) q = some a
  | [], _, _, _, h, _ => by cases h
  | _ :: _, [], _, _, h, _ => h
  | b :: S, c :: X, 0, a, h, ha => by
    have e : b = a := Option.some.inj h
    subst e
    show some (if zD99 b = true then c else b) = some b
    rw [if_neg (by rw [ha]; decide)]
  | _ :: S, _ :: X, q + 1, a, h, ha => zmg_get S X q a h ha
theorem zmg_set : ∀ (S X : xS) (q : Nat) (a c : xC), lGet S q = some a → zD99 c = false → lSet (zmg S X) q c = zmg (lSet S q c) X
  | [], _, _, _, _, h, _ => by cases h
  | _ :: _, [], 0, _, _, _, _ => rfl
  | _ :: _, [], _ + 1, _, _, _, _ => rfl
  | b :: S, d :: X, 0, a, c, h, hc => by
    show c :: zmg S X = (if zD99 c = true then d else c) :: zmg S X
    rw [if_neg (by rw [hc]; decide)]
  | b :: S, d :: X, q + 1, a, c, h, hc => by
    show (if zD99 b = true then d else b) :: lSet (zmg S X) q c = (if zD99 b = true then d else b) :: zmg (lSet S q c) X
    rw [zmg_set S X q a c h hc]
theorem rdA_m {X : xS} {k : Nat} {S : xS} {q : Nat} {i v : Int} (h : rdA k S q i = some v) : rdA k (zmg S X) q i = some v := by
  unfold rdA at h ⊢
  split at h
  · next k' L hq =>
    rw [zmg_get S X q _ hq rfl]
    exact h
  · cases h
theorem rdP_m {X : xS} {k : Nat} {S : xS} {q : Nat} {i : Int} {v : Option Nat} (h : rdP k S q i = some v) : rdP k (zmg S X) q i = some v := by
  unfold rdP at h ⊢
  split at h
  · next k' L hq =>
    rw [zmg_get S X q _ hq rfl]
    exact h
  · cases h
theorem lenA_m {X : xS} {k : Nat} {S : xS} {q : Nat} {v : Int} (h : lenA k S q = some v) : lenA k (zmg S X) q = some v := by
  unfold lenA at h ⊢
  split at h
  · next k' L hq =>
    rw [zmg_get S X q _ hq rfl]
    exact h
  · cases h
theorem zD99_ne {c : Nat} {fs : List xV} (h : c ≠ 99) : zD99 (.inr (.inr (c, fs))) = false := beq_eq_false_iff_ne.mpr h
theorem rdF_m {X : xS} {ci k : Nat} {S : xS} {q : Nat} {v : xV} (hci : ci ≠ 99) (h : rdF ci k S q = some v) : rdF ci k (zmg S X) q = some v := by
  unfold rdF at h ⊢
  split at h
  · next c' fs hq =>
    split at h
    · next hc =>
      rw [zmg_get S X q _ hq (zD99_ne (by rw [hc]; exact hci))]
      show (if c' = ci then lGet fs k else none) = _
      rw [if_pos hc]
      exact h
    · cases h
  · cases h
theorem rdFi_m {X : xS} {ci k : Nat} {S : xS} {q : Nat} {v : Int} (hci : ci ≠ 99) (h : rdFi ci k S q = some v) : rdFi ci k (zmg S X) q = some v := by
  unfold rdFi at h ⊢
  split at h
  · next z hz =>
    rw [rdF_m hci hz]
    exact h
  · cases h
theorem rdFl_m {X : xS} {ci k : Nat} {S : xS} {q : Nat} {v : Int} (hci : ci ≠ 99) (h : rdFl ci k S q = some v) : rdFl ci k (zmg S X) q = some v := by
  unfold rdFl at h ⊢
  split at h
  · next z hz =>
    rw [rdF_m hci hz]
    exact h
  · cases h
theorem rdFr_m {X : xS} {ci k : Nat} {S : xS} {q : Nat} {v : Option Nat} (hci : ci ≠ 99) (h : rdFr ci k S q = some v) : rdFr ci k (zmg S X) q = some v := by
  unfold rdFr at h ⊢
  split at h
  · next z hz =>
    rw [rdF_m hci hz]
    exact h
  · cases h
theorem rdFp_m {X : xS} {ci k : Nat} {S : xS} {q : Nat} {v : Nat} (hci : ci ≠ 99) (h : rdFp ci k S q = some v) : rdFp ci k (zmg S X) q = some v := by
  unfold rdFp at h ⊢
  split at h
  · next z hz =>
    rw [rdF_m hci hz]
    exact h
  · cases h
theorem isO_m {X : xS} {ci : Nat} {S : xS} {q : Nat} (hci : ci ≠ 99) (h : isO ci S q = true) : isO ci (zmg S X) q = true := by
  unfold isO at h ⊢
  split at h
  · next c' fs hq =>
    have hc : c' = ci := beq_iff_eq.mp h
    rw [zmg_get S X q _ hq (zD99_ne (by rw [hc]; exact hci))]
    exact h
  · cases h
theorem wrA_m {X : xS} {k : Nat} {S S' : xS} {q : Nat} {i x : Int} (h : wrA k S q i x = some S') : wrA k (zmg S X) q i x = some (zmg S' X) := by
  unfold wrA at h ⊢
  split at h
  · next k' L hq =>
    split at h
    · next hc =>
      rw [zmg_get S X q _ hq rfl]
      show (if k' = k ∧ 0 ≤ i ∧ i < 2147483648 ∧ (lGet L i.toNat).isSome = true then some (lSet (zmg S X) q (.inl (k, lSet L i.toNat x))) else none) = _
      rw [if_pos hc, zmg_set S X q _ _ hq rfl, Option.some.inj h]
    · cases h
  · cases h
theorem wrF_m {X : xS} {ci k : Nat} {S S' : xS} {q : Nat} {v : xV} (hci : ci ≠ 99) (h : wrF ci k S q v = some S') : wrF ci k (zmg S X) q v = some (zmg S' X) := by
  unfold wrF at h ⊢
  split at h
  · next c' fs hq =>
    split at h
    · next hc =>
      rw [zmg_get S X q _ hq (zD99_ne (by rw [hc.1]; exact hci))]
      show (if c' = ci ∧ (lGet fs k).isSome = true then some (lSet (zmg S X) q (.inr (.inr (ci, lSet fs k v)))) else none) = _
      rw [if_pos hc, zmg_set S X q _ _ hq (zD99_ne hci), Option.some.inj h]
    · cases h
  · cases h
def Fr (X : xS) (o o' : Option (Int × xS)) : Prop := ∀ (r : Int) (S' : xS), o = some (r, S') → o' = some (r, zmg S' X)
theorem fr_some {X : xS} {r : Int} {S : xS} : Fr X (some (r, S)) (some (r, zmg S X)) := by
  intro r' S' h
  cases h
  rfl
theorem fr_none {X : xS} {o : Option (Int × xS)} : Fr X none o := by
  intro r S h
  cases h
theorem fr_bd2 {X : xS} {o o' : Option (Int × xS)} {f f' : Int → xS → Option (Int × xS)} (h1 : Fr X o o') (h2 : ∀ (x : Int) (S : xS), Fr X (f x S) (f' x (zmg S X))) : Fr X (bd2 o f) (bd2 o' f') := by
  intro r S' h
  obtain ⟨x, S, e, h⟩ := ob2 h
  rw [bd2_some (h1 x S e)]
  exact h2 x S r S' h
theorem fr_rd {X : xS} {α : Type} {o o' : Option α} {f f' : α → Option (Int × xS)} (h1 : ∀ v : α, o = some v → o' = some v) (h2 : ∀ v : α, Fr X (f v) (f' v)) : Fr X (o.bind f) (o'.bind f') := by
  intro r S' h
  obtain ⟨x, e, h⟩ := ob h
  rw [bind_some' (h1 x e)]
  exact h2 x r S' h
theorem fr_wr {X : xS} {o o' : Option xS} {f f' : xS → Option (Int × xS)} (h1 : ∀ S : xS, o = some S → o' = some (zmg S X)) (h2 : ∀ S : xS, Fr X (f S) (f' (zmg S X))) : Fr X (o.bind f) (o'.bind f') := by
  intro r S' h
  obtain ⟨x, e, h⟩ := ob h
  rw [bind_some' (h1 x e)]
  exact h2 x r S' h
theorem fr_if {X : xS} {c : Prop} [Decidable c] {a a' b b' : Option (Int × xS)} (ha : Fr X a a') (hb : Fr X b b') : Fr X (if c then a else b) (if c then a' else b') := by
  by_cases h : c
  · rw [if_pos h, if_pos h]
    exact ha
  · rw [if_neg h, if_neg h]
    exact hb
theorem fr_is {X : xS} {ci : Nat} {S : xS} {p : Nat} {a a' : Option (Int × xS)} (hci : ci ≠ 99) (ha : Fr X a a') : Fr X (if isO ci S p = true then a else none) (if isO ci (zmg S X) p = true then a' else none) := by
  intro r S' h
  obtain ⟨ho, h⟩ := ift h
  rw [if_pos (isO_m hci ho)]
  exact ha r S' h
theorem nmx_b {α β : Type} {a : α} {f : α → β} : nmx a f = f a := rfl
theorem fr_X4_slipLeft {X : xS} : ∀ (k k2 : Nat), k ≤ k2 → ∀ (lb : Nat) (S : xS) (i0 : Int) (i1 : Int) (i2 : Int) (i3 : Int) (i4 : Int), Fr X (g_X4_slipLeft k lb S i0 i1 i2 i3 i4) (g_X4_slipLeft k2 lb (zmg S X) i0 i1 i2 i3 i4) := by
  intro k
  induction k with
  | zero => intros; exact fr_none
  | succ k ih =>
    intro k2 hk lb S i0 i1 i2 i3 i4
    obtain ⟨k2, rfl⟩ : ∃ z, k2 = z + 1 := ⟨k2 - 1, by omega⟩
    rcases lb with _ | _ | lb
    · show Fr X (b_X4_slipLeft_0 (g_X4_slipLeft k) k S i0 i1 i2 i3 i4) (b_X4_slipLeft_0 (g_X4_slipLeft k2) k2 (zmg S X) i0 i1 i2 i3 i4)
      unfold b_X4_slipLeft_0
      repeat' (first
        | exact fr_some
        | exact fr_none
        | exact ih _ (by omega) _ _ _ _ _ _ _
        | refine fr_is (by decide) ?_
        | refine fr_if ?_ ?_)
    · show Fr X (b_X4_slipLeft_1 (g_X4_slipLeft k) k S i0 i1 i2 i3 i4) (b_X4_slipLeft_1 (g_X4_slipLeft k2) k2 (zmg S X) i0 i1 i2 i3 i4)
      unfold b_X4_slipLeft_1
      repeat' (first
        | exact fr_some
        | exact fr_none
        | exact ih _ (by omega) _ _ _ _ _ _ _
        | refine fr_is (by decide) ?_
        | refine fr_if ?_ ?_)
    · show Fr X (b_X4_slipLeft_2 (g_X4_slipLeft k) k S i0 i1 i2 i3 i4) (b_X4_slipLeft_2 (g_X4_slipLeft k2) k2 (zmg S X) i0 i1 i2 i3 i4)
      unfold b_X4_slipLeft_2
      repeat' (first
        | exact fr_some
        | exact fr_none
        | exact ih _ (by omega) _ _ _ _ _ _ _
        | refine fr_is (by decide) ?_
        | refine fr_if ?_ ?_)
theorem frf_X4_slipLeft {X : xS} {fu : Nat} (fv : Nat) (hk : fu ≤ fv) (S : xS) (i0 : Int) (i1 : Int) (i2 : Int) : Fr X (f_X4_slipLeft fu S i0 i1 i2) (f_X4_slipLeft fv (zmg S X) i0 i1 i2) := fr_X4_slipLeft fu fv hk _ _ _ _ _ _ _
