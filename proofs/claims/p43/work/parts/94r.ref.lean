variable {G : xT} {N : Nat} {n tl : Int} {a b : Bool}
/-! the reference: ranks, boxes opened -/
theorem fac_step {m F x : Int} (hm : 1 ≤ m ∧ m ≤ 7) (hF : F = fac (m - 1)) (hx : 0 ≤ x ∧ x ≤ m - 1) : 0 ≤ x * F ∧ x * F + F ≤ fac m := by
  obtain ⟨h1, h2, h3⟩ := fac_s hm
  rw [← hF] at h1 h2
  refine ⟨Int.mul_nonneg hx.1 (by omega), ?_⟩
  have h4 : x * F ≤ (m - 1) * F := Int.mul_le_mul_of_nonneg_right hx.2 (by omega)
  have h5 : m * F = (m - 1) * F + F := by
    rw [Int.sub_mul, Int.one_mul]
    omega
  omega
theorem tg_X6_rankOf (hN : 45 ≤ N) (hn : 2 ≤ n ∧ n ≤ 7) {mo : xV → Prop} (g26 : G 26 = o6 tl mo) (g27 : G 27 = tA 0 57 (nw n)) (g31 : G 31 = tA 0 7 (tR 0 6)) : ∀ (k : Nat), (∀ (S : xS) (i0 i1 i2 i3 i4 : Int), Hp G N S → 0 ≤ i1 ∧ i1 ≤ n → 0 ≤ i0 ∧ i0 + fac (n - i1) ≤ fac n → 16 * (n - i1) + 10 ≤ (k : Int) → Ok (g_X6_rankOf k 1 S 26 i0 i1 i2 i3 i4) (fun r S' => S' = S ∧ (0 ≤ r ∧ r < fac n))) ∧ (∀ (S : xS) (i0 i1 i2 i3 i4 : Int), Hp G N S → 0 ≤ i1 ∧ i1 < n → 0 ≤ i0 ∧ i0 + fac (n - i1) ≤ fac n → i1 + 1 ≤ i3 ∧ i3 ≤ n → 0 ≤ i2 ∧ i2 ≤ i3 - (i1 + 1) → 16 * (n - i1 - 1) + 11 + 2 * (n - i3) ≤ (k : Int) → Ok (g_X6_rankOf k 2 S 26 i0 i1 i2 i3 i4) (fun r S' => S' = S ∧ (0 ≤ r ∧ r < fac n))) ∧ (∀ (S : xS) (i0 i1 i2 i3 i4 : Int), Hp G N S → 0 ≤ i1 ∧ i1 < n → 0 ≤ i0 ∧ i0 + fac (n - i1) ≤ fac n → i1 + 1 ≤ i2 ∧ i2 < n → 0 ≤ i3 ∧ i3 ≤ i2 - (i1 + 1) → 0 ≤ i4 ∧ i4 ≤ 1 → 16 * (n - i1 - 1) + 10 + 2 * (n - i2) ≤ (k : Int) → Ok (g_X6_rankOf k 3 S 26 i0 i1 i2 i3 i4) (fun r S' => S' = S ∧ (0 ≤ r ∧ r < fac n))) := by
  intro k
  induction k with
  | zero => exact ⟨fun _ _ _ _ _ _ _ _ _ _ => by exfalso; omega, fun _ _ _ _ _ _ _ _ _ _ _ _ => by exfalso; omega, fun _ _ _ _ _ _ _ _ _ _ _ _ _ => by exfalso; omega⟩
  | succ k ih =>
    obtain ⟨ih1, ih2, ih3⟩ := ih
    refine ⟨?_, ?_, ?_⟩
    · intro S i0 i1 i2 i3 i4 hS h1 h0 hk
      show Ok (b_X6_rankOf_1 (g_X6_rankOf k) k S 26 i0 i1 i2 i3 i4) _
      unfold b_X6_rankOf_1
      refine ok_is hS (by omega) g26 ?_
      refine ok_n6 (by omega) g26 g27 hS ?_
      refine ok_if (fun hc => ?_) (fun hc => ?_)
      · simp (disch := omega) only [wIn] at hc
        have e : n - i1 = 0 := by omega
        rw [e, show fac 0 = 1 from by decide] at h0
        exact ok_some ⟨rfl, by omega⟩
      · simp (disch := omega) only [wIn] at hc
        exact ih2 S i0 i1 0 (i1 + 1) 0 hS (by omega) h0 (by omega) (by omega) (by omega)
    · intro S i0 i1 i2 i3 i4 hS h1 h0 h3 h2 hk
      show Ok (b_X6_rankOf_2 (g_X6_rankOf k) k S 26 i0 i1 i2 i3 i4) _
      unfold b_X6_rankOf_2
      refine ok_is hS (by omega) g26 ?_
      refine ok_n6 (by omega) g26 g27 hS ?_
      refine ok_if (fun hc => ?_) (fun hc => ?_)
      · simp (disch := omega) only [wIn] at hc
        refine ok_is hS (by omega) g26 ?_
        refine ok_n6 (by omega) g26 g27 hS ?_
        refine ok_fac (by omega) (by omega) ?_
        have hf := fac_step (m := n - i1) (F := fac (n - 1 - i1)) (x := i2) (by omega) (by rw [show n - i1 - 1 = n - 1 - i1 by omega]) (by omega)
        refine ih1 S (i0 + i2 * fac (n - 1 - i1)) (i1 + 1) 0 0 0 hS (by omega) ⟨by omega, ?_⟩ (by omega)
        rw [show n - (i1 + 1) = n - 1 - i1 by omega]
        omega
      · simp (disch := omega) only [wIn] at hc
        refine ok_rdFp hS (by omega) g26 rfl ?_
        refine ok_rdA hS (by omega) g31 tR_id (by omega) (by omega) (by omega) (fun _ _ _ => ?_)
        refine ok_rdFp hS (by omega) g26 rfl ?_
        refine ok_rdA hS (by omega) g31 tR_id (by omega) (by omega) (by omega) (fun _ _ _ => ?_)
        exact ok_if (fun _ => ih3 S i0 i1 i3 i2 0 hS h1 h0 (by omega) (by omega) (by omega) (by omega)) (fun _ => ih3 S i0 i1 i3 i2 1 hS h1 h0 (by omega) (by omega) (by omega) (by omega))
    · intro S i0 i1 i2 i3 i4 hS h1 h0 h2 h3 h4 hk
      exact ih2 S i0 i1 (i3 + i4) (i2 + 1) 0 hS h1 h0 (by omega) (by omega) (by omega)
theorem tf_X6_rankOf (hN : 45 ≤ N) (hn : 2 ≤ n ∧ n ≤ 7) {mo : xV → Prop} (g26 : G 26 = o6 tl mo) (g27 : G 27 = tA 0 57 (nw n)) (g31 : G 31 = tA 0 7 (tR 0 6)) {k : Nat} {S : xS} (hS : Hp G N S) (hk : 130 ≤ (k : Int)) : Ok (f_X6_rankOf k S 26) (fun r S' => S' = S ∧ (0 ≤ r ∧ r < fac n)) := by
  obtain ⟨k, rfl⟩ : ∃ k', k = k' + 1 := ⟨k - 1, by omega⟩
  refine (tg_X6_rankOf hN hn g26 g27 g31 k).1 S 0 0 0 0 0 hS (by omega) ⟨by omega, ?_⟩ (by omega)
  rw [show n - 0 = n by omega]
  omega
/-- an unopened box -/
def bF4 (l : Int) : Bool := (decide (2 ≤ pcn l) || (!hb l 0 || !hb l 1)) && ((decide (3 ≤ pcn l) || (!hb l 0 || !hb l 1 || !hb l 2)) && ((decide (4 ≤ pcn l) || (!hb l 0 || !hb l 1 || !hb l 2 || !hb l 3)) && ((decide (5 ≤ pcn l) || (!hb l 0 || !hb l 1 || !hb l 2 || !hb l 3 || !hb l 4)) && ((decide (6 ≤ pcn l) || (!hb l 0 || !hb l 1 || !hb l 2 || !hb l 3 || !hb l 4 || !hb l 5)) && (decide (7 ≤ pcn l) || (!hb l 0 || !hb l 1 || !hb l 2 || !hb l 3 || !hb l 4 || !hb l 5 || !hb l 6))))))
def bF5 (l v : Int) : Bool := decide (0 ≤ xOr l (xShl 1 v) ∧ xOr l (xShl 1 v) < 128 ∧ pcn (xOr l (xShl 1 v)) ≤ pcn l + 1)
theorem bF5_all : ∀ l : Nat, l < 128 → ∀ v : Nat, v < 7 → bF5 (l : Int) (v : Int) = true := by decide +kernel
theorem bF5_s {l v : Int} (hl : 0 ≤ l ∧ l < 128) (hv : 0 ≤ v ∧ v ≤ 6) : 0 ≤ xOr l (xShl 1 v) ∧ xOr l (xShl 1 v) < 128 ∧ pcn (xOr l (xShl 1 v)) ≤ pcn l + 1 := by
  have h := bF5_all l.toNat (by omega) v.toNat (by omega)
  rw [show ((l.toNat : Nat) : Int) = l by omega, show ((v.toNat : Nat) : Int) = v by omega] at h
  exact of_decide_eq_true h
theorem pcn_free {l : Int} (hn : 2 ≤ n ∧ n ≤ 7) (h : pcn l < n) : ∃ f : Int, 0 ≤ f ∧ f < n ∧ hb l f = false := by
  refine Classical.byContradiction (fun hno => ?_)
  have all : ∀ f : Int, 0 ≤ f → f < n → hb l f = true := fun f h0 h1 => by
    cases hx : hb l f with
    | true => rfl
    | false => exact absurd ⟨f, h0, h1, hx⟩ hno
  have z : ∀ w : Int, 0 ≤ (if hb l w = true then (1 : Int) else 0) := fun w => by split <;> omega
  have o : ∀ w : Int, 0 ≤ w → w < n → (if hb l w = true then (1 : Int) else 0) = 1 := fun w h0 h1 => if_pos (all w h0 h1)
  unfold pcn at h
  have z2 := z 2
  have z3 := z 3
  have z4 := z 4
  have z5 := z 5
  have z6 := z 6
  have o0 := o 0 (by omega) (by omega)
  have o1 := o 1 (by omega) (by omega)
  rcases (show n = 2 ∨ n = 3 ∨ n = 4 ∨ n = 5 ∨ n = 6 ∨ n = 7 by omega) with rfl | rfl | rfl | rfl | rfl | rfl
  · omega
  · have o2 := o 2 (by omega) (by omega)
    omega
  · have o2 := o 2 (by omega) (by omega)
    have o3 := o 3 (by omega) (by omega)
    omega
  · have o2 := o 2 (by omega) (by omega)
    have o3 := o 3 (by omega) (by omega)
    have o4 := o 4 (by omega) (by omega)
    omega
  · have o2 := o 2 (by omega) (by omega)
    have o3 := o 3 (by omega) (by omega)
    have o4 := o 4 (by omega) (by omega)
    have o5 := o 5 (by omega) (by omega)
    omega
  · have o2 := o 2 (by omega) (by omega)
    have o3 := o 3 (by omega) (by omega)
    have o4 := o 4 (by omega) (by omega)
    have o5 := o 5 (by omega) (by omega)
    have o6 := o 6 (by omega) (by omega)
    omega
theorem hb_iff {l v : Int} : (wI (xAnd (xShr l v) 1) = wI 1) ↔ hb l v = true := by
  unfold hb
  rw [show wI 1 = 1 from by decide]
  exact ⟨fun e => beq_iff_eq.mpr e, fun e => beq_iff_eq.mp e⟩
theorem tg_X6_free (hN : 45 ≤ N) (hn : 2 ≤ n ∧ n ≤ 7) {mo : xV → Prop} (g26 : G 26 = o6 tl mo) (g27 : G 27 = tA 0 57 (nw n)) {u : Int} : ∀ (d k : Nat) (S : xS) (x : Int), Hp G N S → 0 ≤ x ∧ x < n → (d : Int) < n → hb u ((x + (d : Int)) % n) = false → d + 1 ≤ k → Ok (g_X6_free k 1 S 26 u x) (fun r S' => S' = S ∧ (0 ≤ r ∧ r ≤ 6)) := by
  intro d
  induction d with
  | zero =>
    intro k S x hS hx _ hf hk
    obtain ⟨k, rfl⟩ : ∃ k', k = k' + 1 := ⟨k - 1, by omega⟩
    show Ok (b_X6_free_1 (g_X6_free k) k S 26 u x) _
    unfold b_X6_free_1
    have e : (x + ((0 : Nat) : Int)) % n = x := by
      rw [show x + ((0 : Nat) : Int) = x by omega]
      exact Int.emod_eq_of_lt hx.1 hx.2
    rw [e] at hf
    refine ok_neg (fun h => ?_) (ok_some ⟨rfl, by omega⟩)
    rw [hb_iff.mp h] at hf
    cases hf
  | succ d ih =>
    intro k S x hS hx hd hf hk
    obtain ⟨k, rfl⟩ : ∃ k', k = k' + 1 := ⟨k - 1, by omega⟩
    show Ok (b_X6_free_1 (g_X6_free k) k S 26 u x) _
    unfold b_X6_free_1
    refine ok_if (fun _ => ?_) (fun _ => ok_some ⟨rfl, by omega⟩)
    refine ok_is hS (by omega) g26 ?_
    refine ok_n6 (by omega) g26 g27 hS ?_
    refine ok_neg (by rw [wIn (n := n) (by omega) (by omega)]; omega) ?_
    rw [wIn (n := x + 1) (by omega) (by omega), wIn (n := n) (by omega) (by omega), Int.tmod_eq_emod_of_nonneg (by omega)]
    show Ok (g_X6_free k 1 S 26 u ((x + 1) % n)) _
    have h1 := Int.emod_nonneg (x + 1) (show n ≠ 0 by omega)
    have h2 := Int.emod_lt_of_pos (x + 1) (show 0 < n by omega)
    refine ih k S _ hS ⟨h1, h2⟩ (by omega) ?_ (by omega)
    have e : ((x + 1) % n + (d : Int)) % n = (x + ((d + 1 : Nat) : Int)) % n := by
      rw [Int.emod_add_emod, show x + 1 + (d : Int) = x + ((d + 1 : Nat) : Int) by omega]
    rw [e]
    exact hf
theorem tf_X6_free (hN : 45 ≤ N) (hn : 2 ≤ n ∧ n ≤ 7) {mo : xV → Prop} (g26 : G 26 = o6 tl mo) (g27 : G 27 = tA 0 57 (nw n)) {u x : Int} (hu : pcn u < n) {k : Nat} {S : xS} (hS : Hp G N S) (hx : 0 ≤ x ∧ x < n) (hk : 10 ≤ (k : Int)) : Ok (f_X6_free k S 26 x u) (fun r S' => S' = S ∧ (0 ≤ r ∧ r ≤ 6)) := by
  obtain ⟨k, rfl⟩ : ∃ k', k = k' + 1 := ⟨k - 1, by omega⟩
  obtain ⟨f, h0, h1, hf⟩ := pcn_free hn hu
  have hd : ∃ d : Nat, (d : Int) < n ∧ (x + (d : Int)) % n = f := by
    by_cases hxf : x ≤ f
    · exact ⟨(f - x).toNat, by omega, by rw [show x + (((f - x).toNat : Nat) : Int) = f by omega]; exact Int.emod_eq_of_lt h0 h1⟩
    · refine ⟨(f - x + n).toNat, by omega, ?_⟩
      rw [show x + (((f - x + n).toNat : Nat) : Int) = f + n by omega, Int.add_emod_right]
      exact Int.emod_eq_of_lt h0 h1
  obtain ⟨d, hd1, hd2⟩ := hd
  exact tg_X6_free hN hn g26 g27 d k S x hS hx hd1 (by rw [hd2]; exact hf) (by omega)
