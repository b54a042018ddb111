/-! the reference's places -/
def fac (m : Int) : Int := if m ≤ 1 then 1 else if m = 2 then 2 else if m = 3 then 6 else if m = 4 then 24 else if m = 5 then 120 else if m = 6 then 720 else 5040
theorem fac_s {m : Int} (h : 1 ≤ m ∧ m ≤ 7) : fac m = m * fac (m - 1) ∧ 1 ≤ fac (m - 1) ∧ fac m ≤ 5040 := by
  rcases (show m = 1 ∨ m = 2 ∨ m = 3 ∨ m = 4 ∨ m = 5 ∨ m = 6 ∨ m = 7 by omega) with rfl | rfl | rfl | rfl | rfl | rfl | rfl <;> decide
/-- the row of all that is told: n boxes -/
def nw (n : Int) (L : List Int) : Prop := L[0]? = some n ∧ (∀ v, L[1]? = some v → 1 ≤ v ∧ v ≤ n) ∧ (∀ v, L[2]? = some v → 0 ≤ v ∧ v ≤ 6) ∧ (∀ (j : Nat) v, 3 ≤ j → j < 10 → L[j]? = some v → 0 ≤ v ∧ v ≤ 6) ∧ ((∀ i j : Nat, (i : Int) < n → (j : Int) < n → L[3 + i]? = L[3 + j]? → i = j) ∧ (∀ (i : Nat) v, (i : Int) < n → L[3 + i]? = some v → v < n)) ∧ (∀ v, L[24]? = some v → 0 ≤ v ∧ v ≤ 8) ∧ (∀ (k : Nat) v, k < 8 → L[25 + 2 * k]? = some v → 0 ≤ v ∧ v ≤ 6) ∧ (∀ v, L[41]? = some v → 0 ≤ v ∧ v ≤ 4) ∧ (∀ (k : Nat) m v, L[41]? = some m → (k : Int) < m → L[42 + k]? = some v → 0 ≤ v ∧ v < fac n) ∧ (∀ v, L[46]? = some v → 0 ≤ v ∧ v ≤ 10) ∧ (∀ (k : Nat) m v, L[46]? = some m → (k : Int) < m → L[47 + k]? = some v → 0 ≤ v ∧ v < fac n)
def o6 (tl : Int) (mo : xV → Prop) : xC → Prop := tO 5 [fP 27, fP 28, fP 29, fP 30, fL, fL, fP 31, fZ, fP 32, mo, fI 0 1, fZ, fP 33, fP 34, fP 35, fP 36, fP 37, fZ, fP 38, fP 39, fP 40, fP 41, fP 42, fI tl tl, fI 0 150, fI 0 150, fZ, fI 0 9999, fP 43, fP 44]
/-- the row of what is kept: each half, where it is kept, is such a row -/
def kp (a b : Bool) (L : List Int) : Prop := (a = true → ∃ m, (2 ≤ m ∧ m ≤ 7) ∧ nw m (L.take 57)) ∧ (b = true → ∃ m, (2 ≤ m ∧ m ≤ 7) ∧ nw m (L.drop 57))
/-- the row of what is read: who told what, seekers -/
def r25 (L : List Int) : Prop := ∀ (k : Nat) v, k < 8 → L[25 + 2 * k]? = some v → 0 ≤ v ∧ v ≤ 6
def R6 (n tl : Int) (a b : Bool) : xT
  | 26 => o6 tl (fI 0 7)
  | 27 => tA 0 57 (nw n)
  | 28 => tA 0 114 (kp a b)
  | 29 => fun c => c = .inl (2, [if a = true then 1 else 0, if b = true then 1 else 0])
  | 30 => tA 0 3 tW
  | 31 => tA 0 7 (tR 0 6)
  | 32 => tA 0 7 (tR 0 6)
  | 33 => tA 0 7 (tR 0 6)
  | 34 => tA 0 7 (tR 0 6)
  | 35 => tA 0 5040 tW
  | 36 => tA 0 5040 (tR 0 5039)
  | 37 => tA 2 5040 (tR 0 1)
  | 38 => tA 0 49 tW
  | 39 => tA 0 6 tW
  | 40 => tA 0 7 tW
  | 41 => tA 0 7 (tR 0 6)
  | 42 => tA 0 150 (tR 0 127)
  | 43 => tA 0 47 r25
  | 44 => tA 0 2 tW
  | _ => fun _ => True
section R
variable {G : xT} {N : Nat} {S : xS} {n : Int} {Q : Int → xS → Prop} {f : Int → Option (Int × xS)}
theorem nw_at {i : Int} {L : List Int} {v : Int} (h0 : 0 ≤ i) (hL : L.length = 57) (h1 : i < 57) (hv : L[i.toNat]? = some v → Ok (f v) Q) (hS : S[27]? = some (.inl (0, L))) (e : v = L[i.toNat]'(by omega)) : Ok ((rdA 0 S 27 i).bind f) Q := by
  subst e
  have e' : L[i.toNat]? = some (L[i.toNat]'(by omega)) := List.getElem?_eq_getElem (by omega)
  exact ok_bind (by rw [rdA_at hS h0 (by omega)]; exact e') (hv e')
theorem ok_nw (hS : Hp G N S) (hq : 27 < N) (hG : G 27 = tA 0 57 (nw n)) {i : Int} (h : 0 ≤ i ∧ i < 57) (hf : ∀ (L : List Int) (v : Int), nw n L → L[i.toNat]? = some v → Ok (f v) Q) : Ok ((rdA 0 S 27 i).bind f) Q := by
  obtain ⟨c, e, hc⟩ := hp_get hS hq
  rw [hG] at hc
  obtain ⟨L, rfl, hL, hp⟩ := hc
  exact nw_at h.1 hL h.2 (fun e' => hf L _ hp e') e rfl
theorem ok_n0 (hS : Hp G N S) (hq : 27 < N) (hG : G 27 = tA 0 57 (nw n)) (hf : Ok (f n) Q) : Ok ((rdA 0 S 27 0).bind f) Q := ok_nw hS hq hG (by omega) (fun L v hn e => by
  have : v = n := by
    have h := hn.1
    rw [show (0 : Int).toNat = 0 from rfl, h] at e
    exact (Option.some.inj e).symm
  rw [this]
  exact hf)
theorem ok_n1 (hS : Hp G N S) (hq : 27 < N) (hG : G 27 = tA 0 57 (nw n)) (hf : ∀ v, 1 ≤ v → v ≤ n → Ok (f v) Q) : Ok ((rdA 0 S 27 1).bind f) Q := ok_nw hS hq hG (by omega) (fun L v hn e => hf v (hn.2.1 v e).1 (hn.2.1 v e).2)
theorem ok_n2 (hS : Hp G N S) (hq : 27 < N) (hG : G 27 = tA 0 57 (nw n)) (hf : ∀ v, 0 ≤ v → v ≤ 6 → Ok (f v) Q) : Ok ((rdA 0 S 27 2).bind f) Q := ok_nw hS hq hG (by omega) (fun L v hn e => hf v (hn.2.2.1 v e).1 (hn.2.2.1 v e).2)
theorem ok_n3 (hS : Hp G N S) (hq : 27 < N) (hG : G 27 = tA 0 57 (nw n)) {b : Int} (hb : 0 ≤ b ∧ b ≤ 6) (hf : ∀ v, 0 ≤ v → v ≤ 6 → Ok (f v) Q) : Ok ((rdA 0 S 27 (3 + b)).bind f) Q := ok_nw hS hq hG (by omega) (fun L v hn e => by
  have h := hn.2.2.2.1 (3 + b).toNat v (by omega) (by omega) e
  exact hf v h.1 h.2)
theorem ok_n24 (hS : Hp G N S) (hq : 27 < N) (hG : G 27 = tA 0 57 (nw n)) (hf : ∀ v, 0 ≤ v → v ≤ 8 → Ok (f v) Q) : Ok ((rdA 0 S 27 24).bind f) Q := ok_nw hS hq hG (by omega) (fun L v hn e => hf v (hn.2.2.2.2.2.1 v e).1 (hn.2.2.2.2.2.1 v e).2)
theorem ok_n25 (hS : Hp G N S) (hq : 27 < N) (hG : G 27 = tA 0 57 (nw n)) {k : Int} (hk : 0 ≤ k ∧ k < 8) (hf : ∀ v, 0 ≤ v → v ≤ 6 → Ok (f v) Q) : Ok ((rdA 0 S 27 (25 + (2 * k))).bind f) Q := ok_nw hS hq hG (by omega) (fun L v hn e => by
  have h := hn.2.2.2.2.2.2.1 k.toNat v (by omega) (by rw [show 25 + 2 * k.toNat = (25 + 2 * k).toNat by omega]; exact e)
  exact hf v h.1 h.2)
theorem ok_n41 (hS : Hp G N S) (hq : 27 < N) (hG : G 27 = tA 0 57 (nw n)) (hf : ∀ v, 0 ≤ v → v ≤ 4 → Ok (f v) Q) : Ok ((rdA 0 S 27 41).bind f) Q := ok_nw hS hq hG (by omega) (fun L v hn e => hf v (hn.2.2.2.2.2.2.2.1 v e).1 (hn.2.2.2.2.2.2.2.1 v e).2)
theorem ok_n46 (hS : Hp G N S) (hq : 27 < N) (hG : G 27 = tA 0 57 (nw n)) (hf : ∀ v, 0 ≤ v → v ≤ 10 → Ok (f v) Q) : Ok ((rdA 0 S 27 46).bind f) Q := ok_nw hS hq hG (by omega) (fun L v hn e => hf v (hn.2.2.2.2.2.2.2.2.2.1 v e).1 (hn.2.2.2.2.2.2.2.2.2.1 v e).2)
theorem ok_nA (hS : Hp G N S) (hq : 27 < N) (hG : G 27 = tA 0 57 (nw n)) {i : Int} (hi : 0 ≤ i ∧ i < 57) (hf : ∀ v, Ok (f v) Q) : Ok ((rdA 0 S 27 i).bind f) Q := ok_nw hS hq hG hi (fun L v hn e => hf v)
theorem tf_X6_n {k : Nat} {tl : Int} {mo : xV → Prop} (hq : 27 < N) (h26 : G 26 = o6 tl mo) (h27 : G 27 = tA 0 57 (nw n)) (hS : Hp G N S) : f_X6_n k S 26 = some (n, S) := by
  obtain ⟨r, S', e, h⟩ : Ok (f_X6_n k S 26) (fun r S' => r = n ∧ S' = S) := by
    unfold f_X6_n
    refine ok_rdFp hS (by omega) h26 rfl ?_
    exact ok_n0 hS hq h27 (ok_some ⟨rfl, rfl⟩)
  rw [e, h.1, h.2]
theorem ok_n6 {k : Nat} {tl : Int} {mo : xV → Prop} {f : Int → xS → Option (Int × xS)} (hq : 27 < N) (h26 : G 26 = o6 tl mo) (h27 : G 27 = tA 0 57 (nw n)) (hS : Hp G N S) (hf : Ok (f n S) Q) : Ok (bd2 (f_X6_n k S 26) f) Q := by
  rw [bd2_some (tf_X6_n hq h26 h27 hS)]
  exact hf
end R
theorem tg_X6_factorial : ∀ (k : Nat) (S : xS) (m p i : Int), 0 ≤ m ∧ m ≤ 7 → 2 ≤ i ∧ i ≤ 8 → p = fac (i - 1) → (i ≤ m + 1 ∨ i = 2) → 8 - i + 1 ≤ (k : Int) → g_X6_factorial k 1 S m p i = some (fac m, S) := by
  intro k
  induction k with
  | zero => intro S m p i _ _ _ _ _; exfalso; omega
  | succ k ih =>
    intro S m p i hm hi hp hmi hk
    show b_X6_factorial_1 (g_X6_factorial k) k S m p i = _
    unfold b_X6_factorial_1
    by_cases hc : m < i
    · rw [if_pos (by rw [wIn (n := m) (by omega) (by omega), wIn (n := i) (by omega) (by omega)]; exact hc), hp]
      rcases (show m = 0 ∨ m = 1 ∨ m = i - 1 by omega) with rfl | rfl | e
      · rw [show i = 2 by omega]
        rfl
      · rw [show i = 2 by omega]
        rfl
      · rw [e]
    · rw [if_neg (by rw [wIn (n := m) (by omega) (by omega), wIn (n := i) (by omega) (by omega)]; exact hc), nmx_b, nmx_b]
      refine ih S m _ (i + 1) hm (by omega) ?_ (by omega) (by omega)
      have h := (fac_s (m := i) (by omega)).1
      rw [hp, show i + 1 - 1 = i by omega, h, Int.mul_comm]
theorem tf_X6_factorial {k : Nat} {S : xS} {m : Int} (hm : 0 ≤ m ∧ m ≤ 7) (hk : 9 ≤ (k : Int)) : f_X6_factorial k S m = some (fac m, S) := by
  obtain ⟨k, rfl⟩ : ∃ k', k = k' + 1 := ⟨k - 1, by omega⟩
  exact tg_X6_factorial k S m 1 2 hm (by omega) rfl (Or.inr rfl) (by omega)
theorem ok_fac {k : Nat} {S : xS} {m : Int} {Q : Int → xS → Prop} {f : Int → xS → Option (Int × xS)} (hm : 0 ≤ m ∧ m ≤ 7) (hk : 9 ≤ (k : Int)) (hf : Ok (f (fac m) S) Q) : Ok (bd2 (f_X6_factorial k S m) f) Q := by
  rw [bd2_some (tf_X6_factorial hm hk)]
  exact hf
theorem x6_lt {a b : Int} : wI (xLcmp a b) < 0 ↔ wL a < wL b := by unfold xLcmp; rw [← iI_neg, iI_of, lg_cmp_lt, lI_lt]
theorem x6_gt {a b : Int} : 0 < wI (xLcmp a b) ↔ wL b < wL a := by unfold xLcmp; rw [← iI_pos, iI_of, lg_cmp_gt, lI_lt]
theorem ok_in {k : Nat} {S : xS} {i lo hi : Int} {Q : Int → xS → Prop} {f : Int → xS → Option (Int × xS)} (hi1 : -2147483648 ≤ i ∧ i < 2147483648) (hl : -2147483648 ≤ lo ∧ lo < 2147483648) (hh : -2147483648 ≤ hi ∧ hi < 2147483648) (hk : 2 ≤ (k : Int)) (h0 : (i < lo ∨ hi < i) → Ok (f 0 S) Q) (h1 : lo ≤ i ∧ i ≤ hi → Ok (f 1 S) Q) : Ok (bd2 (f_X6_in k S (wI i) lo hi) f) Q := by
  obtain ⟨k, rfl⟩ : ∃ k', k = k' + 2 := ⟨k - 2, by omega⟩
  have e : f_X6_in (k + 2) S (wI i) lo hi = some (if i < lo ∨ hi < i then 0 else 1, S) := by
    rw [wI_id hi1.1 hi1.2]
    show b_X6_in_0 (g_X6_in (k + 1)) (k + 1) S i lo hi = _
    unfold b_X6_in_0
    by_cases c1 : i < lo
    · rw [if_pos (x6_lt.mpr (by rw [wL_id (by omega) (by omega), wL_id (by omega) (by omega)]; exact c1)), if_pos (Or.inl c1)]
      rfl
    · rw [if_neg (fun q => c1 (by have := x6_lt.mp q; rw [wL_id (by omega) (by omega), wL_id (by omega) (by omega)] at this; exact this))]
      by_cases c2 : hi < i
      · rw [if_pos (x6_gt.mpr (by rw [wL_id (by omega) (by omega), wL_id (by omega) (by omega)]; exact c2)), if_pos (Or.inr c2)]
        rfl
      · rw [if_neg (fun q => c2 (by have := x6_gt.mp q; rw [wL_id (by omega) (by omega), wL_id (by omega) (by omega)] at this; exact this)), if_neg (by omega)]
  rw [bd2_some e]
  by_cases c : i < lo ∨ hi < i
  · rw [if_pos c]
    exact h0 c
  · rw [if_neg c]
    exact h1 (by omega)
