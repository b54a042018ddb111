/-! ranks: bits of the numbers left -/
def hb (l v : Int) : Bool := wI (xAnd (xShr l v) 1) == 1
def pcn (l : Int) : Int := (if hb l 0 = true then 1 else 0) + (if hb l 1 = true then 1 else 0) + (if hb l 2 = true then 1 else 0) + (if hb l 3 = true then 1 else 0) + (if hb l 4 = true then 1 else 0) + (if hb l 5 = true then 1 else 0) + (if hb l 6 = true then 1 else 0)
noncomputable def bcx (x : Int) : Int := ((f_J6_bitCount_0f7a4 0 [] x).getD (0, [])).1
theorem bcx_e (fu : Nat) (S : xS) (x : Int) : f_J6_bitCount_0f7a4 fu S x = some (bcx x, S) := rfl
def lcl (l v : Int) : Int := xAnd l (xXor (xShl 1 v) (-1))
noncomputable def bF1 (l v : Int) : Bool := decide (0 ≤ bcx (xAnd l (xShl 1 v - 1)) ∧ bcx (xAnd l (xShl 1 v - 1)) ≤ 6 ∧ (hb l v = true → bcx (xAnd l (xShl 1 v - 1)) ≤ pcn l - 1))
theorem bF1_all : ∀ l : Nat, l < 128 → ∀ v : Nat, v < 7 → bF1 (l : Int) (v : Int) = true := by decide +kernel
def bF2 (l v : Int) : Bool := decide (0 ≤ lcl l v ∧ lcl l v < 128 ∧ hb (lcl l v) v = false ∧ (hb l v = true → pcn (lcl l v) = pcn l - 1)) && (decide (hb (lcl l v) 0 = hb l 0 ∨ v = 0) && (decide (hb (lcl l v) 1 = hb l 1 ∨ v = 1) && (decide (hb (lcl l v) 2 = hb l 2 ∨ v = 2) && (decide (hb (lcl l v) 3 = hb l 3 ∨ v = 3) && (decide (hb (lcl l v) 4 = hb l 4 ∨ v = 4) && (decide (hb (lcl l v) 5 = hb l 5 ∨ v = 5) && decide (hb (lcl l v) 6 = hb l 6 ∨ v = 6)))))))
theorem bF2_all : ∀ l : Nat, l < 128 → ∀ v : Nat, v < 7 → bF2 (l : Int) (v : Int) = true := by decide +kernel
theorem bF1_s {l v : Int} (hl : 0 ≤ l ∧ l < 128) (hv : 0 ≤ v ∧ v ≤ 6) : 0 ≤ bcx (xAnd l (xShl 1 v - 1)) ∧ bcx (xAnd l (xShl 1 v - 1)) ≤ 6 ∧ (hb l v = true → bcx (xAnd l (xShl 1 v - 1)) ≤ pcn l - 1) := by
  have h := bF1_all l.toNat (by omega) v.toNat (by omega)
  rw [show ((l.toNat : Nat) : Int) = l by omega, show ((v.toNat : Nat) : Int) = v by omega] at h
  exact of_decide_eq_true h
theorem bF2_s {l v : Int} (hl : 0 ≤ l ∧ l < 128) (hv : 0 ≤ v ∧ v ≤ 6) : (0 ≤ lcl l v ∧ lcl l v < 128 ∧ hb (lcl l v) v = false ∧ (hb l v = true → pcn (lcl l v) = pcn l - 1)) ∧ (∀ w : Int, 0 ≤ w ∧ w ≤ 6 → w ≠ v → hb (lcl l v) w = hb l w) := by
  have h := bF2_all l.toNat (by omega) v.toNat (by omega)
  rw [show ((l.toNat : Nat) : Int) = l by omega, show ((v.toNat : Nat) : Int) = v by omega] at h
  obtain ⟨a, h⟩ := (Bool.and_eq_true _ _).mp h
  obtain ⟨a0, h⟩ := (Bool.and_eq_true _ _).mp h
  obtain ⟨a1, h⟩ := (Bool.and_eq_true _ _).mp h
  obtain ⟨a2, h⟩ := (Bool.and_eq_true _ _).mp h
  obtain ⟨a3, h⟩ := (Bool.and_eq_true _ _).mp h
  obtain ⟨a4, h⟩ := (Bool.and_eq_true _ _).mp h
  obtain ⟨a5, a6⟩ := (Bool.and_eq_true _ _).mp h
  refine ⟨of_decide_eq_true a, fun w hw hne => ?_⟩
  rcases (show w = 0 ∨ w = 1 ∨ w = 2 ∨ w = 3 ∨ w = 4 ∨ w = 5 ∨ w = 6 by omega) with rfl | rfl | rfl | rfl | rfl | rfl | rfl
  · exact (of_decide_eq_true a0).resolve_right (fun e => hne e.symm)
  · exact (of_decide_eq_true a1).resolve_right (fun e => hne e.symm)
  · exact (of_decide_eq_true a2).resolve_right (fun e => hne e.symm)
  · exact (of_decide_eq_true a3).resolve_right (fun e => hne e.symm)
  · exact (of_decide_eq_true a4).resolve_right (fun e => hne e.symm)
  · exact (of_decide_eq_true a5).resolve_right (fun e => hne e.symm)
  · exact (of_decide_eq_true a6).resolve_right (fun e => hne e.symm)
theorem rdT_6 {i : Int} (h0 : 0 ≤ i) (h1 : i ≤ 5) : ∃ v, rdT i = some v ∧ 1 ≤ v ∧ v ≤ 120 := by
  rcases (show i = 0 ∨ i = 1 ∨ i = 2 ∨ i = 3 ∨ i = 4 ∨ i = 5 by omega) with rfl | rfl | rfl | rfl | rfl | rfl
  · exact ⟨1, rfl, by omega, by omega⟩
  · exact ⟨1, rfl, by omega, by omega⟩
  · exact ⟨2, rfl, by omega, by omega⟩
  · exact ⟨6, rfl, by omega, by omega⟩
  · exact ⟨24, rfl, by omega, by omega⟩
  · exact ⟨120, rfl, by omega, by omega⟩
/-- a rank of fewer than seven boxes, of any row -/
theorem rk_lo {S : xS} {q : Nat} {L : List Int} (hq : S[q]? = some (.inl (0, L))) (hL : L.length = 7) (hr : tR 0 6 L) {n : Int} (hn : 0 ≤ n ∧ n ≤ 6) : ∀ (k : Nat) (l r b : Int), 0 ≤ l ∧ l < 128 → 0 ≤ b ∧ b ≤ n → 0 ≤ r ∧ r ≤ 720 * b → n - b + 1 ≤ (k : Int) → ∃ r', g_X4_rankOf k 1 S q n l r b = some (r', S) ∧ 0 ≤ r' ∧ r' ≤ 5039 := by
  intro k
  induction k with
  | zero => intro l r b _ _ _ _; exfalso; omega
  | succ k ih =>
    intro l r b hl hb' hrr hk
    show ∃ r', b_X4_rankOf_1 (g_X4_rankOf k) k S q n l r b = some (r', S) ∧ 0 ≤ r' ∧ r' ≤ 5039
    unfold b_X4_rankOf_1
    by_cases hc : n ≤ b
    · rw [if_pos (by rw [wIn (n := n) (by omega) (by omega), wIn (n := b) (by omega) (by omega)]; exact hc)]
      exact ⟨r, rfl, by omega, by omega⟩
    · rw [if_neg (by rw [wIn (n := n) (by omega) (by omega), wIn (n := b) (by omega) (by omega)]; exact hc)]
      have hi : b.toNat < L.length := by omega
      have hv := hr _ (List.getElem_mem hi)
      generalize hLv : L[b.toNat] = v at hv
      obtain ⟨f, ef, hf1, hf2⟩ := rdT_6 (i := n - 1 - b) (by omega) (by omega)
      have h1 := bF1_s hl hv
      have h2 := (bF2_s hl hv).1
      rw [bind_some' (show rdA 0 S q b = some v by rw [rdA_at hq (by omega) (by omega), List.getElem?_eq_getElem hi, hLv])]
      show ∃ r', (bd2 (f_J6_bitCount_0f7a4 k S (xAnd l (xShl 1 v - 1))) fun x10 S8 => (rdT (n - 1 - b)).bind fun x11 => g_X4_rankOf k 1 S8 q n (lcl l v) (r + (x10 * x11)) (b + 1)) = some (r', S) ∧ 0 ≤ r' ∧ r' ≤ 5039
      rw [bd2_some (bcx_e k S _), bind_some' ef]
      generalize bcx (xAnd l (xShl 1 v - 1)) = c at h1
      have hm : 0 ≤ c * f ∧ c * f ≤ 720 := ⟨Int.mul_nonneg h1.1 (by omega), Int.le_trans (Int.mul_le_mul h1.2.1 hf2 (by omega) (by omega)) (by omega)⟩
      exact ih _ _ _ ⟨h2.1, h2.2.1⟩ (by omega) (by omega) (by omega)
/-- a rank of seven boxes, of a way -/
theorem rk_hi {S : xS} {q : Nat} {L : List Int} (hq : S[q]? = some (.inl (0, L))) (hL : L.length = 7) (hr : tR 0 6 L) (hp : pm L) : ∀ (k : Nat) (l r b : Int), 0 ≤ l ∧ l < 128 → 0 ≤ b ∧ b ≤ 7 → pcn l = 7 - b → (∀ (j : Nat) (v : Int), b ≤ (j : Int) → j < 7 → L[j]? = some v → hb l v = true) → (∃ f, rdT (7 - b) = some f ∧ 0 ≤ r ∧ r + f ≤ 5040) → 7 - b + 1 ≤ (k : Int) → ∃ r', g_X4_rankOf k 1 S q 7 l r b = some (r', S) ∧ 0 ≤ r' ∧ r' ≤ 5039 := by
  intro k
  induction k with
  | zero => intro l r b _ _ _ _ _ _; exfalso; omega
  | succ k ih =>
    intro l r b hl hb' hpc hbits hrr hk
    show ∃ r', b_X4_rankOf_1 (g_X4_rankOf k) k S q 7 l r b = some (r', S) ∧ 0 ≤ r' ∧ r' ≤ 5039
    unfold b_X4_rankOf_1
    obtain ⟨f7, e7, hr0, hr1⟩ := hrr
    by_cases hc : 7 ≤ b
    · rw [if_pos (by rw [wIn (n := 7) (by omega) (by omega), wIn (n := b) (by omega) (by omega)]; exact hc)]
      have hb7 : b = 7 := by omega
      subst hb7
      have : f7 = 1 := (Option.some.inj (show some 1 = some f7 from e7)).symm
      exact ⟨r, rfl, by omega, by omega⟩
    · rw [if_neg (by rw [wIn (n := 7) (by omega) (by omega), wIn (n := b) (by omega) (by omega)]; exact hc)]
      have hi : b.toNat < L.length := by omega
      have hv := hr _ (List.getElem_mem hi)
      have hLv : L[b.toNat]? = some L[b.toNat] := List.getElem?_eq_getElem hi
      generalize L[b.toNat] = v at hv hLv
      have hbv : hb l v = true := hbits b.toNat v (by omega) (by omega) hLv
      have h1 := bF1_s hl hv
      obtain ⟨h2, h3⟩ := bF2_s hl hv
      rw [bind_some' (show rdA 0 S q b = some v by rw [rdA_at hq (by omega) (by omega), hLv])]
      show ∃ r', (bd2 (f_J6_bitCount_0f7a4 k S (xAnd l (xShl 1 v - 1))) fun x10 S8 => (rdT (7 - 1 - b)).bind fun x11 => g_X4_rankOf k 1 S8 q 7 (lcl l v) (r + (x10 * x11)) (b + 1)) = some (r', S) ∧ 0 ≤ r' ∧ r' ≤ 5039
      rw [bd2_some (bcx_e k S _)]
      have hcc := h1.2.2 hbv
      have hc0 := h1.1
      generalize bcx (xAnd l (xShl 1 v - 1)) = c at hcc hc0
      have hpc' := h2.2.2.2 hbv
      have hbits' : ∀ (j : Nat) (w : Int), b + 1 ≤ (j : Int) → j < 7 → L[j]? = some w → hb (lcl l v) w = true := by
        intro j w hj hj7 hw
        have hwr : 0 ≤ w ∧ w ≤ 6 := hr w (List.mem_of_getElem? hw)
        have hne : w ≠ v := by
          intro e
          subst e
          have := hp.1 j b.toNat hj7 (by omega) (by rw [hw, hLv])
          omega
        rw [h3 w hwr hne]
        exact hbits j w (by omega) hj7 hw
      have fin : ∀ g : Int, rdT (7 - 1 - b) = some g → r + c * g + g ≤ 5040 → 0 ≤ r + c * g → ∃ r', ((rdT (7 - 1 - b)).bind fun x11 => g_X4_rankOf k 1 S q 7 (lcl l v) (r + (c * x11)) (b + 1)) = some (r', S) ∧ 0 ≤ r' ∧ r' ≤ 5039 := by
        intro g eg hg1 hg2
        rw [bind_some' eg]
        refine ih _ _ _ ⟨h2.1, h2.2.1⟩ (by omega) (by omega) hbits' ⟨g, ?_, hg2, hg1⟩ (by omega)
        rw [show 7 - (b + 1) = 7 - 1 - b by omega]
        exact eg
      rcases (show b = 0 ∨ b = 1 ∨ b = 2 ∨ b = 3 ∨ b = 4 ∨ b = 5 ∨ b = 6 by omega) with rfl | rfl | rfl | rfl | rfl | rfl | rfl
      · have : f7 = 5040 := (Option.some.inj (show some 5040 = some f7 from e7)).symm
        exact fin 720 rfl (by omega) (by omega)
      · have : f7 = 720 := (Option.some.inj (show some 720 = some f7 from e7)).symm
        exact fin 120 rfl (by omega) (by omega)
      · have : f7 = 120 := (Option.some.inj (show some 120 = some f7 from e7)).symm
        exact fin 24 rfl (by omega) (by omega)
      · have : f7 = 24 := (Option.some.inj (show some 24 = some f7 from e7)).symm
        exact fin 6 rfl (by omega) (by omega)
      · have : f7 = 6 := (Option.some.inj (show some 6 = some f7 from e7)).symm
        exact fin 2 rfl (by omega) (by omega)
      · have : f7 = 2 := (Option.some.inj (show some 2 = some f7 from e7)).symm
        exact fin 1 rfl (by omega) (by omega)
      · have : f7 = 1 := (Option.some.inj (show some 1 = some f7 from e7)).symm
        exact fin 1 rfl (by omega) (by omega)
theorem hb127 : ∀ v : Nat, v < 7 → hb 127 (v : Int) = true := by decide +kernel
theorem shl_lt : ∀ n : Nat, n < 8 → 0 ≤ xShl 1 (n : Int) - 1 ∧ xShl 1 (n : Int) - 1 < 128 := by decide +kernel
theorem rk_all {S : xS} {q : Nat} {L : List Int} {n : Int} (hq : S[q]? = some (.inl (0, L))) (hL : L.length = 7) (hs : sl n L) (hn : 0 ≤ n ∧ n ≤ 7) {k : Nat} (hk : 10 ≤ (k : Int)) : ∃ r, f_X4_rankOf k S q n = some (r, S) ∧ 0 ≤ r ∧ r ≤ 5039 := by
  obtain ⟨k, rfl⟩ : ∃ k', k = k' + 1 := ⟨k - 1, by omega⟩
  show ∃ r, g_X4_rankOf k 1 S q n (xShl 1 n - 1) 0 0 = some (r, S) ∧ 0 ≤ r ∧ r ≤ 5039
  by_cases h7 : n = 7
  · subst h7
    rw [show xShl 1 7 - 1 = 127 from by decide]
    refine rk_hi hq hL hs.1 (hs.2 rfl) k 127 0 0 (by omega) (by omega) (by decide +kernel) (fun j v _ hj hv => ?_) ⟨5040, rfl, by omega, by omega⟩ (by omega)
    have hwr : 0 ≤ v ∧ v ≤ 6 := hs.1 v (List.mem_of_getElem? hv)
    have := hb127 v.toNat (by omega)
    rwa [show ((v.toNat : Nat) : Int) = v by omega] at this
  · have h := shl_lt n.toNat (by omega)
    rw [show ((n.toNat : Nat) : Int) = n by omega] at h
    exact rk_lo hq hL hs.1 (by omega) k _ 0 0 h (by omega) (by omega) (by omega)
