variable {G : xT} {N : Nat} {n tl : Int} {a b : Bool}
/-- the slips of `now` written anew: a permutation keeps the row -/
theorem nw_slips {nn : Nat} (hn : 2 ≤ nn ∧ nn ≤ 7) {L L' K : List Int} (h : nw (nn : Int) L) (hp : ∀ p, (p < 3 ∨ 3 + nn ≤ p) → L'[p]? = L[p]?) (hk : ∀ j, j < nn → L'[3 + j]? = K[j]?) (h1 : ∀ j v, j < nn → K[j]? = some v → 0 ≤ v ∧ v < (nn : Int)) (h2 : ∀ i j : Nat, i < nn → j < nn → K[i]? = K[j]? → i = j) : nw (nn : Int) L' := by
  obtain ⟨g0, g1, g2, g3, ⟨g4, g5⟩, g6, g7, g8, g9, g10, g11⟩ := h
  refine ⟨?_, ?_, ?_, ?_, ⟨?_, ?_⟩, ?_, ?_, ?_, ?_, ?_, ?_⟩
  · rw [hp 0 (by omega)]; exact g0
  · rw [hp 1 (by omega)]; exact g1
  · rw [hp 2 (by omega)]; exact g2
  · intro j v j1 j2 e
    by_cases hj : j < 3 + nn
    · rw [show j = 3 + (j - 3) by omega, hk (j - 3) (by omega)] at e
      have := h1 (j - 3) v (by omega) e
      omega
    · rw [hp j (by omega)] at e
      exact g3 j v j1 j2 e
  · intro i j i1 j1 e
    rw [hk i (by omega), hk j (by omega)] at e
    exact h2 i j (by omega) (by omega) e
  · intro i v i1 e
    rw [hk i (by omega)] at e
    exact (h1 i v (by omega) e).2
  · rw [hp 24 (by omega)]; exact g6
  · intro k v k1 e
    rw [hp _ (by omega)] at e
    exact g7 k v k1 e
  · rw [hp 41 (by omega)]; exact g8
  · intro k m v e1 k1 e
    rw [hp 41 (by omega)] at e1
    rw [hp _ (by omega)] at e
    exact g9 k m v e1 k1 e
  · rw [hp 46 (by omega)]; exact g10
  · intro k m v e1 k1 e
    rw [hp 46 (by omega)] at e1
    rw [hp _ (by omega)] at e
    exact g11 k m v e1 k1 e
theorem tf_X6_rankNow7 (hN : 45 ≤ N) (hn : 2 ≤ n ∧ n ≤ 7) (hG : ∀ q, 26 ≤ q → q < 45 → G q = R6 n tl a b q) {k : Nat} {S : xS} (hS : Hp G N S) (hk : 150 ≤ (k : Int)) : Ok (f_X6_rankNow k S 26) (fun r S' => Hp G N S' ∧ (0 ≤ r ∧ r < fac n)) := by
  unfold f_X6_rankNow
  rw [if_pos (is6 hN (hG 26 (by omega) (by omega)) hS)]
  refine ok_bd2 (tf_X6_takeNow hN hn hG hS (by omega)) (fun _ _ hQ => ?_)
  obtain ⟨hS, -⟩ := hQ
  rw [if_pos (is6 hN (hG 26 (by omega) (by omega)) hS)]
  refine ok_bd2 (tf_X6_rankOf hN hn (hG 26 (by omega) (by omega)) (hG 27 (by omega) (by omega)) (hG 31 (by omega) (by omega)) hS (by omega)) (fun _ _ hQ => ?_)
  obtain ⟨rfl, hr⟩ := hQ
  exact ok_some ⟨hS, hr⟩
