variable {G : xT} {N : Nat} {n tl : Int} {a b : Bool}
/-! a rank taken: the way as a pure function -/
def sk : Nat → Int → Int → Int → Int
  | 0, _, _, v => v
  | m + 1, u, s, v => if hb u v = true then sk m u s (v + 1) else if s ≤ 0 then v else sk m u (s - 1) (v + 1)
def uc : Nat → Int → Int → Int
  | 0, _, _ => 0
  | m + 1, u, v => (if hb u v = true then 0 else 1) + uc m u (v + 1)
def bF6 (l v : Int) : Bool := decide (hb l v = true) || decide (wI (xAnd (xShr l v) 1) = 0)
theorem bF6_all : ∀ l : Nat, l < 128 → ∀ v : Nat, v < 7 → bF6 (l : Int) (v : Int) = true := by decide +kernel
theorem bF6_s {l v : Int} (hl : 0 ≤ l ∧ l < 128) (hv : 0 ≤ v ∧ v ≤ 6) (h : hb l v = false) : wI (xAnd (xShr l v) 1) = 0 := by
  have e := bF6_all l.toNat (by omega) v.toNat (by omega)
  rw [show ((l.toNat : Nat) : Int) = l by omega, show ((v.toNat : Nat) : Int) = v by omega] at e
  unfold bF6 at e
  rw [Bool.or_eq_true] at e
  rcases e with e | e
  · rw [of_decide_eq_true e] at h
    cases h
  · exact of_decide_eq_true e
theorem sk_f {u : Int} : ∀ (m : Nat) (s v : Int), 0 ≤ s → s < uc m u v → hb u (sk m u s v) = false ∧ v ≤ sk m u s v ∧ sk m u s v < v + m := by
  intro m
  induction m with
  | zero => intro s v h0 h1; exact absurd h1 (by show ¬ s < 0; omega)
  | succ m ih =>
    intro s v h0 h1
    have h1' : s < (if hb u v = true then 0 else 1) + uc m u (v + 1) := h1
    show hb u (if hb u v = true then sk m u s (v + 1) else if s ≤ 0 then v else sk m u (s - 1) (v + 1)) = false ∧ v ≤ (if hb u v = true then sk m u s (v + 1) else if s ≤ 0 then v else sk m u (s - 1) (v + 1)) ∧ (if hb u v = true then sk m u s (v + 1) else if s ≤ 0 then v else sk m u (s - 1) (v + 1)) < v + ((m + 1 : Nat) : Int)
    by_cases h : hb u v = true
    · rw [if_pos h] at h1' ⊢
      have := ih s (v + 1) h0 (by omega)
      exact ⟨this.1, by omega, by omega⟩
    · rw [if_neg h] at h1' ⊢
      by_cases hs : s ≤ 0
      · rw [if_pos hs]
        exact ⟨Bool.eq_false_iff.mpr h, by omega, by omega⟩
      · rw [if_neg hs]
        have := ih (s - 1) (v + 1) (by omega) (by omega)
        exact ⟨this.1, by omega, by omega⟩
theorem tk_find {S : xS} {u l x : Int} (hu : 0 ≤ u ∧ u < 128) : ∀ (m k : Nat) (s v : Int), 0 ≤ s ∧ s < 6000 → 0 ≤ v ∧ v + m ≤ 7 → s < uc m u v → ∃ (k' : Nat) (z : Int), k ≤ k' ∧ z ≤ 0 ∧ g_X6_takeRank (k + 3 * m) 2 S 26 u l x s v 0 = g_X6_takeRank k' 2 S 26 u l x z (sk m u s v) 0 ∧ -2147483648 ≤ z := by
  intro m
  induction m with
  | zero => intro k s v h0 _ h1; exact absurd h1 (by show ¬ s < 0; omega)
  | succ m ih =>
    intro k s v h0 hv h1
    have h1' : s < (if hb u v = true then 0 else 1) + uc m u (v + 1) := h1
    show ∃ (k' : Nat) (z : Int), k ≤ k' ∧ z ≤ 0 ∧ g_X6_takeRank (k + 3 * (m + 1)) 2 S 26 u l x s v 0 = g_X6_takeRank k' 2 S 26 u l x z (if hb u v = true then sk m u s (v + 1) else if s ≤ 0 then v else sk m u (s - 1) (v + 1)) 0 ∧ -2147483648 ≤ z
    by_cases h : hb u v = true
    · rw [if_pos h] at h1' ⊢
      obtain ⟨k', z, h2, h3, h4, h5⟩ := ih k s (v + 1) h0 (by omega) (by omega)
      refine ⟨k', z, h2, h3, ?_, h5⟩
      rw [← h4]
      have e1 : g_X6_takeRank (k + 3 * (m + 1)) 2 S 26 u l x s v 0 = g_X6_takeRank (k + 3 * m + 2) 3 S 26 u l x s v 0 := by
        rw [show k + 3 * (m + 1) = (k + 3 * m + 2) + 1 by omega]
        show b_X6_takeRank_2 (g_X6_takeRank (k + 3 * m + 2)) (k + 3 * m + 2) S 26 u l x s v 0 = _
        unfold b_X6_takeRank_2
        rw [if_pos (hb_iff.mpr h)]
      have e2 : g_X6_takeRank (k + 3 * m + 2) 3 S 26 u l x s v 0 = g_X6_takeRank (k + 3 * m + 1) 4 S 26 u l x v s 0 := by
        show b_X6_takeRank_3 (g_X6_takeRank (k + 3 * m + 1)) (k + 3 * m + 1) S 26 u l x s v 0 = _
        unfold b_X6_takeRank_3
        rw [if_neg (by rw [hb_iff.mpr h, show wI 1 = 1 from by decide]; omega)]
      have e3 : g_X6_takeRank (k + 3 * m + 1) 4 S 26 u l x v s 0 = g_X6_takeRank (k + 3 * m) 2 S 26 u l x s (v + 1) 0 := by
        show b_X6_takeRank_4 (g_X6_takeRank (k + 3 * m)) (k + 3 * m) S 26 u l x v s 0 = _
        unfold b_X6_takeRank_4
        rw [nmx_b, nmx_b, Int.sub_zero]
      rw [e1, e2, e3]
    · rw [if_neg h] at h1' ⊢
      by_cases hs : s ≤ 0
      · rw [if_pos hs]
        exact ⟨k + 3 * (m + 1), s, by omega, hs, rfl, by omega⟩
      · rw [if_neg hs]
        obtain ⟨k', z, h2, h3, h4, h5⟩ := ih k (s - 1) (v + 1) (by omega) (by omega) (by omega)
        refine ⟨k', z, h2, h3, ?_, h5⟩
        rw [← h4]
        have e1 : g_X6_takeRank (k + 3 * (m + 1)) 2 S 26 u l x s v 0 = g_X6_takeRank (k + 3 * m + 2) 3 S 26 u l x s v 0 := by
          rw [show k + 3 * (m + 1) = (k + 3 * m + 2) + 1 by omega]
          show b_X6_takeRank_2 (g_X6_takeRank (k + 3 * m + 2)) (k + 3 * m + 2) S 26 u l x s v 0 = _
          unfold b_X6_takeRank_2
          rw [if_neg (fun q => h (hb_iff.mp q)), if_neg (by rw [wIn (n := s) (by omega) (by omega)]; exact hs)]
        have e2 : g_X6_takeRank (k + 3 * m + 2) 3 S 26 u l x s v 0 = g_X6_takeRank (k + 3 * m + 1) 4 S 26 u l x v s 1 := by
          show b_X6_takeRank_3 (g_X6_takeRank (k + 3 * m + 1)) (k + 3 * m + 1) S 26 u l x s v 0 = _
          unfold b_X6_takeRank_3
          rw [if_pos (bF6_s hu (by omega) (Bool.eq_false_iff.mpr h))]
        have e3 : g_X6_takeRank (k + 3 * m + 1) 4 S 26 u l x v s 1 = g_X6_takeRank (k + 3 * m) 2 S 26 u l x (s - 1) (v + 1) 0 := rfl
        rw [e1, e2, e3]
/-- n - b numbers still to be placed, u the bits of those that are -/
def tp (n : Nat) : Nat → Int → Int → List Int
  | 0, _, _ => []
  | m + 1, u, l => sk n u (l / fac m) 0 :: tp n m (xOr u (xShl 1 (sk n u (l / fac m) 0))) (l % fac m)
