theorem law_pure (X : List Int) (hl : X.length ≤ 192) (hX : ∀ x ∈ X, -2 ^ 31 ≤ x ∧ x < 2 ^ 31) : ∃ K S', f_law K X = some (1, S') := sorry
