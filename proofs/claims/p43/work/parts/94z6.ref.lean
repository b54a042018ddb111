variable {G : xT} {N : Nat} {n tl : Int} {a b : Bool}
/-- the row `now` while `begin` writes it: its head, the first i slips -/
def bg (m : Int) (i : Nat) (L : List Int) : Prop := L.length = 57 ∧ L[0]? = some m ∧ L[1]? = some 2 ∧ L[2]? = some 1 ∧ (∀ j, j < i → L[3 + j]? = some (j : Int)) ∧ (∀ (k : Nat) v, k < 8 → L[25 + 2 * k]? = some v → 0 ≤ v ∧ v ≤ 6)
theorem bg_nw {m : Int} (hm : 2 ≤ m ∧ m ≤ 7) {L : List Int} (h : bg m 7 L) (h24 : L[24]? = some 0) (h41 : L[41]? = some 0) (h46 : L[46]? = some 0) : nw m L := by
  obtain ⟨hl, g0, g1, g2, g3, g25⟩ := h
  refine ⟨g0, ?_, ?_, ?_, ⟨?_, ?_⟩, ?_, g25, ?_, ?_, ?_, ?_⟩
  · intro v e; rw [g1] at e; cases e; omega
  · intro v e; rw [g2] at e; cases e; omega
  · intro j v j1 j2 e
    have := g3 (j - 3) (by omega)
    rw [show 3 + (j - 3) = j by omega, e] at this
    cases this
    omega
  · intro i j i1 j1 e
    rw [g3 i (by omega), g3 j (by omega)] at e
    have := Option.some.inj e
    omega
  · intro i v i1 e
    rw [g3 i (by omega)] at e
    cases e
    omega
  · intro v e; rw [h24] at e; cases e; omega
  · intro v e; rw [h41] at e; cases e; omega
  · intro k m' v e1 k1 e; rw [h41] at e1; cases e1; omega
  · intro v e; rw [h46] at e; cases e; omega
  · intro k m' v e1 k1 e; rw [h46] at e1; cases e1; omega
theorem bg_set {m : Int} {i p : Nat} {L : List Int} {x : Int} (hi : i ≤ 7) (h : bg m i L) (hp : 10 ≤ p) (h25 : p < 25 ∨ p = 41 ∨ p = 46) : bg m i (L.set p x) := by
  obtain ⟨hl, g0, g1, g2, g3, g25⟩ := h
  · refine ⟨by rw [List.length_set]; exact hl, ?_, ?_, ?_, ?_, ?_⟩
    · rw [List.getElem?_set_ne (by omega)]; exact g0
    · rw [List.getElem?_set_ne (by omega)]; exact g1
    · rw [List.getElem?_set_ne (by omega)]; exact g2
    · intro j hj; rw [List.getElem?_set_ne (by omega)]; exact g3 j hj
    · intro k v k1 e
      rcases set_get e with ⟨q, _⟩ | ⟨_, e⟩
      · exfalso; omega
      · exact g25 k v k1 e
theorem bg_slip {m z : Int} {i : Nat} {L : List Int} (hz : z = (i : Int)) (hi : i < 7) (h : bg m i L) : bg m (i + 1) (L.set (3 + i) z) := by
  obtain ⟨hl, g0, g1, g2, g3, g25⟩ := h
  refine ⟨by rw [List.length_set]; exact hl, ?_, ?_, ?_, ?_, ?_⟩
  · rw [List.getElem?_set_ne (by omega)]; exact g0
  · rw [List.getElem?_set_ne (by omega)]; exact g1
  · rw [List.getElem?_set_ne (by omega)]; exact g2
  · intro j hj
    by_cases e : j = i
    · subst e
      rw [List.getElem?_set_self (by omega), hz]
    · rw [List.getElem?_set_ne (by omega)]; exact g3 j (by omega)
  · intro k v k1 e
    rw [List.getElem?_set_ne (by omega)] at e
    exact g25 k v k1 e
theorem tg_X6_begin {m : Int} (hm : 2 ≤ m ∧ m ≤ 7) : ∀ (k : Nat) (S : xS) (L : List Int) (i : Nat) (z : Int), z = (i : Int) → S[27]? = some (.inl (0, L)) → bg m i L → i ≤ 7 → 7 - i + 1 ≤ k → ∃ L', g_X6_begin k 1 S 27 z = some (0, S.set 27 (.inl (0, L'))) ∧ L'.length = 57 ∧ nw m L' := by
  intro k
  induction k with
  | zero => intro S L i z _ _ _ _ h; exfalso; omega
  | succ k ih =>
    intro S L i z hz hS hb hi hk
    have hl := hb.1
    show ∃ L', b_X6_begin_1 (g_X6_begin k) k S 27 z = some (0, S.set 27 (.inl (0, L'))) ∧ L'.length = 57 ∧ nw m L'
    unfold b_X6_begin_1
    rw [wIn (n := z) (by omega) (by omega), wIn (n := 7) (by omega) (by omega)]
    by_cases hc : (7 : Int) ≤ z
    · have : i = 7 := by omega
      subst this
      rw [if_pos hc, wrA_of hS (by omega) (by omega) (by rw [hl]; decide)]
      show ∃ L', ((wrA 0 _ 27 41 0).bind _) = _ ∧ _
      rw [wrA_of (set_at hS) (by omega) (by omega) (by rw [List.length_set, hl]; decide)]
      show ∃ L', ((wrA 0 _ 27 46 0).bind _) = _ ∧ _
      rw [wrA_of (set_at (set_at hS)) (by omega) (by omega) (by rw [List.length_set, List.length_set, hl]; decide), List.set_set, List.set_set]
      refine ⟨_, rfl, by rw [List.length_set, List.length_set, List.length_set]; exact hl, bg_nw hm (bg_set (by omega) (bg_set (by omega) (bg_set (by omega) hb (by decide) (by decide)) (by decide) (by decide)) (by decide) (by decide)) ?_ ?_ ?_⟩
      · rw [show (24 : Int).toNat = 24 from rfl, show (41 : Int).toNat = 41 from rfl, show (46 : Int).toNat = 46 from rfl, List.getElem?_set_ne (by omega), List.getElem?_set_ne (by omega), List.getElem?_set_self (by omega)]
      · rw [show (24 : Int).toNat = 24 from rfl, show (41 : Int).toNat = 41 from rfl, show (46 : Int).toNat = 46 from rfl, List.getElem?_set_ne (by omega), List.getElem?_set_self (by rw [List.length_set]; omega)]
      · rw [show (24 : Int).toNat = 24 from rfl, show (41 : Int).toNat = 41 from rfl, show (46 : Int).toNat = 46 from rfl, List.getElem?_set_self (by rw [List.length_set, List.length_set]; omega)]
    · rw [if_neg hc, wrA_of hS (by omega) (by omega) (by omega)]
      show ∃ L', ((wrA 0 _ 27 (10 + z) 0).bind _) = _ ∧ _
      rw [wrA_of (set_at hS) (by omega) (by omega) (by rw [List.length_set]; omega)]
      show ∃ L', ((wrA 0 _ 27 (17 + z) (-1)).bind _) = _ ∧ _
      rw [wrA_of (set_at (set_at hS)) (by omega) (by omega) (by rw [List.length_set, List.length_set]; omega), List.set_set, List.set_set]
      rw [show (3 + z).toNat = 3 + i by omega, show (10 + z).toNat = 10 + i by omega, show (17 + z).toNat = 17 + i by omega]
      obtain ⟨L', e, h1, h2⟩ := ih (S.set 27 (.inl (0, ((L.set (3 + i) z).set (10 + i) 0).set (17 + i) (-1)))) _ (i + 1) (z + 1) (by omega) (set_at hS) (bg_set (by omega) (bg_set (by omega) (bg_slip hz (by omega) hb) (by omega) (by omega)) (by omega) (by omega)) (by omega) (by omega)
      rw [List.set_set] at e
      exact ⟨L', e, h1, h2⟩
