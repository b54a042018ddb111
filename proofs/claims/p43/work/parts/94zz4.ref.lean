/-- the whole state: what one side keeps the other keeps too -/
def W6 (S : xS) : Prop := ∃ (n6 tl : Int) (a b : Option Nat), (2 ≤ n6 ∧ n6 ≤ 7) ∧ (0 ≤ tl ∧ tl ≤ 150) ∧ J5 (R6 n6 tl a.isSome b.isSome) tl a b S
theorem turn {S : xS} {o5 : Option (Int × xS)} {o6 : xS → Option (Int × xS)} {nx : Int → Int → xS → Option (Int × xS)} {Q : Int → xS → Prop} (h4 : isO 4 S 0 = true) (h5 : Ok o5 (fun x S1 => isO 5 S1 26 = true ∧ Ok (o6 S1) (fun y S2 => Ok (nx x y S2) Q))) : Ok (if isO 4 S 0 = true then bd2 o5 fun x S1 => if isO 5 S1 26 = true then bd2 (o6 S1) fun y S2 => nx x y S2 else none else none) Q := by
  rw [if_pos h4]
  refine ok_bd2 h5 (fun x S1 hQ => ?_)
  rw [if_pos hQ.1]
  exact ok_bd2 hQ.2 (fun y S2 h => h)
theorem turn_k {S : xS} {o5 : Option (Int × xS)} {o6 : xS → Option (Int × xS)} {nx : Int → Int → xS → Option (Int × xS)} {Q : Int → xS → Prop} (hW : W6 S) (h5 : ∀ (R : xT) (tl : Int) (a b : Option Nat), J5 R tl a b S → Ok o5 (fun _ S' => J5 R tl a b S')) (h6 : ∀ (n6 tl6 tl : Int) (af bf : Bool) (a b : Option Nat) (S : xS), (2 ≤ n6 ∧ n6 ≤ 7) → (0 ≤ tl6 ∧ tl6 ≤ 150) → J5 (R6 n6 tl6 af bf) tl a b S → Ok (o6 S) (fun _ S' => ∃ m, (2 ≤ m ∧ m ≤ 7) ∧ J5 (R6 m tl6 af bf) tl a b S')) (hn : ∀ x y S2, W6 S2 → Ok (nx x y S2) Q) : Ok (if isO 4 S 0 = true then bd2 o5 fun x S1 => if isO 5 S1 26 = true then bd2 (o6 S1) fun y S2 => nx x y S2 else none else none) Q := by
  obtain ⟨n6, tl, a, b, hn6, htl, hJ⟩ := hW
  refine turn (j_is5 hJ) (ok_mono (h5 _ _ _ _ hJ) (fun x S1 hJ1 => ⟨j_is6 hJ1, ok_mono (h6 _ _ _ _ _ _ _ _ hn6 htl hJ1) (fun y S2 hQ => ?_)⟩))
  obtain ⟨m, hm, hJ2⟩ := hQ
  exact hn x y S2 ⟨m, tl, a, b, hm, htl, hJ2⟩
theorem c5_boxes {R : xT} {tl : Int} {a b : Option Nat} {k : Nat} {S : xS} {i0 : Int} (h0 : -2147483648 ≤ i0 ∧ i0 < 2147483648) (hJ : J5 R tl a b S) (hk : 200000 ≤ (k : Int)) : Ok (f_X5_boxes k S 0 i0) (fun _ S' => J5 R tl a b S') := k5 hJ (fun n nd rp E N hn hd hN hS => ok_mono (tf_X5_boxes hN hS h0 (by omega) hn) (fun _ _ hQ => by
  obtain ⟨m, hm, h⟩ := hQ
  exact ⟨m, nd, hm, hd, h⟩))
theorem c6_boxes {n6 tl6 tl : Int} {af bf : Bool} {a b : Option Nat} {k : Nat} {S : xS} {i0 : Int} (h0 : -2147483648 ≤ i0 ∧ i0 < 2147483648) (h6 : 2 ≤ n6 ∧ n6 ≤ 7) (hJ : J5 (R6 n6 tl6 af bf) tl a b S) (hk : 200000 ≤ (k : Int)) : Ok (f_X6_boxes k S 26 i0) (fun _ S' => ∃ m, (2 ≤ m ∧ m ≤ 7) ∧ J5 (R6 m tl6 af bf) tl a b S') := k6 h6 hJ (fun G N n hN hn hG hf hS => ok_mono (tf_X6_boxes hN hn hG hS h0 (by omega)) (fun _ _ hQ => by
  rcases hQ with h | ⟨hm, h⟩
  · exact ⟨n, hn, sR_id hG h⟩
  · exact ⟨i0, hm, sR_27 hG h⟩))
theorem c5_read {R : xT} {tl : Int} {a b : Option Nat} {k : Nat} {S : xS} (htl : 0 ≤ tl ∧ tl ≤ 150) (hJ : J5 R tl a b S) (hk : 200000 ≤ (k : Int)) : Ok (f_X5_read k S 0) (fun _ S' => J5 R tl a b S') := k5 hJ (fun n nd rp E N hn hd hN hS => ok_mono (tf_X5_read hN hn hd htl hS (by omega)) (fun _ _ hQ => by
  obtain ⟨m', m, ⟨hm', hm⟩, h⟩ := hQ
  exact ⟨m', m, hm', hm, h⟩))
theorem c6_read {n6 tl6 tl : Int} {af bf : Bool} {a b : Option Nat} {k : Nat} {S : xS} (h6 : 2 ≤ n6 ∧ n6 ≤ 7) (htl : 0 ≤ tl6 ∧ tl6 ≤ 150) (hJ : J5 (R6 n6 tl6 af bf) tl a b S) (hk : 200000 ≤ (k : Int)) : Ok (f_X6_read k S 26) (fun _ S' => ∃ m, (2 ≤ m ∧ m ≤ 7) ∧ J5 (R6 m tl6 af bf) tl a b S') := k6 h6 hJ (fun G N n hN hn hG hf hS => ok_mono (tf_X6_read hN hG htl hS (by omega)) (fun _ _ hQ => by
  rcases hQ with h | ⟨m, hm, h⟩
  · exact ⟨n, hn, sR_id hG h⟩
  · exact ⟨m, hm, sR_27 hG h⟩))
/-- what type answers, what becomes of the text's length -/
def ty6 (i tl r tl' : Int) : Prop := ((0 ≤ i ∧ i ≤ 127) ∧ tl < 150 ∧ r = tl + 1 ∧ tl' = tl + 1) ∨ ((0 ≤ i ∧ i ≤ 127) ∧ ¬ tl < 150 ∧ r = -4 ∧ tl' = tl) ∨ (¬ (0 ≤ i ∧ i ≤ 127) ∧ r = -2 ∧ tl' = tl)
theorem c5_type {R : xT} {tl : Int} {a b : Option Nat} {k : Nat} {S : xS} {i0 : Int} (h0 : -2147483648 ≤ i0 ∧ i0 < 2147483648) (htl : 0 ≤ tl ∧ tl ≤ 150) (hJ : J5 R tl a b S) (hk : 200000 ≤ (k : Int)) : Ok (f_X5_type k S 0 i0) (fun r S' => ∃ tl', ty6 i0 tl r tl' ∧ J5 R tl' a b S') := by
  obtain ⟨n, nd, rp, E, N, hn, hd, hN, hS, hD, hE⟩ := hJ
  refine ok_mono (tf_X5_type (by omega) hn htl hS h0 (by omega)) (fun r S' hQ => ?_)
  by_cases c1 : 0 ≤ i0 ∧ i0 ≤ 127
  · rw [if_pos c1] at hQ
    by_cases c2 : tl < 150
    · rw [if_pos c2] at hQ
      exact ⟨tl + 1, Or.inl ⟨c1, c2, hQ.1, rfl⟩, n, nd, rp, E, N, hn, hd, hN, hQ.2, hD, hE⟩
    · rw [if_neg c2] at hQ
      exact ⟨tl, Or.inr (Or.inl ⟨c1, c2, hQ.1, rfl⟩), n, nd, rp, E, N, hn, hd, hN, hQ.2, hD, hE⟩
  · rw [if_neg c1] at hQ
    exact ⟨tl, Or.inr (Or.inr ⟨c1, hQ.1, rfl⟩), n, nd, rp, E, N, hn, hd, hN, hQ.2, hD, hE⟩
theorem c6_type {n6 tl6 tl : Int} {af bf : Bool} {a b : Option Nat} {k : Nat} {S : xS} {i0 : Int} (h0 : -2147483648 ≤ i0 ∧ i0 < 2147483648) (h6 : 2 ≤ n6 ∧ n6 ≤ 7) (htl : 0 ≤ tl6 ∧ tl6 ≤ 150) (hJ : J5 (R6 n6 tl6 af bf) tl a b S) (hk : 200000 ≤ (k : Int)) : Ok (f_X6_type k S 26 i0) (fun r S' => ∃ tl', ty6 i0 tl6 r tl' ∧ J5 (R6 n6 tl' af bf) tl a b S') := by
  refine ok_mono (k6g (P := fun r m tl' af' bf' => m = n6 ∧ af' = af ∧ bf' = bf ∧ ty6 i0 tl6 r tl') h6 hJ (fun G N hN hG hf hS => ok_mono (tf_X6_type hN h6 hG htl hS h0 (by omega)) (fun r S' hQ => ?_))) (fun r S' hQ => ?_)
  · rcases hQ with ⟨h1, h2, h3⟩ | ⟨h1, h2, h3, h4⟩ | ⟨h1, h2, h3, h4⟩
    · exact ⟨n6, tl6, af, bf, ⟨rfl, rfl, rfl, Or.inr (Or.inr ⟨h1, h2, rfl⟩)⟩, sR_id hG h3⟩
    · exact ⟨n6, tl6, af, bf, ⟨rfl, rfl, rfl, Or.inr (Or.inl ⟨h1, by omega, h3, rfl⟩)⟩, sR_id hG h4⟩
    · exact ⟨n6, tl6 + 1, af, bf, ⟨rfl, rfl, rfl, Or.inl ⟨h1, h2, h3, rfl⟩⟩, sR_26 hG h4⟩
  · obtain ⟨m, tl', af', bf', ⟨rfl, rfl, rfl, h⟩, hJ'⟩ := hQ
    exact ⟨tl', h, hJ'⟩
theorem tn_type {S : xS} {k : Nat} {i0 : Int} (h0 : -2147483648 ≤ i0 ∧ i0 < 2147483648) (hk : 200000 ≤ (k : Int)) {nx : Int → Int → xS → Option (Int × xS)} {Q : Int → xS → Prop} (hW : W6 S) (hn : ∀ x S2, W6 S2 → Ok (nx x x S2) Q) : Ok (if isO 4 S 0 = true then bd2 (f_X5_type k S 0 i0) fun x S1 => if isO 5 S1 26 = true then bd2 (f_X6_type k S1 26 i0) fun y S2 => nx x y S2 else none else none) Q := by
  obtain ⟨n6, tl, a, b, hn6, htl, hJ⟩ := hW
  refine turn (j_is5 hJ) (ok_mono (c5_type h0 htl hJ hk) (fun x S1 hQ => ?_))
  obtain ⟨tl1, ht1, hJ1⟩ := hQ
  refine ⟨j_is6 hJ1, ok_mono (c6_type h0 hn6 htl hJ1 hk) (fun y S2 hQ => ?_)⟩
  obtain ⟨tl2, ht2, hJ2⟩ := hQ
  have hxy : y = x ∧ tl2 = tl1 ∧ 0 ≤ tl1 ∧ tl1 ≤ 150 := by
    rcases ht1 with h1 | h1 | h1 <;> rcases ht2 with h2 | h2 | h2 <;> omega
  obtain ⟨rfl, rfl, h01⟩ := hxy
  exact hn y S2 ⟨n6, tl2, a, b, hn6, h01, hJ2⟩
theorem tn_clear {S : xS} {k : Nat} (hk : 200000 ≤ (k : Int)) {nx : Int → Int → xS → Option (Int × xS)} {Q : Int → xS → Prop} (hW : W6 S) (hn : ∀ x S2, W6 S2 → Ok (nx x x S2) Q) : Ok (if isO 4 S 0 = true then bd2 (f_X5_clear k S 0) fun x S1 => if isO 5 S1 26 = true then bd2 (f_X6_clear k S1 26) fun y S2 => nx x y S2 else none else none) Q := by
  obtain ⟨n6, tl, a, b, hn6, htl, hJ⟩ := hW
  have h5 : Ok (f_X5_clear k S 0) (fun r S' => r = tl ∧ J5 (R6 n6 tl a.isSome b.isSome) 0 a b S') := by
    obtain ⟨n, nd, rp, E, N, hn, hd, hN, hS, hD, hE⟩ := hJ
    refine ok_mono (tf_X5_clear (by omega) htl hS) (fun r S' hQ => ?_)
    exact ⟨hQ.1, n, nd, rp, E, N, hn, hd, hN, hQ.2, hD, hE⟩
  refine turn (j_is5 hJ) (ok_mono h5 (fun x S1 hQ => ?_))
  obtain ⟨rfl, hJ1⟩ := hQ
  refine ⟨j_is6 hJ1, ok_mono (k6g (P := fun r m tl' af' bf' => m = n6 ∧ af' = a.isSome ∧ bf' = b.isSome ∧ r = x ∧ tl' = 0) hn6 hJ1 (fun G N hN hG hf hS => ok_mono (tf_X6_clear hN hG hS) (fun r S' hQ => ?_))) (fun y S2 hQ => ?_)⟩
  · exact ⟨n6, 0, _, _, ⟨rfl, rfl, rfl, hQ.1, rfl⟩, sR_26 hG hQ.2⟩
  · obtain ⟨m, tl', af', bf', ⟨rfl, rfl, rfl, rfl, rfl⟩, hJ'⟩ := hQ
    exact hn y S2 ⟨m, 0, a, b, hn6, by omega, hJ'⟩
theorem tn_image {S : xS} {k : Nat} {i0 : Int} (h0 : -2147483648 ≤ i0 ∧ i0 < 2147483648) (hk : 200000 ≤ (k : Int)) {nx : Int → Int → xS → Option (Int × xS)} {Q : Int → xS → Prop} (hW : W6 S) (hn : ∀ x S2, W6 S2 → Ok (nx x x S2) Q) : Ok (if isO 4 S 0 = true then bd2 (f_X5_image k S 0 i0) fun x S1 => if isO 5 S1 26 = true then bd2 (f_X6_image k S1 26 i0) fun y S2 => nx x y S2 else none else none) Q := by
  obtain ⟨n6, tl, a, b, hn6, htl, hJ⟩ := hW
  refine turn (j_is5 hJ) (ok_mono (tf_X5_image hJ h0 (by omega)) (fun x S1 hQ => ?_))
  have h6 : ∀ (a' b' : Option Nat), J5 (R6 n6 tl a.isSome b.isSome) tl a' b' S1 → Ok (f_X6_image k S1 26 i0) (fun r S' => (¬ (0 ≤ i0 ∧ i0 ≤ 1) ∧ r = -2 ∧ J5 (R6 n6 tl a.isSome b.isSome) tl a' b' S') ∨ ((0 ≤ i0 ∧ i0 ≤ 1) ∧ r = 1 ∧ J5 (R6 n6 tl (fl6 i0 a.isSome b.isSome).1 (fl6 i0 a.isSome b.isSome).2) tl a' b' S')) := by
    intro a' b' hJ1
    refine ok_mono (k6g (P := fun r m tl' af' bf' => m = n6 ∧ tl' = tl ∧ ((¬ (0 ≤ i0 ∧ i0 ≤ 1) ∧ r = -2 ∧ af' = a.isSome ∧ bf' = b.isSome) ∨ ((0 ≤ i0 ∧ i0 ≤ 1) ∧ r = 1 ∧ af' = (fl6 i0 a.isSome b.isSome).1 ∧ bf' = (fl6 i0 a.isSome b.isSome).2))) hn6 hJ1 (fun G N hN hG hf hS => ok_mono (tf_X6_image hN hn6 hG hS h0 (by omega)) (fun r S' hQ => ?_))) (fun r S' hQ => ?_)
    · rcases hQ with ⟨h1, h2, h3⟩ | ⟨h1, h2, h3⟩
      · exact ⟨n6, tl, _, _, ⟨rfl, rfl, Or.inl ⟨h1, h2, rfl, rfl⟩⟩, sR_id hG h3⟩
      · exact ⟨n6, tl, _, _, ⟨rfl, rfl, Or.inr ⟨h1, h2, rfl, rfl⟩⟩, h3⟩
    · obtain ⟨m, tl', af', bf', ⟨rfl, rfl, h⟩, hJ'⟩ := hQ
      rcases h with ⟨h1, h2, rfl, rfl⟩ | ⟨h1, h2, rfl, rfl⟩
      · exact Or.inl ⟨h1, h2, hJ'⟩
      · exact Or.inr ⟨h1, h2, hJ'⟩
  by_cases c0 : i0 = 0
  · rw [if_pos c0] at hQ
    obtain ⟨rfl, h, hJ1⟩ := hQ
    refine ⟨j_is6 hJ1, ok_mono (h6 _ _ hJ1) (fun y S2 hQ => ?_)⟩
    rcases hQ with ⟨h1, _⟩ | ⟨_, rfl, hJ2⟩
    · exfalso; omega
    · subst c0
      exact hn 1 S2 ⟨n6, tl, some h, b, hn6, htl, hJ2⟩
  · rw [if_neg c0] at hQ
    by_cases c1 : i0 = 1
    · rw [if_pos c1] at hQ
      obtain ⟨rfl, h, hJ1⟩ := hQ
      refine ⟨j_is6 hJ1, ok_mono (h6 _ _ hJ1) (fun y S2 hQ => ?_)⟩
      rcases hQ with ⟨h1, _⟩ | ⟨_, rfl, hJ2⟩
      · exfalso; omega
      · subst c1
        exact hn 1 S2 ⟨n6, tl, a, some h, hn6, htl, hJ2⟩
    · rw [if_neg c1] at hQ
      obtain ⟨rfl, hJ1⟩ := hQ
      refine ⟨j_is6 hJ1, ok_mono (h6 _ _ hJ1) (fun y S2 hQ => ?_)⟩
      rcases hQ with ⟨_, rfl, hJ2⟩ | ⟨h1, _⟩
      · exact hn (-2) S2 ⟨n6, tl, a, b, hn6, htl, hJ2⟩
      · exfalso; omega
theorem tn_from {S : xS} {k : Nat} {i0 : Int} (h0 : -2147483648 ≤ i0 ∧ i0 < 2147483648) (hk : 200000 ≤ (k : Int)) {nx : Int → Int → xS → Option (Int × xS)} {Q : Int → xS → Prop} (hW : W6 S) (hn : ∀ x S2, W6 S2 → Ok (nx x x S2) Q) : Ok (if isO 4 S 0 = true then bd2 (f_X5_from k S 0 i0) fun x S1 => if isO 5 S1 26 = true then bd2 (f_X6_from k S1 26 i0) fun y S2 => nx x y S2 else none else none) Q := by
  obtain ⟨n6, tl, a, b, hn6, htl, hJ⟩ := hW
  refine turn (j_is5 hJ) (ok_mono (tf_X5_from hJ h0 (by omega)) (fun x S1 hQ => ?_))
  obtain ⟨hx, hJ1⟩ := hQ
  refine ⟨j_is6 hJ1, ok_mono (k6g (P := fun r m tl' af' bf' => (2 ≤ m ∧ m ≤ 7) ∧ tl' = tl ∧ af' = a.isSome ∧ bf' = b.isSome ∧ r = x) hn6 hJ1 (fun G N hN hG hf hS => ok_mono (tf_X6_from hN hn6 hG hS h0 (by omega)) (fun r S' hQ => ?_))) (fun y S2 hQ => ?_)⟩
  · have hr : r = x ∧ ∃ m, (2 ≤ m ∧ m ≤ 7) ∧ Hp (sR G (R6 m tl a.isSome b.isSome)) N S' := by
      rcases hQ with ⟨h1, h2, h3⟩ | ⟨h1, h2, h3, h4⟩ | ⟨h1, h2, h3, m, hm, h4⟩
      · refine ⟨?_, n6, hn6, sR_id hG h3⟩
        rw [hx, if_neg (by omega), if_neg (by omega)]
        exact h2
      · refine ⟨?_, n6, hn6, sR_id hG h4⟩
        unfold kp6 at h2
        rw [hx]
        by_cases c0 : i0 = 0
        · rw [if_pos c0] at h2
          rw [if_pos c0, if_neg (by rw [h2]; decide)]
          exact h3
        · rw [if_neg c0] at h2
          rw [if_neg c0, if_pos (by omega), if_neg (by rw [h2]; decide)]
          exact h3
      · refine ⟨?_, m, hm, sR_27 hG h4⟩
        unfold kp6 at h2
        rw [hx]
        by_cases c0 : i0 = 0
        · rw [if_pos c0] at h2
          rw [if_pos c0, if_pos h2]
          exact h3
        · rw [if_neg c0] at h2
          rw [if_neg c0, if_pos (by omega), if_pos h2]
          exact h3
    obtain ⟨hr, m, hm, h⟩ := hr
    exact ⟨m, tl, _, _, ⟨hm, rfl, rfl, rfl, hr⟩, h⟩
  · obtain ⟨m, tl', af', bf', ⟨hm, rfl, rfl, rfl, rfl⟩, hJ'⟩ := hQ
    exact hn y S2 ⟨m, tl', a, b, hm, htl, hJ'⟩
theorem tn_read {S : xS} {k : Nat} (hk : 200000 ≤ (k : Int)) {nx : Int → Int → xS → Option (Int × xS)} {Q : Int → xS → Prop} (hW : W6 S) (hn : ∀ x y S2, W6 S2 → Ok (nx x y S2) Q) : Ok (if isO 4 S 0 = true then bd2 (f_X5_read k S 0) fun x S1 => if isO 5 S1 26 = true then bd2 (f_X6_read k S1 26) fun y S2 => nx x y S2 else none else none) Q := by
  obtain ⟨n6, tl, a, b, hn6, htl, hJ⟩ := hW
  refine turn (j_is5 hJ) (ok_mono (c5_read htl hJ hk) (fun x S1 hJ1 => ⟨j_is6 hJ1, ok_mono (c6_read hn6 htl hJ1 hk) (fun y S2 hQ => ?_)⟩))
  obtain ⟨m, hm, hJ2⟩ := hQ
  exact hn x y S2 ⟨m, tl, a, b, hm, htl, hJ2⟩
theorem tn_boxes {S : xS} {k : Nat} {i0 : Int} (h0 : -2147483648 ≤ i0 ∧ i0 < 2147483648) (hk : 200000 ≤ (k : Int)) {nx : Int → Int → xS → Option (Int × xS)} {Q : Int → xS → Prop} (hW : W6 S) (hn : ∀ x y S2, W6 S2 → Ok (nx x y S2) Q) : Ok (if isO 4 S 0 = true then bd2 (f_X5_boxes k S 0 i0) fun x S1 => if isO 5 S1 26 = true then bd2 (f_X6_boxes k S1 26 i0) fun y S2 => nx x y S2 else none else none) Q := turn_k hW (fun _ _ _ _ hJ => c5_boxes h0 hJ hk) (fun _ _ _ _ _ _ _ _ h6 _ hJ => c6_boxes h0 h6 hJ hk) hn
theorem tn_put {S : xS} {k : Nat} {i0 i1 : Int} (h0 : -2147483648 ≤ i0 ∧ i0 < 2147483648) (h1 : -2147483648 ≤ i1 ∧ i1 < 2147483648) (hk : 200000 ≤ (k : Int)) {nx : Int → Int → xS → Option (Int × xS)} {Q : Int → xS → Prop} (hW : W6 S) (hn : ∀ x y S2, W6 S2 → Ok (nx x y S2) Q) : Ok (if isO 4 S 0 = true then bd2 (f_X5_put k S 0 i0 i1) fun x S1 => if isO 5 S1 26 = true then bd2 (f_X6_put k S1 26 i0 i1) fun y S2 => nx x y S2 else none else none) Q := turn_k hW (fun _ _ _ _ hJ => c5_put h0 h1 hJ hk) (fun _ _ _ _ _ _ _ _ h6 _ hJ => c6_put h0 h1 h6 hJ hk) hn
theorem tn_rule {S : xS} {k : Nat} {i0 i1 : Int} (h0 : -2147483648 ≤ i0 ∧ i0 < 2147483648) (h1 : -2147483648 ≤ i1 ∧ i1 < 2147483648) (hk : 200000 ≤ (k : Int)) {nx : Int → Int → xS → Option (Int × xS)} {Q : Int → xS → Prop} (hW : W6 S) (hn : ∀ x y S2, W6 S2 → Ok (nx x y S2) Q) : Ok (if isO 4 S 0 = true then bd2 (f_X5_rule k S 0 i0 i1) fun x S1 => if isO 5 S1 26 = true then bd2 (f_X6_rule k S1 26 i0 i1) fun y S2 => nx x y S2 else none else none) Q := turn_k hW (fun _ _ _ _ hJ => c5_rule h0 h1 hJ hk) (fun _ _ _ _ _ _ _ _ h6 _ hJ => c6_rule h0 h1 h6 hJ hk) hn
theorem tn_swap {S : xS} {k : Nat} {i0 i1 : Int} (h0 : -2147483648 ≤ i0 ∧ i0 < 2147483648) (h1 : -2147483648 ≤ i1 ∧ i1 < 2147483648) (hk : 200000 ≤ (k : Int)) {nx : Int → Int → xS → Option (Int × xS)} {Q : Int → xS → Prop} (hW : W6 S) (hn : ∀ x y S2, W6 S2 → Ok (nx x y S2) Q) : Ok (if isO 4 S 0 = true then bd2 (f_X5_swap k S 0 i0 i1) fun x S1 => if isO 5 S1 26 = true then bd2 (f_X6_swap k S1 26 i0 i1) fun y S2 => nx x y S2 else none else none) Q := turn_k hW (fun _ _ _ _ hJ => c5_swap h0 h1 hJ hk) (fun _ _ _ _ _ _ _ _ h6 _ hJ => c6_swap h0 h1 h6 hJ hk) hn
theorem tn_lay {S : xS} {k : Nat} {i0 : Int} (h0 : -2147483648 ≤ i0 ∧ i0 < 2147483648) (hk : 200000 ≤ (k : Int)) {nx : Int → Int → xS → Option (Int × xS)} {Q : Int → xS → Prop} (hW : W6 S) (hn : ∀ x y S2, W6 S2 → Ok (nx x y S2) Q) : Ok (if isO 4 S 0 = true then bd2 (f_X5_lay k S 0 i0) fun x S1 => if isO 5 S1 26 = true then bd2 (f_X6_lay k S1 26 i0) fun y S2 => nx x y S2 else none else none) Q := turn_k hW (fun _ _ _ _ hJ => c5_lay h0 hJ hk) (fun _ _ _ _ _ _ _ _ h6 _ hJ => c6_lay h0 h6 hJ hk) hn
theorem tn_undo {S : xS} {k : Nat} (hk : 200000 ≤ (k : Int)) {nx : Int → Int → xS → Option (Int × xS)} {Q : Int → xS → Prop} (hW : W6 S) (hn : ∀ x y S2, W6 S2 → Ok (nx x y S2) Q) : Ok (if isO 4 S 0 = true then bd2 (f_X5_undo k S 0) fun x S1 => if isO 5 S1 26 = true then bd2 (f_X6_undo k S1 26) fun y S2 => nx x y S2 else none else none) Q := turn_k hW (fun _ _ _ _ hJ => c5_undo hJ hk) (fun _ _ _ _ _ _ _ _ h6 _ hJ => c6_undo h6 hJ hk) hn
theorem tn_know {S : xS} {k : Nat} {i0 i1 : Int} (h0 : -2147483648 ≤ i0 ∧ i0 < 2147483648) (h1 : -2147483648 ≤ i1 ∧ i1 < 2147483648) (hk : 200000 ≤ (k : Int)) {nx : Int → Int → xS → Option (Int × xS)} {Q : Int → xS → Prop} (hW : W6 S) (hn : ∀ x y S2, W6 S2 → Ok (nx x y S2) Q) : Ok (if isO 4 S 0 = true then bd2 (f_X5_know k S 0 i0 i1) fun x S1 => if isO 5 S1 26 = true then bd2 (f_X6_know k S1 26 i0 i1) fun y S2 => nx x y S2 else none else none) Q := turn_k hW (fun _ _ _ _ hJ => c5_know h0 h1 hJ hk) (fun _ _ _ _ _ _ _ _ h6 _ hJ => c6_know h0 h1 h6 hJ hk) hn
theorem tn_report {S : xS} {k : Nat} {i0 i1 : Int} (h0 : -2147483648 ≤ i0 ∧ i0 < 2147483648) (h1 : -2147483648 ≤ i1 ∧ i1 < 2147483648) (hk : 200000 ≤ (k : Int)) {nx : Int → Int → xS → Option (Int × xS)} {Q : Int → xS → Prop} (hW : W6 S) (hn : ∀ x y S2, W6 S2 → Ok (nx x y S2) Q) : Ok (if isO 4 S 0 = true then bd2 (f_X5_report k S 0 i0 i1) fun x S1 => if isO 5 S1 26 = true then bd2 (f_X6_report k S1 26 i0 i1) fun y S2 => nx x y S2 else none else none) Q := turn_k hW (fun _ _ _ _ hJ => c5_report h0 h1 hJ hk) (fun _ _ _ _ _ _ _ _ h6 _ hJ => c6_report h0 h1 h6 hJ hk) hn
theorem tn_forget {S : xS} {k : Nat} {i0 : Int} (h0 : -2147483648 ≤ i0 ∧ i0 < 2147483648) (hk : 200000 ≤ (k : Int)) {nx : Int → Int → xS → Option (Int × xS)} {Q : Int → xS → Prop} (hW : W6 S) (hn : ∀ x y S2, W6 S2 → Ok (nx x y S2) Q) : Ok (if isO 4 S 0 = true then bd2 (f_X5_forget k S 0 i0) fun x S1 => if isO 5 S1 26 = true then bd2 (f_X6_forget k S1 26 i0) fun y S2 => nx x y S2 else none else none) Q := turn_k hW (fun _ _ _ _ hJ => c5_forget h0 hJ hk) (fun _ _ _ _ _ _ _ _ h6 _ hJ => c6_forget h0 h6 hJ hk) hn
theorem tn_slip {S : xS} {k : Nat} {i0 : Int} (h0 : -2147483648 ≤ i0 ∧ i0 < 2147483648) (hk : 200000 ≤ (k : Int)) {nx : Int → Int → xS → Option (Int × xS)} {Q : Int → xS → Prop} (hW : W6 S) (hn : ∀ x y S2, W6 S2 → Ok (nx x y S2) Q) : Ok (if isO 4 S 0 = true then bd2 (f_X5_slip k S 0 i0) fun x S1 => if isO 5 S1 26 = true then bd2 (f_X6_slip k S1 26 i0) fun y S2 => nx x y S2 else none else none) Q := turn_k hW (fun _ _ _ _ hJ => c5_slip h0 hJ hk) (fun _ _ _ _ _ _ _ _ h6 _ hJ => c6_slip h0 h6 hJ hk) hn
theorem tn_rank {S : xS} {k : Nat} (hk : 200000 ≤ (k : Int)) {nx : Int → Int → xS → Option (Int × xS)} {Q : Int → xS → Prop} (hW : W6 S) (hn : ∀ x y S2, W6 S2 → Ok (nx x y S2) Q) : Ok (if isO 4 S 0 = true then bd2 (f_X5_rank k S 0) fun x S1 => if isO 5 S1 26 = true then bd2 (f_X6_rank k S1 26) fun y S2 => nx x y S2 else none else none) Q := turn_k hW (fun _ _ _ _ hJ => c5_rank hJ hk) (fun _ _ _ _ _ _ _ _ h6 _ hJ => c6_rank h6 hJ hk) hn
theorem tn_rings {S : xS} {k : Nat} {i0 : Int} (h0 : -2147483648 ≤ i0 ∧ i0 < 2147483648) (hk : 200000 ≤ (k : Int)) {nx : Int → Int → xS → Option (Int × xS)} {Q : Int → xS → Prop} (hW : W6 S) (hn : ∀ x y S2, W6 S2 → Ok (nx x y S2) Q) : Ok (if isO 4 S 0 = true then bd2 (f_X5_rings k S 0 i0) fun x S1 => if isO 5 S1 26 = true then bd2 (f_X6_rings k S1 26 i0) fun y S2 => nx x y S2 else none else none) Q := turn_k hW (fun _ _ _ _ hJ => c5_rings h0 hJ hk) (fun _ _ _ _ _ _ _ _ h6 _ hJ => c6_rings h0 h6 hJ hk) hn
theorem tn_opened {S : xS} {k : Nat} {i0 i1 : Int} (h0 : -2147483648 ≤ i0 ∧ i0 < 2147483648) (h1 : -2147483648 ≤ i1 ∧ i1 < 2147483648) (hk : 200000 ≤ (k : Int)) {nx : Int → Int → xS → Option (Int × xS)} {Q : Int → xS → Prop} (hW : W6 S) (hn : ∀ x y S2, W6 S2 → Ok (nx x y S2) Q) : Ok (if isO 4 S 0 = true then bd2 (f_X5_opened k S 0 i0 i1) fun x S1 => if isO 5 S1 26 = true then bd2 (f_X6_opened k S1 26 i0 i1) fun y S2 => nx x y S2 else none else none) Q := turn_k hW (fun _ _ _ _ hJ => c5_opened h0 h1 hJ hk) (fun _ _ _ _ _ _ _ _ h6 _ hJ => c6_opened h0 h1 h6 hJ hk) hn
theorem tn_finds {S : xS} {k : Nat} (hk : 200000 ≤ (k : Int)) {nx : Int → Int → xS → Option (Int × xS)} {Q : Int → xS → Prop} (hW : W6 S) (hn : ∀ x y S2, W6 S2 → Ok (nx x y S2) Q) : Ok (if isO 4 S 0 = true then bd2 (f_X5_finds k S 0) fun x S1 => if isO 5 S1 26 = true then bd2 (f_X6_finds k S1 26) fun y S2 => nx x y S2 else none else none) Q := turn_k hW (fun _ _ _ _ hJ => c5_finds hJ hk) (fun _ _ _ _ _ _ _ _ h6 _ hJ => c6_finds h6 hJ hk) hn
theorem tn_worked {S : xS} {k : Nat} {i0 : Int} (h0 : -2147483648 ≤ i0 ∧ i0 < 2147483648) (hk : 200000 ≤ (k : Int)) {nx : Int → Int → xS → Option (Int × xS)} {Q : Int → xS → Prop} (hW : W6 S) (hn : ∀ x y S2, W6 S2 → Ok (nx x y S2) Q) : Ok (if isO 4 S 0 = true then bd2 (f_X5_worked k S 0 i0) fun x S1 => if isO 5 S1 26 = true then bd2 (f_X6_worked k S1 26 i0) fun y S2 => nx x y S2 else none else none) Q := turn_k hW (fun _ _ _ _ hJ => c5_worked h0 hJ hk) (fun _ _ _ _ _ _ _ _ h6 _ hJ => c6_worked h0 h6 hJ hk) hn
theorem tn_back {S : xS} {k : Nat} (hk : 200000 ≤ (k : Int)) {nx : Int → Int → xS → Option (Int × xS)} {Q : Int → xS → Prop} (hW : W6 S) (hn : ∀ x y S2, W6 S2 → Ok (nx x y S2) Q) : Ok (if isO 4 S 0 = true then bd2 (f_X5_back k S 0) fun x S1 => if isO 5 S1 26 = true then bd2 (f_X6_back k S1 26) fun y S2 => nx x y S2 else none else none) Q := turn_k hW (fun _ _ _ _ hJ => c5_back hJ hk) (fun _ _ _ _ _ _ _ _ h6 _ hJ => c6_back h6 hJ hk) hn
theorem tn_undoes {S : xS} {k : Nat} (hk : 200000 ≤ (k : Int)) {nx : Int → Int → xS → Option (Int × xS)} {Q : Int → xS → Prop} (hW : W6 S) (hn : ∀ x y S2, W6 S2 → Ok (nx x y S2) Q) : Ok (if isO 4 S 0 = true then bd2 (f_X5_undoes k S 0) fun x S1 => if isO 5 S1 26 = true then bd2 (f_X6_undoes k S1 26) fun y S2 => nx x y S2 else none else none) Q := turn_k hW (fun _ _ _ _ hJ => c5_undoes hJ hk) (fun _ _ _ _ _ _ _ _ h6 _ hJ => c6_undoes h6 hJ hk) hn
theorem tn_goesWith {S : xS} {k : Nat} (hk : 200000 ≤ (k : Int)) {nx : Int → Int → xS → Option (Int × xS)} {Q : Int → xS → Prop} (hW : W6 S) (hn : ∀ x y S2, W6 S2 → Ok (nx x y S2) Q) : Ok (if isO 4 S 0 = true then bd2 (f_X5_goesWith k S 0) fun x S1 => if isO 5 S1 26 = true then bd2 (f_X6_goesWith k S1 26) fun y S2 => nx x y S2 else none else none) Q := turn_k hW (fun _ _ _ _ hJ => c5_goesWith hJ hk) (fun _ _ _ _ _ _ _ _ h6 _ hJ => c6_goesWith h6 hJ hk) hn
theorem tn_roots {S : xS} {k : Nat} {i0 : Int} (h0 : -2147483648 ≤ i0 ∧ i0 < 2147483648) (hk : 200000 ≤ (k : Int)) {nx : Int → Int → xS → Option (Int × xS)} {Q : Int → xS → Prop} (hW : W6 S) (hn : ∀ x y S2, W6 S2 → Ok (nx x y S2) Q) : Ok (if isO 4 S 0 = true then bd2 (f_X5_roots k S 0 i0) fun x S1 => if isO 5 S1 26 = true then bd2 (f_X6_roots k S1 26 i0) fun y S2 => nx x y S2 else none else none) Q := turn_k hW (fun _ _ _ _ hJ => c5_roots h0 hJ hk) (fun _ _ _ _ _ _ _ _ h6 _ hJ => c6_roots h0 h6 hJ hk) hn
theorem tn_alike {S : xS} {k : Nat} {i0 : Int} (h0 : -2147483648 ≤ i0 ∧ i0 < 2147483648) (hk : 200000 ≤ (k : Int)) {nx : Int → Int → xS → Option (Int × xS)} {Q : Int → xS → Prop} (hW : W6 S) (hn : ∀ x y S2, W6 S2 → Ok (nx x y S2) Q) : Ok (if isO 4 S 0 = true then bd2 (f_X5_alike k S 0 i0) fun x S1 => if isO 5 S1 26 = true then bd2 (f_X6_alike k S1 26 i0) fun y S2 => nx x y S2 else none else none) Q := turn_k hW (fun _ _ _ _ hJ => c5_alike h0 hJ hk) (fun _ _ _ _ _ _ _ _ h6 _ hJ => c6_alike h0 h6 hJ hk) hn
theorem tn_even {S : xS} {k : Nat} (hk : 200000 ≤ (k : Int)) {nx : Int → Int → xS → Option (Int × xS)} {Q : Int → xS → Prop} (hW : W6 S) (hn : ∀ x y S2, W6 S2 → Ok (nx x y S2) Q) : Ok (if isO 4 S 0 = true then bd2 (f_X5_even k S 0) fun x S1 => if isO 5 S1 26 = true then bd2 (f_X6_even k S1 26) fun y S2 => nx x y S2 else none else none) Q := turn_k hW (fun _ _ _ _ hJ => c5_even hJ hk) (fun _ _ _ _ _ _ _ _ h6 _ hJ => c6_even h6 hJ hk) hn
theorem tn_move {S : xS} {k : Nat} {i0 : Int} (h0 : -2147483648 ≤ i0 ∧ i0 < 2147483648) (hk : 200000 ≤ (k : Int)) {nx : Int → Int → xS → Option (Int × xS)} {Q : Int → xS → Prop} (hW : W6 S) (hn : ∀ x y S2, W6 S2 → Ok (nx x y S2) Q) : Ok (if isO 4 S 0 = true then bd2 (f_X5_move k S 0 i0) fun x S1 => if isO 5 S1 26 = true then bd2 (f_X6_move k S1 26 i0) fun y S2 => nx x y S2 else none else none) Q := turn_k hW (fun _ _ _ _ hJ => c5_move h0 hJ hk) (fun _ _ _ _ _ _ _ _ h6 _ hJ => c6_move h0 h6 hJ hk) hn
theorem tn_drop {S : xS} {k : Nat} (hk : 200000 ≤ (k : Int)) {nx : Int → Int → xS → Option (Int × xS)} {Q : Int → xS → Prop} (hW : W6 S) (hn : ∀ x y S2, W6 S2 → Ok (nx x y S2) Q) : Ok (if isO 4 S 0 = true then bd2 (f_X5_drop k S 0) fun x S1 => if isO 5 S1 26 = true then bd2 (f_X6_drop k S1 26) fun y S2 => nx x y S2 else none else none) Q := turn_k hW (fun _ _ _ _ hJ => c5_drop hJ hk) (fun _ _ _ _ _ _ _ _ h6 _ hJ => c6_drop h6 hJ hk) hn
theorem tn_make {S : xS} {k : Nat} {i0 : Int} (h0 : -2147483648 ≤ i0 ∧ i0 < 2147483648) (hk : 200000 ≤ (k : Int)) {nx : Int → Int → xS → Option (Int × xS)} {Q : Int → xS → Prop} (hW : W6 S) (hn : ∀ x y S2, W6 S2 → Ok (nx x y S2) Q) : Ok (if isO 4 S 0 = true then bd2 (f_X5_make k S 0 i0) fun x S1 => if isO 5 S1 26 = true then bd2 (f_X6_make k S1 26 i0) fun y S2 => nx x y S2 else none else none) Q := turn_k hW (fun _ _ _ _ hJ => c5_make h0 hJ hk) (fun _ _ _ _ _ _ _ _ h6 _ hJ => c6_make h0 h6 hJ hk) hn
theorem tn_group {S : xS} {k : Nat} (hk : 200000 ≤ (k : Int)) {nx : Int → Int → xS → Option (Int × xS)} {Q : Int → xS → Prop} (hW : W6 S) (hn : ∀ x y S2, W6 S2 → Ok (nx x y S2) Q) : Ok (if isO 4 S 0 = true then bd2 (f_X5_group k S 0) fun x S1 => if isO 5 S1 26 = true then bd2 (f_X6_group k S1 26) fun y S2 => nx x y S2 else none else none) Q := turn_k hW (fun _ _ _ _ hJ => tf_X5_group hJ (by omega)) (fun _ _ _ _ _ _ _ _ h6 _ hJ => c6_group h6 hJ hk) hn
theorem tn_fewest {S : xS} {k : Nat} {i0 i1 : Int} (h0 : -2147483648 ≤ i0 ∧ i0 < 2147483648) (h1 : -2147483648 ≤ i1 ∧ i1 < 2147483648) (hk : 200000 ≤ (k : Int)) {nx : Int → Int → xS → Option (Int × xS)} {Q : Int → xS → Prop} (hW : W6 S) (hn : ∀ x y S2, W6 S2 → Ok (nx x y S2) Q) : Ok (if isO 4 S 0 = true then bd2 (f_X5_fewest k S 0 i0 i1) fun x S1 => if isO 5 S1 26 = true then bd2 (f_X6_fewest k S1 26 i0 i1) fun y S2 => nx x y S2 else none else none) Q := turn_k hW (fun _ _ _ _ hJ => tf_X5_fewest hJ h0 h1 (by omega)) (fun _ _ _ _ _ _ _ _ h6 _ hJ => c6_fewest h0 h1 h6 hJ hk) hn
theorem tn_till {S : xS} {k : Nat} {i0 : Int} (h0 : -2147483648 ≤ i0 ∧ i0 < 2147483648) (hk : 200000 ≤ (k : Int)) {nx : Int → Int → xS → Option (Int × xS)} {Q : Int → xS → Prop} (hW : W6 S) (hn : ∀ x y S2, W6 S2 → Ok (nx x y S2) Q) : Ok (if isO 4 S 0 = true then bd2 (f_X5_till k S 0 i0) fun x S1 => if isO 5 S1 26 = true then bd2 (f_X6_till k S1 26 i0) fun y S2 => nx x y S2 else none else none) Q := turn_k hW (fun _ _ _ _ hJ => tf_X5_till hJ h0 (by omega)) (fun _ _ _ _ _ _ _ _ h6 _ hJ => c6_till h0 h6 hJ hk) hn
theorem tn_mayBe {S : xS} {k : Nat} {i0 : Int} (h0 : -2147483648 ≤ i0 ∧ i0 < 2147483648) (hk : 200000 ≤ (k : Int)) {nx : Int → Int → xS → Option (Int × xS)} {Q : Int → xS → Prop} (hW : W6 S) (hn : ∀ x y S2, W6 S2 → Ok (nx x y S2) Q) : Ok (if isO 4 S 0 = true then bd2 (f_X5_mayBe k S 0 i0) fun x S1 => if isO 5 S1 26 = true then bd2 (f_X6_mayBe k S1 26 i0) fun y S2 => nx x y S2 else none else none) Q := turn_k hW (fun _ _ _ _ hJ => c5_mayBe h0 hJ hk) (fun _ _ _ _ _ _ _ _ h6 _ hJ => c6_mayBe h0 h6 hJ hk) hn
theorem tn_chance {S : xS} {k : Nat} {i0 : Int} (h0 : -2147483648 ≤ i0 ∧ i0 < 2147483648) (hk : 200000 ≤ (k : Int)) {nx : Int → Int → xS → Option (Int × xS)} {Q : Int → xS → Prop} (hW : W6 S) (hn : ∀ x y S2, W6 S2 → Ok (nx x y S2) Q) : Ok (if isO 4 S 0 = true then bd2 (f_X5_chance k S 0 i0) fun x S1 => if isO 5 S1 26 = true then bd2 (f_X6_chance k S1 26 i0) fun y S2 => nx x y S2 else none else none) Q := turn_k hW (fun _ _ _ _ hJ => c5_chance h0 hJ hk) (fun _ _ _ _ _ _ _ _ h6 _ hJ => c6_chance h0 h6 hJ hk) hn
theorem tn_look {S : xS} {k : Nat} (hk : 200000 ≤ (k : Int)) {nx : Int → Int → xS → Option (Int × xS)} {Q : Int → xS → Prop} (hW : W6 S) (hn : ∀ x y S2, W6 S2 → Ok (nx x y S2) Q) : Ok (if isO 4 S 0 = true then bd2 (f_X5_look k S 0) fun x S1 => if isO 5 S1 26 = true then bd2 (f_X6_look k S1 26) fun y S2 => nx x y S2 else none else none) Q := turn_k hW (fun _ _ _ _ hJ => c5_look hJ hk) (fun _ _ _ _ _ _ _ _ h6 _ hJ => c6_look h6 hJ hk) hn
theorem tn_advice {S : xS} {k : Nat} (hk : 200000 ≤ (k : Int)) {nx : Int → Int → xS → Option (Int × xS)} {Q : Int → xS → Prop} (hW : W6 S) (hn : ∀ x y S2, W6 S2 → Ok (nx x y S2) Q) : Ok (if isO 4 S 0 = true then bd2 (f_X5_advice k S 0) fun x S1 => if isO 5 S1 26 = true then bd2 (f_X6_advice k S1 26) fun y S2 => nx x y S2 else none else none) Q := turn_k hW (fun _ _ _ _ hJ => c5_advice hJ hk) (fun _ _ _ _ _ _ _ _ h6 _ hJ => c6_advice h6 hJ hk) hn
theorem tn_worst {S : xS} {k : Nat} {i0 : Int} (h0 : -2147483648 ≤ i0 ∧ i0 < 2147483648) (hk : 200000 ≤ (k : Int)) {nx : Int → Int → xS → Option (Int × xS)} {Q : Int → xS → Prop} (hW : W6 S) (hn : ∀ x y S2, W6 S2 → Ok (nx x y S2) Q) : Ok (if isO 4 S 0 = true then bd2 (f_X5_worst k S 0 i0) fun x S1 => if isO 5 S1 26 = true then bd2 (f_X6_worst k S1 26 i0) fun y S2 => nx x y S2 else none else none) Q := turn_k hW (fun _ _ _ _ hJ => c5_worst h0 hJ hk) (fun _ _ _ _ _ _ _ _ h6 _ hJ => c6_worst h0 h6 hJ hk) hn
theorem tn_mended {S : xS} {k : Nat} (hk : 200000 ≤ (k : Int)) {nx : Int → Int → xS → Option (Int × xS)} {Q : Int → xS → Prop} (hW : W6 S) (hn : ∀ x y S2, W6 S2 → Ok (nx x y S2) Q) : Ok (if isO 4 S 0 = true then bd2 (f_X5_mended k S 0) fun x S1 => if isO 5 S1 26 = true then bd2 (f_X6_mended k S1 26) fun y S2 => nx x y S2 else none else none) Q := turn_k hW (fun _ _ _ _ hJ => c5_mended hJ hk) (fun _ _ _ _ _ _ _ _ h6 _ hJ => c6_mended h6 hJ hk) hn
theorem tn_third {S : xS} {k : Nat} {i0 : Int} (h0 : -2147483648 ≤ i0 ∧ i0 < 2147483648) (hk : 200000 ≤ (k : Int)) {nx : Int → Int → xS → Option (Int × xS)} {Q : Int → xS → Prop} (hW : W6 S) (hn : ∀ x y S2, W6 S2 → Ok (nx x y S2) Q) : Ok (if isO 4 S 0 = true then bd2 (f_X5_third k S 0 i0) fun x S1 => if isO 5 S1 26 = true then bd2 (f_X6_third k S1 26 i0) fun y S2 => nx x y S2 else none else none) Q := turn_k hW (fun _ _ _ _ hJ => c5_third h0 hJ hk) (fun _ _ _ _ _ _ _ _ h6 _ hJ => c6_third h0 h6 hJ hk) hn
theorem tn_laid {S : xS} {k : Nat} {i0 : Int} (h0 : -2147483648 ≤ i0 ∧ i0 < 2147483648) (hk : 200000 ≤ (k : Int)) {nx : Int → Int → xS → Option (Int × xS)} {Q : Int → xS → Prop} (hW : W6 S) (hn : ∀ x y S2, W6 S2 → Ok (nx x y S2) Q) : Ok (if isO 4 S 0 = true then bd2 (f_X5_laid k S 0 i0) fun x S1 => if isO 5 S1 26 = true then bd2 (f_X6_laid k S1 26 i0) fun y S2 => nx x y S2 else none else none) Q := turn_k hW (fun _ _ _ _ hJ => c5_laid h0 hJ hk) (fun _ _ _ _ _ _ _ _ h6 _ hJ => c6_laid h0 h6 hJ hk) hn
theorem tn_lucky {S : xS} {k : Nat} {i0 i1 : Int} (h0 : -2147483648 ≤ i0 ∧ i0 < 2147483648) (h1 : -2147483648 ≤ i1 ∧ i1 < 2147483648) (hk : 200000 ≤ (k : Int)) {nx : Int → Int → xS → Option (Int × xS)} {Q : Int → xS → Prop} (hW : W6 S) (hn : ∀ x y S2, W6 S2 → Ok (nx x y S2) Q) : Ok (if isO 4 S 0 = true then bd2 (f_X5_lucky k S 0 i0 i1) fun x S1 => if isO 5 S1 26 = true then bd2 (f_X6_lucky k S1 26 i0 i1) fun y S2 => nx x y S2 else none else none) Q := turn_k hW (fun _ _ _ _ hJ => c5_lucky h0 h1 hJ hk) (fun _ _ _ _ _ _ _ _ h6 _ hJ => c6_lucky h0 h1 h6 hJ hk) hn
theorem tn_part {S : xS} {k : Nat} {i0 : Int} (h0 : -2147483648 ≤ i0 ∧ i0 < 2147483648) (hk : 200000 ≤ (k : Int)) {nx : Int → Int → xS → Option (Int × xS)} {Q : Int → xS → Prop} (hW : W6 S) (hn : ∀ x y S2, W6 S2 → Ok (nx x y S2) Q) : Ok (if isO 4 S 0 = true then bd2 (f_X5_part k S 0 i0) fun x S1 => if isO 5 S1 26 = true then bd2 (f_X6_part k S1 26 i0) fun y S2 => nx x y S2 else none else none) Q := turn_k hW (fun _ _ _ _ hJ => c5_part h0 hJ hk) (fun _ _ _ _ _ _ _ _ h6 _ hJ => c6_part h0 h6 hJ hk) hn
theorem tn_status {S : xS} {k : Nat} {i0 : Int} (h0 : -2147483648 ≤ i0 ∧ i0 < 2147483648) (hk : 200000 ≤ (k : Int)) {nx : Int → Int → xS → Option (Int × xS)} {Q : Int → xS → Prop} (hW : W6 S) (hn : ∀ x y S2, W6 S2 → Ok (nx x y S2) Q) : Ok (if isO 4 S 0 = true then bd2 (f_X5_status k S 0 i0) fun x S1 => if isO 5 S1 26 = true then bd2 (f_X6_status k S1 26 i0) fun y S2 => nx x y S2 else none else none) Q := turn_k hW (fun _ _ _ _ hJ => c5_status h0 hJ hk) (fun _ _ _ _ _ _ _ _ h6 _ hJ => c6_status h0 h6 hJ hk) hn
theorem tn_count {S : xS} {k : Nat} {i0 : Int} (h0 : -2147483648 ≤ i0 ∧ i0 < 2147483648) (hk : 200000 ≤ (k : Int)) {nx : Int → Int → xS → Option (Int × xS)} {Q : Int → xS → Prop} (hW : W6 S) (hn : ∀ x y S2, W6 S2 → Ok (nx x y S2) Q) : Ok (if isO 4 S 0 = true then bd2 (f_X5_count k S 0 i0) fun x S1 => if isO 5 S1 26 = true then bd2 (f_X6_count k S1 26 i0) fun y S2 => nx x y S2 else none else none) Q := turn_k hW (fun _ _ _ _ hJ => c5_count h0 hJ hk) (fun _ _ _ _ _ _ _ _ h6 _ hJ => c6_count h0 h6 hJ hk) hn
theorem tn_digest {S : xS} {k : Nat} (hk : 200000 ≤ (k : Int)) {nx : Int → Int → xS → Option (Int × xS)} {Q : Int → xS → Prop} (hW : W6 S) (hn : ∀ x y S2, W6 S2 → Ok (nx x y S2) Q) : Ok (if isO 4 S 0 = true then bd2 (f_X5_digest k S 0) fun x S1 => if isO 5 S1 26 = true then bd2 (f_X6_digest k S1 26) fun y S2 => nx x y S2 else none else none) Q := turn_k hW (fun _ _ _ _ hJ => c5_digest hJ hk) (fun _ _ _ _ _ _ _ _ h6 _ hJ => c6_digest h6 hJ hk) hn
