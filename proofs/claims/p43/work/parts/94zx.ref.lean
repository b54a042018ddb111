variable {G : xT} {N : Nat} {n tl : Int} {a b : Bool}
theorem fp43 {S : xS} {i : Nat} {c : xC} : rdFp 5 i (S.set 43 c) 26 = rdFp 5 i S 26 := by
  unfold rdFp rdF
  simp only [lGet_e]
  rw [List.getElem?_set_ne (show 43 ≠ 26 by omega)]
theorem xr_rep {m c x y : Int} {X : List Int} (hm : 2 ≤ m ∧ m ≤ 7) (h : xr m X) (hc : 0 ≤ c ∧ c < 8) (hx : 0 ≤ x ∧ x ≤ 6) : xr m (((X.set (25 + 2 * c).toNat x).set (25 + 2 * c + 1).toNat y).set 24 (c + 1)) := by
  have h1 := xr_put (x := x) (i := (25 + 2 * c).toNat) hm h (by omega) (by omega) (by omega) (by omega) (fun _ => by omega) (fun _ => by omega) (fun _ => by omega) (fun _ _ => hx) (fun _ => by omega)
  have h2 : xr m ((X.set (25 + 2 * c).toNat x).set (25 + 2 * c + 1).toNat y) := ⟨by rw [List.length_set]; exact h1.1, nw_even hm h1.2.1 (by omega) (by omega) (by omega), by rw [List.getElem?_set_ne (by omega)]; exact h1.2.2⟩
  exact xr_put hm h2 (by omega) (by omega) (by omega) (by omega) (fun _ => by omega) (fun _ => by omega) (fun _ => by omega) (fun _ _ => by omega) (fun _ => by omega)
theorem tf_X6_readsReport (hN : 45 ≤ N) (hG : ∀ q, 26 ≤ q → q < 45 → G q = R6 n tl a b q) (htl : tl ≤ 150) {k : Nat} {S : xS} {p m i0 : Int} (hm : 2 ≤ m ∧ m ≤ 7) (h : rds G N tl p m S) (hk : 1000 ≤ k) : Ok (f_X6_readsReport k S 26 i0) (fun r S' => (r = 0 ∨ r = 1) ∧ rds G N tl p m S') := by
  have g26 : G 26 = o6 tl (fI 0 7) := hG 26 (by omega) (by omega)
  have g44 : G 44 = tA 0 2 tW := hG 44 (by omega) (by omega)
  obtain ⟨k, rfl⟩ : ∃ k', k = k' + 2 := ⟨k - 2, by omega⟩
  obtain ⟨hS, ht, X, eX, hX⟩ := h
  have h : rds G N tl p m S := ⟨hS, ht, X, eX, hX⟩
  have hXl := hX.1
  obtain ⟨c, hc⟩ : ∃ v, X[24]? = some v := ⟨_, List.getElem?_eq_getElem (by omega)⟩
  have hcr := hX.2.1.2.2.2.2.2.1 c hc
  show Ok (b_X6_readsReport_0 (g_X6_readsReport (k + 1)) (k + 1) S 26 i0) _
  unfold b_X6_readsReport_0
  refine ok_rdFp hS (by omega) g26 rfl ?_
  rw [rdA_at eX (by omega) (by omega), show (24 : Int).toNat = 24 from rfl, hc]
  refine ok_bind (v := c) rfl ?_
  rw [wIn (n := c) (by omega) (by omega), wIn (n := 8) (by omega) (by omega)]
  refine ok_if (fun _ => ok_some ⟨Or.inl rfl, h⟩) (fun hc8 => ?_)
  rw [if_pos (is6 hN g26 hS)]
  refine ok_bd2 (tf_X6_goOn hN hG htl hS ht (by omega)) (fun _ S1 hQ => ?_)
  obtain ⟨⟨hS1, q1, ht1⟩, -⟩ := hQ
  have eX1 : S1[43]? = some (.inl (0, X)) := (q1 43 (by omega)).trans eX
  obtain ⟨Y, eY, hYl⟩ := hp_44 hN hG hS1
  refine ok_rdFp hS1 (by omega) g26 rfl ?_
  refine ok_wrL hS1 (by omega) g44 eY (by omega) (by omega) (by omega) (fun _ => trivial) (fun hS2 => ?_)
  have q2 : ∀ q, q ≠ 44 → (S1.set 44 (.inl (0, Y.set (1 : Int).toNat 0)))[q]? = S1[q]? := fun q hq => List.getElem?_set_ne (by omega)
  have eY2 : (S1.set 44 (.inl (0, Y.set (1 : Int).toNat 0)))[44]? = some (.inl (0, Y.set (1 : Int).toNat 0)) := set_at eY
  generalize S1.set 44 (.inl (0, Y.set (1 : Int).toNat 0)) = S2 at hS2 q2 eY2
  have ht2 : tkn tl p S2 := tkn_q ht1 (q2 26 (by omega))
  have eX2 : S2[43]? = some (.inl (0, X)) := (q2 43 (by omega)).trans eX1
  have h2 : rds G N tl p m S2 := ⟨hS2, ht2, X, eX2, hX⟩
  rw [if_pos (is6 hN g26 hS2), bd2_some (tf_X6_last hN hG h2), if_pos (is6 hN g26 hS2)]
  refine ok_bd2 (tf_X6_takes hN hG htl hS2 ht2 eY2 (Or.inl rfl) (by omega) (by omega) (by omega)) (fun r S3 hQ => ?_)
  obtain ⟨hS3, ht3, q3, hr⟩ := hQ
  have eX3 : S3[43]? = some (.inl (0, X)) := (q3 43 (by omega) (by omega)).trans eX2
  have h3 : rds G N tl p m S3 := ⟨hS3, ht3, X, eX3, hX⟩
  rcases hr with ⟨rfl, _⟩ | ⟨rfl, v, hv, e44⟩
  · exact ok_pos (by decide) (ok_some ⟨Or.inl rfl, h3⟩)
  refine ok_neg (by decide) ?_
  have one : ∀ (S : xS) (Z : List Int), Hp G N S → tkn tl p S → S[43]? = some (.inl (0, X)) → S[44]? = some (.inl (0, Z)) → Z.length = 2 → Z[0]? = some v → Ok (g_X6_readsReport (k + 1) 1 S 26 0) (fun r S' => (r = 0 ∨ r = 1) ∧ rds G N tl p m S') := by
    intro S Z hS ht eX eZ hZl hZ
    obtain ⟨y, hy⟩ : ∃ v, Z[1]? = some v := ⟨_, List.getElem?_eq_getElem (by omega)⟩
    show Ok (b_X6_readsReport_1 (g_X6_readsReport k) k S 26 0) _
    unfold b_X6_readsReport_1
    refine ok_rdFp hS (by omega) g26 rfl (ok_rdFp hS (by omega) g26 rfl ?_)
    rw [rdA_at eZ (by omega) (by omega), show (0 : Int).toNat = 0 from rfl, hZ]
    refine ok_bind (v := v) rfl ?_
    refine ok_rdFp hS (by omega) g26 rfl ?_
    rw [rdA_at eZ (by omega) (by omega), show (1 : Int).toNat = 1 from rfl, hy]
    refine ok_bind (v := y) rfl ?_
    rw [bd2_some (lr43 eX hXl hc (by omega))]
    exact ok_some ⟨Or.inr rfl, rds_43 hN hG ⟨hS, ht, X, eX, hX⟩ (xr_rep hm hX (by omega) (by omega))⟩
  have hZl : ((Y.set (1 : Int).toNat 0).set (0 : Int).toNat v).length = 2 := by rw [List.length_set, List.length_set]; exact hYl
  have hZ0 : ((Y.set (1 : Int).toNat 0).set (0 : Int).toNat v)[0]? = some v := by
    rw [show (0 : Int).toNat = 0 from rfl, List.getElem?_set_self (by rw [List.length_set]; omega)]
  refine ok_if (fun _ => one S3 _ hS3 ht3 eX3 e44 hZl hZ0) (fun _ => ?_)
  refine ok_rdFp hS3 (by omega) g26 rfl ?_
  rw [rdA_at eX3 (by omega) (by omega), show (0 : Int).toNat = 0 from rfl, hX.2.1.1]
  refine ok_bind (v := m) rfl ?_
  rw [if_pos (is6 hN g26 hS3)]
  refine ok_bd2 (tf_X6_takes hN hG htl hS3 ht3 e44 (Or.inr rfl) (by omega) (by omega) (by omega)) (fun r S4 hQ => ?_)
  obtain ⟨hS4, ht4, q4, hr⟩ := hQ
  have eX4 : S4[43]? = some (.inl (0, X)) := (q4 43 (by omega) (by omega)).trans eX3
  rcases hr with ⟨rfl, _⟩ | ⟨rfl, w, hw, e444⟩
  · exact ok_pos (by decide) (ok_some ⟨Or.inl rfl, hS4, ht4, X, eX4, hX⟩)
  refine ok_neg (by decide) ?_
  refine one S4 _ hS4 ht4 eX4 e444 (by rw [List.length_set]; exact hZl) ?_
  rw [show (1 : Int).toNat = 1 from rfl, List.getElem?_set_ne (by omega)]
  exact hZ0
theorem tf_X6_readsKnown (hN : 45 ≤ N) (hG : ∀ q, 26 ≤ q → q < 45 → G q = R6 n tl a b q) (htl : tl ≤ 150) {k : Nat} {S : xS} {p m : Int} (hm : 2 ≤ m ∧ m ≤ 7) (h : rds G N tl p m S) (hk : 1000 ≤ k) : Ok (f_X6_readsKnown k S 26) (fun r S' => (r = 0 ∨ r = 1) ∧ rds G N tl p m S') := by
  have g26 : G 26 = o6 tl (fI 0 7) := hG 26 (by omega) (by omega)
  unfold f_X6_readsKnown
  rw [if_pos (is6 hN g26 h.1)]
  refine ok_bd2 (tf_X6_goOn hN hG htl h.1 h.2.1 (by omega)) (fun _ S1 hQ => ?_)
  have h1 := rds_go h hQ.1
  clear hQ h
  have h1' := h1
  obtain ⟨hS1, ht1, X, eX1, hX⟩ := h1'
  have hXl := hX.1
  obtain ⟨at', len, kd, vl, t4, hp, h0, hl, hal, hkd, hk1, hv⟩ := ht1
  rw [t4.2.2.1]
  refine ok_bind (v := kd) rfl ?_
  refine ok_if (fun _ => ?_) (fun _ => ok_some ⟨Or.inl rfl, h1⟩)
  rw [t4.2.2.2]
  refine ok_bind (v := vl) rfl ?_
  rw [if_pos (is6 hN g26 hS1), bd2_some (tf_X6_last hN hG h1), wIn (n := m - 1) (by omega) (by omega)]
  refine ok_in (by omega) (by omega) (by omega) (by omega) (fun _ => ok_pos (by decide) (ok_some ⟨Or.inl rfl, h1⟩)) (fun hvr => ?_)
  refine ok_neg (by decide) ?_
  obtain ⟨x, ex⟩ : ∃ x, X[(17 + vl).toNat]? = some x := ⟨_, List.getElem?_eq_getElem (by omega)⟩
  refine ok_rdFp hS1 (by omega) g26 rfl ?_
  rw [t4.2.2.2]
  refine ok_bind (v := vl) rfl ?_
  rw [rdA_at eX1 (by omega) (by omega), ex]
  refine ok_bind (v := x) rfl ?_
  refine ok_if (fun _ => ?_) (fun _ => ok_some ⟨Or.inl rfl, h1⟩)
  refine ok_bind (v := vl) rfl ?_
  rw [if_pos (is6 hN g26 hS1)]
  refine ok_bd2 (tf_X6_goOn hN hG htl h1.1 h1.2.1 (by omega)) (fun _ S2 hQ => ?_)
  have h2 := rds_go h1 hQ.1
  have eX2 : S2[43]? = some (.inl (0, X)) := (hQ.1.2.1 43 (by omega)).trans eX1
  clear hQ
  have h2' := h2
  obtain ⟨hS2, ht2, -⟩ := h2'
  obtain ⟨at2, len2, kd2, vl2, t42, hp2, h02, hl2, hal2, hkd2, hk12, hv2⟩ := ht2
  rw [t42.2.2.1]
  refine ok_bind (v := kd2) rfl ?_
  refine ok_if (fun _ => ?_) (fun _ => ok_some ⟨Or.inl rfl, h2⟩)
  rw [t42.2.2.2]
  refine ok_bind (v := vl2) rfl ?_
  rw [if_pos (is6 hN g26 hS2), bd2_some (tf_X6_last hN hG h2), wIn (n := m - 1) (by omega) (by omega)]
  refine ok_in (by omega) (by omega) (by omega) (by omega) (fun _ => ok_pos (by decide) (ok_some ⟨Or.inl rfl, h2⟩)) (fun hvr2 => ?_)
  refine ok_neg (by decide) ?_
  refine ok_rdFp hS2 (by omega) g26 rfl ?_
  rw [t42.2.2.2]
  refine ok_bind (v := vl2) rfl ?_
  refine ok_bd2 (tf43_isKnown hm eX2 hX (by omega)) (fun r S' hQ => ?_)
  obtain ⟨rfl, -⟩ := hQ
  refine ok_if (fun _ => ?_) (fun _ => ok_some ⟨Or.inl rfl, h2⟩)
  refine ok_rdFp hS2 (by omega) g26 rfl ?_
  rw [t42.2.2.2]
  refine ok_bind (v := vl2) rfl ?_
  rw [wrA_of eX2 (by omega) (by omega) (by omega)]
  refine ok_bind (v := S'.set 43 (.inl (0, X.set (17 + vl).toNat vl2))) rfl ?_
  have h3 := rds_43 hN hG h2 (xr_put (x := vl2) (i := (17 + vl).toNat) hm hX (by omega) (by omega) (by omega) (by omega) (fun _ => by omega) (fun _ => by omega) (fun _ => by omega) (fun _ _ => by omega) (fun _ => by omega))
  rw [if_pos (is6 hN g26 h3.1)]
  refine ok_bd2 (tf_X6_goOn hN hG htl h3.1 h3.2.1 (by omega)) (fun _ S4 hQ => ?_)
  exact ok_some ⟨Or.inr rfl, rds_go h3 hQ.1⟩
theorem tf_X6_readsMove (hN : 45 ≤ N) (hG : ∀ q, 26 ≤ q → q < 45 → G q = R6 n tl a b q) (htl : tl ≤ 150) {k : Nat} {S : xS} {p m : Int} (hm : 2 ≤ m ∧ m ≤ 7) (hfm : 1 ≤ fac m ∧ fac m ≤ 5040) (h : rds G N tl p m S) (hk : 1000 ≤ k) : Ok (f_X6_readsMove k S 26) (fun r S' => (r = 0 ∨ r = 1) ∧ rds G N tl p m S') := by
  have g26 : G 26 = o6 tl (fI 0 7) := hG 26 (by omega) (by omega)
  obtain ⟨k, rfl⟩ : ∃ k', k = k' + 2 := ⟨k - 2, by omega⟩
  obtain ⟨hS, ht, X, eX, hX⟩ := h
  have h : rds G N tl p m S := ⟨hS, ht, X, eX, hX⟩
  have hXl := hX.1
  obtain ⟨c, hc⟩ : ∃ v, X[41]? = some v := ⟨_, List.getElem?_eq_getElem (by omega)⟩
  have hcr := hX.2.1.2.2.2.2.2.2.2.1 c hc
  have h9 := hX.2.1.2.2.2.2.2.2.2.2.1
  show Ok (b_X6_readsMove_0 (g_X6_readsMove (k + 1)) (k + 1) S 26 0 0 0 0) _
  unfold b_X6_readsMove_0
  refine ok_rdFp hS (by omega) g26 rfl ?_
  rw [rdA_at eX (by omega) (by omega), show (41 : Int).toNat = 41 from rfl, hc]
  refine ok_bind (v := c) rfl ?_
  rw [wIn (n := c) (by omega) (by omega), wIn (n := 4) (by omega) (by omega)]
  refine ok_if (fun _ => ok_some ⟨Or.inl rfl, h⟩) (fun hc4 => ?_)
  rw [if_pos (is6 hN g26 hS)]
  refine ok_bd2 (tf_X6_goOn hN hG htl hS ht (by omega)) (fun _ S1 hQ => ?_)
  obtain ⟨⟨hS1, q1, ht1⟩, -⟩ := hQ
  have eX1 : S1[43]? = some (.inl (0, X)) := (q1 43 (by omega)).trans eX
  refine ok_rdFp hS1 (by omega) g26 rfl ?_
  rw [rdA_at eX1 (by omega) (by omega), show (0 : Int).toNat = 0 from rfl, hX.2.1.1]
  refine ok_bind (v := m) rfl ?_
  rw [bd2_some (tf_X6_factorial (by omega) (by omega)), if_pos (is6 hN g26 hS1)]
  obtain ⟨Y, eY, hYl⟩ := hp_44 hN hG hS1
  refine ok_bd2 (tf_X6_takes hN hG htl hS1 ht1 eY (Or.inl rfl) (by omega) (by omega) (by omega)) (fun r S2 hQ => ?_)
  obtain ⟨hS2, ht2, q2, hr⟩ := hQ
  have eX2 : S2[43]? = some (.inl (0, X)) := (q2 43 (by omega) (by omega)).trans eX1
  have one : ∀ v r : Int, 0 ≤ v → v < fac m → (r = 0 ∨ r = 1) → Ok (g_X6_readsMove (k + 1) 1 S2 26 43 r (42 + c) v) (fun r S' => (r = 0 ∨ r = 1) ∧ rds G N tl p m S') := by
    clear hr
    intro v r hv0 hv1 hr
    show Ok (b_X6_readsMove_1 (g_X6_readsMove k) k S2 26 43 r (42 + c) v) _
    unfold b_X6_readsMove_1
    have hX1 : xr m (X.set (42 + c).toNat v) := xr_put hm hX (by omega) (by omega) (by omega) (by omega) (fun _ => by omega) (fun _ => by omega) (fun _ => by omega) (fun _ _ => by omega) (fun _ => ⟨hv0, hv1⟩)
    rw [wrA_of eX2 (by omega) (by omega) (by omega)]
    refine ok_bind (v := S2.set 43 (.inl (0, X.set (42 + c).toNat v))) rfl ?_
    rw [fp43]
    refine ok_rdFp hS2 (by omega) g26 rfl ?_
    rw [rdA_at (set_at eX2) (by omega) (by omega), show (41 : Int).toNat = 41 from rfl, List.getElem?_set_ne (by omega), hc]
    refine ok_bind (v := c) rfl ?_
    rw [wrA_of (set_at eX2) (by omega) (by omega) (by rw [List.length_set, hXl]; decide), List.set_set]
    refine ok_bind (v := S2.set 43 (.inl (0, (X.set (42 + c).toNat v).set (41 : Int).toNat (c + 1)))) rfl ?_
    refine ok_pos hr (ok_some ⟨hr, rds_43 hN hG ⟨hS2, ht2, X, eX2, hX⟩ ⟨by rw [List.length_set]; exact hX1.1, ?_, by rw [show (41 : Int).toNat = 41 from rfl, List.getElem?_set_ne (by omega)]; exact hX1.2.2⟩⟩)
    refine nw_c41 hm hX1.2.1 (by omega) (fun k' w k1 ek => ?_)
    rcases set_get ek with ⟨_, rfl⟩ | ⟨_, ek⟩
    · exact ⟨hv0, hv1⟩
    · exact h9 k' c w hc (by omega) ek
  refine ok_rdFp hS2 (by omega) g26 rfl ?_
  rcases hr with ⟨rfl, _⟩ | ⟨rfl, v, hv, e44⟩
  · exact ok_pos (by decide) (one 0 0 (by omega) (by omega) (Or.inl rfl))
  · refine ok_neg (by decide) ?_
    refine ok_rdFp hS2 (by omega) g26 rfl ?_
    rw [rdA_at e44 (by omega) (by omega), show (0 : Int).toNat = 0 from rfl, List.getElem?_set_self (by omega)]
    refine ok_bind (v := v) rfl ?_
    exact one v 1 (by omega) (by omega) (Or.inr rfl)
