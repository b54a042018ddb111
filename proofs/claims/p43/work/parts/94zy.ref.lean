variable {G : xT} {N : Nat} {n tl : Int} {a b : Bool}
theorem fac_b {m : Int} (hm : 2 ≤ m ∧ m ≤ 7) : 1 ≤ fac m ∧ fac m ≤ 5040 := by
  rcases (show m = 2 ∨ m = 3 ∨ m = 4 ∨ m = 5 ∨ m = 6 ∨ m = 7 by omega) with rfl | rfl | rfl | rfl | rfl | rfl <;> decide
theorem ok_w43 (hN : 45 ≤ N) (hG : ∀ q, 26 ≤ q → q < 45 → G q = R6 n tl a b q) {S : xS} {p m zi v : Int} {Q : Int → xS → Prop} {f : xS → Option (Int × xS)} (h : rds G N tl p m S) (h0 : 0 ≤ zi ∧ zi < 47) (hx : ∀ X, xr m X → xr m (X.set zi.toNat v)) (hf : ∀ S', rds G N tl p m S' → Ok (f S') Q) : Ok ((wrA 0 S 43 zi v).bind f) Q := by
  have h' := h
  obtain ⟨hS, ht, X, eX, hX⟩ := h'
  have hXl := hX.1
  rw [wrA_of eX (by omega) (by omega) (by omega)]
  exact ok_bind rfl (hf _ (rds_43 hN hG h (hx X hX)))
theorem takes_r (hN : 45 ≤ N) (hG : ∀ q, 26 ≤ q → q < 45 → G q = R6 n tl a b q) (htl : tl ≤ 150) {k : Nat} {S : xS} {p m i lo hi : Int} {Y : List Int} (h : rds G N tl p m S) (eY : S[44]? = some (.inl (0, Y))) (hi01 : i = 0 ∨ i = 1) (hlo : 0 ≤ lo ∧ lo ≤ 10000) (hhi : -1 ≤ hi ∧ hi ≤ 10000) (hk : 700 ≤ k) : Ok (f_X6_takes k S 26 i lo hi) (fun r S' => rds G N tl p m S' ∧ (r = 0 ∨ (r = 1 ∧ ∃ v, (lo ≤ v ∧ v ≤ hi) ∧ S'[44]? = some (.inl (0, Y.set i.toNat v))))) := by
  obtain ⟨hS, ht, X, eX, hX⟩ := h
  refine ok_mono (tf_X6_takes hN hG htl hS ht eY hi01 hlo hhi hk) (fun r S' hQ => ?_)
  obtain ⟨h1, h2, h3, h4⟩ := hQ
  refine ⟨⟨h1, h2, X, (h3 43 (by omega) (by omega)).trans eX, hX⟩, ?_⟩
  rcases h4 with ⟨h, _⟩ | h
  · exact Or.inl h
  · exact Or.inr h
theorem tf_X6_readsItem (hN : 45 ≤ N) (hG : ∀ q, 26 ≤ q → q < 45 → G q = R6 n tl a b q) (htl : tl ≤ 150) {k : Nat} {S : xS} {p m : Int} (hm : 2 ≤ m ∧ m ≤ 7) (h : rds G N tl p m S) (hk : 1100 ≤ k) : Ok (f_X6_readsItem k S 26) (fun r S' => (r = 0 ∨ r = 1) ∧ rds G N tl p m S') := by
  have g26 : G 26 = o6 tl (fI 0 7) := hG 26 (by omega) (by omega)
  have hfm := fac_b hm
  obtain ⟨k, rfl⟩ : ∃ k', k = k' + 3 := ⟨k - 3, by omega⟩
  have is : isO 5 S 26 = true := is6 hN g26 h.1
  have four : ∀ (k : Nat) (S' : xS), rds G N tl p m S' → Ok (g_X6_readsItem (k + 1) 4 S' 0 0) (fun r S' => (r = 0 ∨ r = 1) ∧ rds G N tl p m S') := fun k S' h => ok_some ⟨Or.inl rfl, h⟩
  have three : ∀ f : Int, Ok (g_X6_readsItem (k + 2) 3 S 26 f) (fun r S' => (r = 0 ∨ r = 1) ∧ rds G N tl p m S') := by
    intro f
    show Ok (b_X6_readsItem_3 (g_X6_readsItem (k + 1)) (k + 1) S 26 f) _
    unfold b_X6_readsItem_3
    rw [if_pos is]
    refine ok_bd2 (tf_X6_readsReport hN hG htl hm h (by omega)) (fun r S' hQ => ?_)
    exact ok_if (fun _ => four k S' hQ.2) (fun _ => ok_some ⟨Or.inr rfl, hQ.2⟩)
  have word : ∀ {i0 i1 i2 i3 i4 i5 : Int} {f : Int → xS → Option (Int × xS)} {Q : Int → xS → Prop}, (∀ r, Ok (f r S) Q) → Ok (bd2 (f_X6_isWord (k + 2) S 26 i0 i1 i2 i3 i4 i5) f) Q := by
    intro i0 i1 i2 i3 i4 i5 f Q hf
    refine ok_bd2 (tf_X6_isWord hN hG htl h.1 h.2.1 (by omega)) (fun r S' hQ => ?_)
    obtain ⟨rfl, -⟩ := hQ
    exact hf r
  have go : ∀ {f : Int → xS → Option (Int × xS)} {Q : Int → xS → Prop}, (∀ r S' Y, rds G N tl p m S' → S'[44]? = some (.inl (0, Y)) → Y.length = 2 → Ok (f r S') Q) → Ok (bd2 (f_X6_goOn (k + 2) S 26) f) Q := by
    intro f Q hf
    refine ok_bd2 (tf_X6_goOn hN hG htl h.1 h.2.1 (by omega)) (fun r S1 hQ => ?_)
    have h1 := rds_go h hQ.1
    obtain ⟨Y, eY, hYl⟩ := hp_44 hN hG h1.1
    exact hf r S1 Y h1 eY hYl
  show Ok (b_X6_readsItem_0 (g_X6_readsItem (k + 2)) (k + 2) S 26 0) _
  unfold b_X6_readsItem_0
  rw [if_pos is]
  refine word (fun r1 => ok_if (fun _ => ?_) (fun _ => ?_))
  rotate_left
  · rw [if_pos is]
    refine go (fun _ S1 Y h1 eY hYl => ?_)
    have h1' := h1
    obtain ⟨hS1, ht1, X, eX, hX⟩ := h1'
    refine ok_rdFp hS1 (by omega) g26 rfl ?_
    rw [rdA_at eX (by omega) (by omega), show (0 : Int).toNat = 0 from rfl, hX.2.1.1]
    refine ok_bind (v := m) rfl ?_
    rw [if_pos (is6 hN g26 hS1)]
    refine ok_bd2 (takes_r hN hG htl h1 eY (Or.inl rfl) (by omega) (by omega) (by omega)) (fun r S2 hQ => ?_)
    obtain ⟨h2, hr⟩ := hQ
    refine ok_rdFp h2.1 (by omega) g26 rfl ?_
    have put : ∀ v : Int, 1 ≤ v → v ≤ m → ∀ X, xr m X → xr m (X.set (1 : Int).toNat v) := fun v hv1 hv2 X hX => xr_put hm hX (by decide) (by decide) (by decide) (by decide) (fun _ => ⟨hv1, hv2⟩) (fun h => absurd h (by decide)) (fun h => absurd h (by decide)) (fun h => absurd h (by decide)) (fun h => absurd h (by decide))
    rcases hr with rfl | ⟨rfl, v, hv, e44⟩
    · refine ok_pos (by decide) (ok_w43 hN hG h2 (by omega) (put 1 (by omega) (by omega)) (fun S3 h3 => ?_))
      exact ok_pos (Or.inl rfl) (ok_some ⟨Or.inl rfl, h3⟩)
    · refine ok_neg (by decide) ?_
      refine ok_rdFp h2.1 (by omega) g26 rfl ?_
      rw [rdA_at e44 (by omega) (by omega), show (0 : Int).toNat = 0 from rfl, List.getElem?_set_self (by omega)]
      refine ok_bind (v := v) rfl (ok_w43 hN hG h2 (by omega) (put v hv.1 hv.2) (fun S3 h3 => ?_))
      exact ok_pos (Or.inr rfl) (ok_some ⟨Or.inr rfl, h3⟩)
  rw [if_pos is]
  refine word (fun r2 => ok_if (fun _ => ?_) (fun _ => ?_))
  rotate_left
  · rw [if_pos is]
    refine go (fun _ S1 Y h1 eY hYl => ?_)
    rw [if_pos (is6 hN g26 h1.1)]
    refine ok_bd2 (takes_r hN hG htl h1 eY (Or.inl rfl) (by omega) (by omega) (by omega)) (fun r S2 hQ => ?_)
    obtain ⟨h2, hr⟩ := hQ
    refine ok_rdFp h2.1 (by omega) g26 rfl ?_
    have put : ∀ v : Int, 0 ≤ v → v ≤ 6 → ∀ X, xr m X → xr m (X.set (2 : Int).toNat v) := fun v hv1 hv2 X hX => xr_put hm hX (by decide) (by decide) (by decide) (by decide) (fun h => absurd h (by decide)) (fun _ => ⟨hv1, hv2⟩) (fun h => absurd h (by decide)) (fun h => absurd h (by decide)) (fun h => absurd h (by decide))
    rcases hr with rfl | ⟨rfl, v, hv, e44⟩
    · refine ok_pos (by decide) (ok_w43 hN hG h2 (by omega) (put 0 (by omega) (by omega)) (fun S3 h3 => ?_))
      exact ok_pos (Or.inl rfl) (ok_some ⟨Or.inl rfl, h3⟩)
    · refine ok_neg (by decide) ?_
      refine ok_rdFp h2.1 (by omega) g26 rfl ?_
      rw [rdA_at e44 (by omega) (by omega), show (0 : Int).toNat = 0 from rfl, List.getElem?_set_self (by omega)]
      refine ok_bind (v := v) rfl (ok_w43 hN hG h2 (by omega) (put v hv.1 hv.2) (fun S3 h3 => ?_))
      exact ok_pos (Or.inr rfl) (ok_some ⟨Or.inr rfl, h3⟩)
  rw [if_pos is]
  refine word (fun r3 => ok_if (fun _ => ?_) (fun _ => ?_))
  rotate_left
  · rw [if_pos is]
    refine go (fun _ S1 Y h1 eY hYl => ?_)
    rw [if_pos (is6 hN g26 h1.1), bd2_some (tf_X6_last hN hG h1), if_pos (is6 hN g26 h1.1)]
    refine ok_bd2 (takes_r hN hG htl h1 eY (Or.inl rfl) (by omega) (by omega) (by omega)) (fun r S2 hQ => ?_)
    obtain ⟨h2, hr⟩ := hQ
    have one : ∀ S' : xS, rds G N tl p m S' → Ok (g_X6_readsItem (k + 2) 1 S' 26 0) (fun r S' => (r = 0 ∨ r = 1) ∧ rds G N tl p m S') := by
      intro S' h'
      show Ok (b_X6_readsItem_2 (g_X6_readsItem k) k S' 26 0) _
      unfold b_X6_readsItem_2
      exact ok_pos (by decide) (ok_pos (Or.inl rfl) (ok_some ⟨Or.inl rfl, h'⟩))
    rcases hr with rfl | ⟨rfl, v, hv, e44⟩
    · exact ok_pos (by decide) (one S2 h2)
    refine ok_neg (by decide) ?_
    rw [if_pos (is6 hN g26 h2.1)]
    refine ok_bd2 (takes_r hN hG htl h2 e44 (Or.inr rfl) (by omega) (by omega) (by omega)) (fun r S3 hQ => ?_)
    obtain ⟨h3, hr⟩ := hQ
    rcases hr with rfl | ⟨rfl, w, hw, e443⟩
    · exact ok_pos (by decide) (one S3 h3)
    refine ok_neg (by decide) ?_
    show Ok (b_X6_readsItem_2 (g_X6_readsItem (k + 1)) (k + 1) S3 26 1) _
    unfold b_X6_readsItem_2
    refine ok_neg (by decide) ?_
    have y0 : ((Y.set (0 : Int).toNat v).set (1 : Int).toNat w)[(0 : Int).toNat]? = some v := by
      rw [show (0 : Int).toNat = 0 from rfl, show (1 : Int).toNat = 1 from rfl, List.getElem?_set_ne (by omega), List.getElem?_set_self (by omega)]
    have y1 : ((Y.set (0 : Int).toNat v).set (1 : Int).toNat w)[(1 : Int).toNat]? = some w := by
      rw [show (0 : Int).toNat = 0 from rfl, show (1 : Int).toNat = 1 from rfl, List.getElem?_set_self (by rw [List.length_set]; omega)]
    refine ok_rdFp h3.1 (by omega) g26 rfl (ok_rdFp h3.1 (by omega) g26 rfl ?_)
    rw [rdA_at e443 (by omega) (by omega), y0]
    refine ok_bind (v := v) rfl ?_
    refine ok_rdFp h3.1 (by omega) g26 rfl ?_
    rw [rdA_at e443 (by omega) (by omega), y1]
    refine ok_bind (v := w) rfl ?_
    refine ok_w43 hN hG h3 (by omega) (fun X hX => xr_put hm hX (by omega) (by omega) (by omega) (by omega) (fun _ => by omega) (fun _ => by omega) (fun _ => by omega) (fun _ _ => by omega) (fun _ => by omega)) (fun S4 h4 => ?_)
    exact ok_pos (Or.inr rfl) (ok_some ⟨Or.inr rfl, h4⟩)
  rw [if_pos is]
  refine word (fun r4 => ok_if (fun _ => ?_) (fun _ => ?_))
  rotate_left
  · rw [if_pos is]
    refine ok_bd2 (tf_X6_readsSwap hN hG htl hm h (by omega)) (fun r S1 hQ => ok_pos hQ.1 (ok_some hQ))
  rw [if_pos is]
  refine word (fun r5 => ok_if (fun _ => ?_) (fun _ => ?_))
  rotate_left
  · rw [if_pos is]
    refine ok_bd2 (tf_X6_readsKnown hN hG htl hm h (by omega)) (fun r S1 hQ => ok_pos hQ.1 (ok_some hQ))
  rw [if_pos is]
  refine word (fun r6 => ok_if (fun _ => ?_) (fun _ => ?_))
  rotate_left
  · rw [if_pos is]
    refine ok_bd2 (tf_X6_readsMove hN hG htl hm hfm h (by omega)) (fun r S1 hQ => ok_pos hQ.1 (ok_some hQ))
  rw [if_pos is]
  refine word (fun r7 => ok_if (fun _ => ?_) (fun _ => three r7))
  rw [if_pos is]
  refine word (fun r8 => ok_if (fun _ => four (k + 1) S h) (fun _ => three r7))
theorem rd2 (hN : 45 ≤ N) {mo : xV → Prop} (g26 : G 26 = o6 tl mo) (g27 : G 27 = tA 0 57 tW) {X : List Int} {m : Int} (hX : xr m X) {x : Int} : ∀ (d k j : Nat) (zj : Int) (S : xS) (L : List Int), j + d = 47 → zj = (j : Int) → Hp G N S → S[27]? = some (.inl (0, L)) → S[43]? = some (.inl (0, X)) → L.length = 57 → (∀ i, i < j → L[i]? = X[i]?) → d + 1 ≤ k → Ok (g_X6_read k 2 S 26 x zj) (fun _ S' => ∃ L', S' = S.set 27 (.inl (0, L')) ∧ L'.length = 57 ∧ ∀ i, i < 47 → L'[i]? = X[i]?) := by
  intro d
  induction d with
  | zero =>
    intro k j zj S L hj hz hS eL eX hLl hI hk
    obtain ⟨k, rfl⟩ : ∃ k', k = k' + 1 := ⟨k - 1, by omega⟩
    show Ok (b_X6_read_2 (g_X6_read k) k S 26 x zj) _
    unfold b_X6_read_2
    refine ok_pos (by rw [wIn (n := zj) (by omega) (by omega), wIn (n := 47) (by omega) (by omega)]; omega) ?_
    exact ok_some ⟨L, set_self6 eL, hLl, fun i hi => hI i (by omega)⟩
  | succ d ih =>
    intro k j zj S L hj hz hS eL eX hLl hI hk
    obtain ⟨k, rfl⟩ : ∃ k', k = k' + 1 := ⟨k - 1, by omega⟩
    have hXl := hX.1
    obtain ⟨v, hv⟩ : ∃ v, X[j]? = some v := ⟨_, List.getElem?_eq_getElem (by omega)⟩
    show Ok (b_X6_read_2 (g_X6_read k) k S 26 x zj) _
    unfold b_X6_read_2
    refine ok_neg (by rw [wIn (n := zj) (by omega) (by omega), wIn (n := 47) (by omega) (by omega)]; omega) ?_
    refine ok_rdFp hS (by omega) g26 rfl (ok_rdFp hS (by omega) g26 rfl ?_)
    rw [rdA_at eX (by omega) (by omega), show zj.toNat = j by omega, hv]
    refine ok_bind (v := v) rfl ?_
    rw [wrA_of eL (by omega) (by omega) (by omega), show zj.toNat = j by omega]
    refine ok_bind (v := S.set 27 (.inl (0, L.set j v))) rfl ?_
    show Ok (g_X6_read k 2 (S.set 27 (.inl (0, L.set j v))) 26 x (zj + 1)) _
    obtain ⟨r, S2, e2, L', e3, q1, q2⟩ := ih k (j + 1) (zj + 1) (S.set 27 (.inl (0, L.set j v))) (L.set j v) (by omega) (by omega) (hp_set hS (by rw [g27]; exact ⟨_, rfl, by rw [List.length_set]; exact hLl, trivial⟩)) (set_at eL) (by rw [List.getElem?_set_ne (by omega)]; exact eX) (by rw [List.length_set]; exact hLl) (fun i hi => by
      by_cases hij : i = j
      · rw [hij, List.getElem?_set_self (by omega), hv]
      · rw [List.getElem?_set_ne (by omega)]
        exact hI i (by omega)) (by omega)
    exact ⟨r, S2, e2, L', by rw [e3, List.set_set], q1, q2⟩
theorem nw_47 {m : Int} {X L : List Int} (hm : 2 ≤ m ∧ m ≤ 7) (hX : xr m X) (h : ∀ i, i < 47 → L[i]? = X[i]?) : nw m L := by
  obtain ⟨hl, ⟨g0, g1, g2, g3, ⟨g4, g5⟩, g6, g7, g8, g9, g10, g11⟩, h46⟩ := hX
  refine ⟨?_, ?_, ?_, ?_, ⟨?_, ?_⟩, ?_, ?_, ?_, ?_, ?_, ?_⟩
  · rw [h 0 (by omega)]; exact g0
  · rw [h 1 (by omega)]; exact g1
  · rw [h 2 (by omega)]; exact g2
  · intro j v j1 j2 e
    rw [h j (by omega)] at e
    exact g3 j v j1 j2 e
  · intro i j i1 j1 e
    rw [h _ (by omega), h _ (by omega)] at e
    exact g4 i j i1 j1 e
  · intro i v i1 e
    rw [h _ (by omega)] at e
    exact g5 i v i1 e
  · rw [h 24 (by omega)]; exact g6
  · intro k v k1 e
    rw [h _ (by omega)] at e
    exact g7 k v k1 e
  · rw [h 41 (by omega)]; exact g8
  · intro k c v e1 k1 e
    rw [h 41 (by omega)] at e1
    have := g8 c e1
    rw [h _ (by omega)] at e
    exact g9 k c v e1 k1 e
  · rw [h 46 (by omega)]; exact g10
  · intro k c v e1 k1 e
    rw [h 46 (by omega), h46] at e1
    cases e1
    exfalso; omega
