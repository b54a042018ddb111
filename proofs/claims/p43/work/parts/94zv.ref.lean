variable {G : xT} {N : Nat} {n tl : Int} {a b : Bool}
theorem lr43 {k : Nat} {S : xS} {L : List Int} {c i0 i1 : Int} (hL : S[43]? = some (.inl (0, L))) (hl : L.length = 47) (hc : L[24]? = some c) (c0 : 0 ≤ c ∧ c < 8) : f_X6_layReport k S 43 i0 i1 = some (0, S.set 43 (.inl (0, ((L.set (25 + 2 * c).toNat i0).set (25 + 2 * c + 1).toNat i1).set 24 (c + 1)))) := by
  unfold f_X6_layReport
  rw [rdA_at hL (by omega) (by omega), show (24 : Int).toNat = 24 from rfl, hc]
  show ((wrA 0 S 43 (25 + (2 * c)) i0).bind _) = _
  rw [wrA_of hL (by omega) (by omega) (by omega)]
  have h1 : (S.set 43 (.inl (0, L.set (25 + 2 * c).toNat i0)))[43]? = some (.inl (0, L.set (25 + 2 * c).toNat i0)) := set_at hL
  show ((rdA 0 (S.set 43 (.inl (0, L.set (25 + 2 * c).toNat i0))) 43 24).bind _) = _
  rw [rdA_at h1 (by omega) (by omega), show (24 : Int).toNat = 24 from rfl, List.getElem?_set_ne (by omega), hc]
  show ((wrA 0 (S.set 43 (.inl (0, L.set (25 + 2 * c).toNat i0))) 43 ((25 + (2 * c)) + 1) i1).bind _) = _
  rw [wrA_of h1 (by omega) (by omega) (by rw [List.length_set]; omega)]
  have h2 : ((S.set 43 (.inl (0, L.set (25 + 2 * c).toNat i0))).set 43 (.inl (0, (L.set (25 + 2 * c).toNat i0).set (25 + 2 * c + 1).toNat i1)))[43]? = some (.inl (0, (L.set (25 + 2 * c).toNat i0).set (25 + 2 * c + 1).toNat i1)) := set_at h1
  show ((rdA 0 ((S.set 43 (.inl (0, L.set (25 + 2 * c).toNat i0))).set 43 (.inl (0, (L.set (25 + 2 * c).toNat i0).set (25 + 2 * c + 1).toNat i1))) 43 24).bind _) = _
  rw [rdA_at h2 (by omega) (by omega), show (24 : Int).toNat = 24 from rfl, List.getElem?_set_ne (by omega), List.getElem?_set_ne (by omega), hc]
  show ((wrA 0 ((S.set 43 (.inl (0, L.set (25 + 2 * c).toNat i0))).set 43 (.inl (0, (L.set (25 + 2 * c).toNat i0).set (25 + 2 * c + 1).toNat i1))) 43 24 (c + 1)).bind _) = _
  rw [wrA_of h2 (by omega) (by omega) (by rw [List.length_set, List.length_set]; omega), List.set_set, List.set_set]
  rfl
/-- the row read into: m boxes, no past -/
def xr (m : Int) (X : List Int) : Prop := X.length = 47 ∧ nw m X ∧ X[46]? = some 0
def rds (G : xT) (N : Nat) (tl p m : Int) (S : xS) : Prop := Hp G N S ∧ tkn tl p S ∧ ∃ X, S[43]? = some (.inl (0, X)) ∧ xr m X
theorem tkn_q {p : Int} {S S' : xS} (h : tkn tl p S) (hq : S'[26]? = S[26]?) : tkn tl p S' := by
  obtain ⟨at', len, kd, vl, ⟨t1, t2, t3, t4⟩, r⟩ := h
  exact ⟨at', len, kd, vl, ⟨(rdFi_cg hq).trans t1, (rdFi_cg hq).trans t2, (rdFi_cg hq).trans t3, (rdFi_cg hq).trans t4⟩, r⟩
theorem hp_43 (hN : 45 ≤ N) (hG : ∀ q, 26 ≤ q → q < 45 → G q = R6 n tl a b q) {S : xS} {m : Int} {X : List Int} (hS : Hp G N S) (hX : xr m X) : Hp G N (S.set 43 (.inl (0, X))) := hp_set hS (by
  rw [hG 43 (by omega) (by omega)]
  exact ⟨_, rfl, hX.1, hX.2.1.2.2.2.2.2.2.1⟩)
theorem rds_43 (hN : 45 ≤ N) (hG : ∀ q, 26 ≤ q → q < 45 → G q = R6 n tl a b q) {p m m' : Int} {S : xS} {X : List Int} (h : rds G N tl p m S) (hX : xr m' X) : rds G N tl p m' (S.set 43 (.inl (0, X))) := by
  obtain ⟨hS, ht, X0, e0, h0⟩ := h
  exact ⟨hp_43 hN hG hS hX, tkn_q ht (List.getElem?_set_ne (by omega)), X, set_at e0, hX⟩
theorem rds_go {p p' m : Int} {S S' : xS} (h : rds G N tl p m S) (hl : lkd G N tl p' S S') : rds G N tl p' m S' := by
  obtain ⟨hS, ht, X, e, hX⟩ := h
  exact ⟨hl.1, hl.2.2, X, (hl.2.1 43 (by omega)).trans e, hX⟩
theorem tf_X6_takes (hN : 45 ≤ N) (hG : ∀ q, 26 ≤ q → q < 45 → G q = R6 n tl a b q) (htl : tl ≤ 150) {k : Nat} {S : xS} {p i lo hi : Int} {Y : List Int} (hS : Hp G N S) (ht : tkn tl p S) (eY : S[44]? = some (.inl (0, Y))) (hi01 : i = 0 ∨ i = 1) (hlo : 0 ≤ lo ∧ lo ≤ 10000) (hhi : -1 ≤ hi ∧ hi ≤ 10000) (hk : 700 ≤ k) : Ok (f_X6_takes k S 26 i lo hi) (fun r S' => Hp G N S' ∧ tkn tl p S' ∧ (∀ q, q ≠ 26 → q ≠ 44 → S'[q]? = S[q]?) ∧ ((r = 0 ∧ S' = S) ∨ (r = 1 ∧ ∃ v, (lo ≤ v ∧ v ≤ hi) ∧ S'[44]? = some (.inl (0, Y.set i.toNat v))))) := by
  have g26 : G 26 = o6 tl (fI 0 7) := hG 26 (by omega) (by omega)
  have g44 : G 44 = tA 0 2 tW := hG 44 (by omega) (by omega)
  have ht' := ht
  obtain ⟨at', len, kd, vl, t4, hp, h0, hl, hal, hkd, hk1, hv⟩ := ht'
  unfold f_X6_takes
  rw [t4.2.2.1]
  refine ok_bind (v := kd) rfl ?_
  refine ok_if (fun _ => ?_) (fun _ => ok_some ⟨hS, ht, fun _ _ _ => rfl, Or.inl ⟨rfl, rfl⟩⟩)
  rw [t4.2.2.2]
  refine ok_bind (v := vl) rfl ?_
  rw [wIn (n := lo) (by omega) (by omega), wIn (n := hi) (by omega) (by omega)]
  refine ok_in (by omega) (by omega) (by omega) (by omega) (fun _ => ?_) (fun hc => ?_)
  · exact ok_pos (by decide) (ok_some ⟨hS, ht, fun _ _ _ => rfl, Or.inl ⟨rfl, rfl⟩⟩)
  · refine ok_neg (by decide) ?_
    refine ok_rdFp hS (by omega) g26 rfl ?_
    rw [t4.2.2.2]
    refine ok_bind (v := vl) rfl ?_
    refine ok_wrL hS (by omega) g44 eY (by omega) (by omega) (by omega) (fun _ => trivial) (fun hS1 => ?_)
    have q1 : ∀ q, q ≠ 44 → (S.set 44 (.inl (0, Y.set i.toNat vl)))[q]? = S[q]? := fun q hq => List.getElem?_set_ne (by omega)
    have e1 : (S.set 44 (.inl (0, Y.set i.toNat vl)))[44]? = some (.inl (0, Y.set i.toNat vl)) := set_at eY
    generalize S.set 44 (.inl (0, Y.set i.toNat vl)) = S1 at hS1 q1 e1
    rw [if_pos (is6 hN g26 hS1)]
    refine ok_bd2 (tf_X6_goOn hN hG htl hS1 (tkn_q ht (q1 26 (by omega))) (by omega)) (fun _ S2 hQ => ?_)
    obtain ⟨⟨hS2, q2, ht2⟩, -⟩ := hQ
    exact ok_some ⟨hS2, ht2, fun q h1 h2 => (q2 q h1).trans (q1 q h2), Or.inr ⟨rfl, vl, hc, (q2 44 (by omega)).trans e1⟩⟩
theorem tf_X6_last (hN : 45 ≤ N) (hG : ∀ q, 26 ≤ q → q < 45 → G q = R6 n tl a b q) {k : Nat} {S : xS} {p m : Int} (h : rds G N tl p m S) : f_X6_last k S 26 = some (m - 1, S) := by
  have g26 : G 26 = o6 tl (fI 0 7) := hG 26 (by omega) (by omega)
  obtain ⟨hS, ht, X, e, hX⟩ := h
  obtain ⟨r, S', e', h1, h2⟩ : Ok (f_X6_last k S 26) (fun r S' => r = m - 1 ∧ S' = S) := by
    unfold f_X6_last
    refine ok_rdFp hS (by omega) g26 rfl ?_
    rw [rdA_at e (by omega) (by omega), show (0 : Int).toNat = 0 from rfl, hX.2.1.1]
    exact ok_some ⟨rfl, rfl⟩
  rw [e', h1, h2]
theorem iw4 {mo : xV → Prop} (hN : 45 ≤ N) (g26 : G 26 = o6 tl mo) (htl : tl ≤ 150) {S : xS} {B : List Int} {at' len : Int} {i0 i1 i2 i3 i4 i5 z6 : Int} (hS : Hp G N S) (eB : S[42]? = some (.inl (0, B))) (hBl : B.length = 150) (e24 : rdFi 5 24 S 26 = some at') (h0 : 0 ≤ at' ∧ at' + len ≤ tl) (h6 : 4 ≤ z6 ∧ z6 ≤ 6) : ∀ (e k j : Nat) (zj f : Int), j + e = 6 → zj = (j : Int) → (f = 0 ∨ f = 1) → (f = 1 → z6 ≤ len) → 3 * e + 2 ≤ k → Ok (g_X6_isWord k 4 S 26 i0 i1 i2 i3 i4 i5 z6 f zj 0) (fun r S' => S' = S ∧ (r = 0 ∨ r = 1)) := by
  intro e
  induction e with
  | zero =>
    intro k j zj f hj hz hf hl hk
    obtain ⟨k, rfl⟩ : ∃ k', k = k' + 1 := ⟨k - 1, by omega⟩
    show Ok (b_X6_isWord_4 (g_X6_isWord k) k S 26 i0 i1 i2 i3 i4 i5 z6 f zj 0) _
    unfold b_X6_isWord_4
    refine ok_pos (by rw [wIn (n := z6) (by omega) (by omega), wIn (n := zj) (by omega) (by omega)]; omega) ?_
    exact ok_pos hf (ok_some ⟨rfl, hf⟩)
  | succ e ih =>
    intro k j zj f hj hz hf hl hk
    obtain ⟨k, rfl⟩ : ∃ k', k = k' + 3 := ⟨k - 3, by omega⟩
    show Ok (b_X6_isWord_4 (g_X6_isWord (k + 2)) (k + 2) S 26 i0 i1 i2 i3 i4 i5 z6 f zj 0) _
    unfold b_X6_isWord_4
    rw [wIn (n := z6) (by omega) (by omega), wIn (n := zj) (by omega) (by omega)]
    refine ok_if (fun _ => ok_pos hf (ok_some ⟨rfl, hf⟩)) (fun hc => ?_)
    refine ok_if (fun _ => ok_pos hf (ok_some ⟨rfl, hf⟩)) (fun hc2 => ?_)
    have hf1 : f = 1 := by
      rcases hf with rfl | rfl
      · exact absurd (by decide) hc2
      · rfl
    have hl1 := hl hf1
    obtain ⟨v, hv⟩ : ∃ v, B[(at' + zj).toNat]? = some v := ⟨_, List.getElem?_eq_getElem (by omega)⟩
    refine ok_rdFp hS (by omega) g26 rfl ?_
    rw [e24]
    refine ok_bind (v := at') rfl ?_
    rw [rdA_at eB (by omega) (by omega), hv]
    refine ok_bind (v := v) rfl ?_
    have five : ∀ c : Int, Ok (g_X6_isWord (k + 2) 5 S 26 i0 i1 i2 i3 i4 i5 z6 zj v c) (fun r S' => S' = S ∧ (r = 0 ∨ r = 1)) := by
      intro c
      show Ok (b_X6_isWord_5 (g_X6_isWord (k + 1)) (k + 1) S 26 i0 i1 i2 i3 i4 i5 z6 zj v c) _
      unfold b_X6_isWord_5
      refine ok_if (fun _ => ?_) (fun _ => ?_)
      · show Ok (g_X6_isWord k 4 S 26 i0 i1 i2 i3 i4 i5 z6 1 (zj + 1) 0) _
        exact ih k (j + 1) (zj + 1) 1 (by omega) (by omega) (Or.inr rfl) (fun _ => hl1) (by omega)
      · show Ok (g_X6_isWord k 4 S 26 i0 i1 i2 i3 i4 i5 z6 0 (zj + 1) 0) _
        exact ih k (j + 1) (zj + 1) 0 (by omega) (by omega) (Or.inl rfl) (fun h => by exfalso; omega) (by omega)
    exact ok_if (fun _ => five _) (fun _ => ok_if (fun _ => five _) (fun _ => ok_if (fun _ => five _) (fun _ => ok_if (fun _ => five _) (fun _ => ok_if (fun _ => five _) (fun _ => five _)))))
theorem tf_X6_isWord (hN : 45 ≤ N) (hG : ∀ q, 26 ≤ q → q < 45 → G q = R6 n tl a b q) (htl : tl ≤ 150) {k : Nat} {S : xS} {p : Int} {i0 i1 i2 i3 i4 i5 : Int} (hS : Hp G N S) (ht : tkn tl p S) (hk : 40 ≤ k) : Ok (f_X6_isWord k S 26 i0 i1 i2 i3 i4 i5) (fun r S' => S' = S ∧ (r = 0 ∨ r = 1)) := by
  have g26 : G 26 = o6 tl (fI 0 7) := hG 26 (by omega) (by omega)
  obtain ⟨k, rfl⟩ : ∃ k', k = k' + 4 := ⟨k - 4, by omega⟩
  obtain ⟨c, eB, hc⟩ := hp_get hS (show 42 < N by omega)
  rw [hG 42 (by omega) (by omega)] at hc
  obtain ⟨B, rfl, hBl, hBR⟩ := hc
  obtain ⟨at', len, kd, vl, t4, hp, h0, hl, hal, hkd, hk1, hv⟩ := ht
  have one : ∀ z6 : Int, 4 ≤ z6 → z6 ≤ 6 → Ok (g_X6_isWord (k + 3) 1 S 26 i0 i1 i2 i3 i4 i5 z6 0 0 0) (fun r S' => S' = S ∧ (r = 0 ∨ r = 1)) := by
    intro z6 h4 h6
    have three : ∀ (k : Nat) (f : Int), (f = 0 ∨ f = 1) → (f = 1 → z6 ≤ len) → 24 ≤ k → Ok (g_X6_isWord k 3 S 26 i0 i1 i2 i3 i4 i5 z6 f 0 0) (fun r S' => S' = S ∧ (r = 0 ∨ r = 1)) := by
      intro k f hf hfl hk
      obtain ⟨k, rfl⟩ : ∃ k', k = k' + 1 := ⟨k - 1, by omega⟩
      show Ok (g_X6_isWord k 4 S 26 i0 i1 i2 i3 i4 i5 z6 f 0 0) _
      exact iw4 hN g26 htl hS eB hBl t4.1 ⟨h0, hal⟩ ⟨h4, h6⟩ 6 k 0 0 f (by omega) rfl hf hfl (by omega)
    have two : Ok (g_X6_isWord (k + 2) 2 S 26 i0 i1 i2 i3 i4 i5 z6 0 0 0) (fun r S' => S' = S ∧ (r = 0 ∨ r = 1)) := three (k + 1) 0 (Or.inl rfl) (fun h => by exfalso; omega) (by omega)
    show Ok (b_X6_isWord_1 (g_X6_isWord (k + 2)) (k + 2) S 26 i0 i1 i2 i3 i4 i5 z6 0 0 0) _
    unfold b_X6_isWord_1
    rw [t4.2.2.1]
    refine ok_bind (v := kd) rfl ?_
    refine ok_if (fun _ => ?_) (fun _ => two)
    rw [t4.2.1]
    refine ok_bind (v := len) rfl ?_
    rw [wIn (n := len) (by omega) (by omega), wIn (n := z6) (by omega) (by omega)]
    exact ok_if (fun h => three (k + 2) 1 (Or.inr rfl) (fun _ => by omega) (by omega)) (fun _ => two)
  show Ok (b_X6_isWord_0 (g_X6_isWord (k + 3)) (k + 3) S 26 i0 i1 i2 i3 i4 i5 0 0 0 0) _
  unfold b_X6_isWord_0
  exact ok_if (fun _ => one 4 (by omega) (by omega)) (fun _ => ok_if (fun _ => one 5 (by omega) (by omega)) (fun _ => one 6 (by omega) (by omega)))
theorem ik43 {S : xS} {X : List Int} {m : Int} {mm : Nat} (hm : m = (mm : Int)) (hm7 : mm ≤ 7) (e : S[43]? = some (.inl (0, X))) (hX : xr m X) {x : Int} : ∀ (d k j : Nat) (zj f : Int), j + d = mm → zj = (j : Int) → (f = 0 ∨ f = 1) → 3 * d + 1 ≤ k → Ok (g_X6_isKnown k 1 S 43 x f zj) (fun r S' => S' = S ∧ (r = 0 ∨ r = 1)) := by
  have hl := hX.1
  intro d
  induction d with
  | zero =>
    intro k j zj f hj hz hf hk
    obtain ⟨k, rfl⟩ : ∃ k', k = k' + 1 := ⟨k - 1, by omega⟩
    show Ok (b_X6_isKnown_1 (g_X6_isKnown k) k S 43 x f zj) _
    unfold b_X6_isKnown_1
    rw [rdA_at e (by omega) (by omega), show (0 : Int).toNat = 0 from rfl, hX.2.1.1]
    refine ok_bind (v := m) rfl ?_
    refine ok_pos (by rw [wIn (n := m) (by omega) (by omega), wIn (n := zj) (by omega) (by omega)]; omega) ?_
    exact ok_pos hf (ok_some ⟨rfl, hf⟩)
  | succ d ih =>
    intro k j zj f hj hz hf hk
    obtain ⟨k, rfl⟩ : ∃ k', k = k' + 3 := ⟨k - 3, by omega⟩
    have three : ∀ (k : Nat) (f : Int), (f = 0 ∨ f = 1) → 3 * d + 2 ≤ k → Ok (g_X6_isKnown k 3 S 43 x zj f) (fun r S' => S' = S ∧ (r = 0 ∨ r = 1)) := by
      intro k f hf hk
      obtain ⟨k, rfl⟩ : ∃ k', k = k' + 1 := ⟨k - 1, by omega⟩
      show Ok (g_X6_isKnown k 1 S 43 x f (zj + 1)) _
      exact ih k (j + 1) (zj + 1) f (by omega) (by omega) hf (by omega)
    have two : Ok (g_X6_isKnown (k + 2) 2 S 43 x zj 0) (fun r S' => S' = S ∧ (r = 0 ∨ r = 1)) := three (k + 1) 1 (Or.inr rfl) (by omega)
    obtain ⟨v, hv⟩ : ∃ v, X[17 + j]? = some v := ⟨_, List.getElem?_eq_getElem (by omega)⟩
    show Ok (b_X6_isKnown_1 (g_X6_isKnown (k + 2)) (k + 2) S 43 x f zj) _
    unfold b_X6_isKnown_1
    rw [rdA_at e (by omega) (by omega), show (0 : Int).toNat = 0 from rfl, hX.2.1.1]
    refine ok_bind (v := m) rfl ?_
    refine ok_neg (by rw [wIn (n := m) (by omega) (by omega), wIn (n := zj) (by omega) (by omega)]; omega) ?_
    refine ok_if (fun _ => ?_) (fun _ => two)
    rw [rdA_at e (by omega) (by omega), show (17 + zj).toNat = 17 + j by omega, hv]
    refine ok_bind (v := v) rfl ?_
    exact ok_if (fun _ => two) (fun _ => three (k + 2) 0 (Or.inl rfl) (by omega))
theorem tf43_isKnown {S : xS} {X : List Int} {m x : Int} (hm : 2 ≤ m ∧ m ≤ 7) (e : S[43]? = some (.inl (0, X))) (hX : xr m X) {k : Nat} (hk : 30 ≤ k) : Ok (f_X6_isKnown k S 43 x) (fun r S' => S' = S ∧ (r = 0 ∨ r = 1)) := by
  obtain ⟨k, rfl⟩ : ∃ k', k = k' + 1 := ⟨k - 1, by omega⟩
  exact ik43 (mm := m.toNat) (by omega) (by omega) e hX m.toNat k 0 0 0 (by omega) rfl (Or.inl rfl) (by omega)
