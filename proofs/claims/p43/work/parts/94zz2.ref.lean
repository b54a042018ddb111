variable {G : xT} {N : Nat} {n tl : Int} {a b : Bool}
theorem frm1 (hN : 45 ≤ N) {mo : xV → Prop} (g26 : G 26 = o6 tl mo) (g27 : G 27 = tA 0 57 tW) {X : List Int} (hXl : X.length = 114) {h : Nat} {zh : Int} (hzh : zh = (h : Int)) (hh : h ≤ 1) : ∀ (d k j : Nat) (zj : Int) (S : xS) (L : List Int), j + d = 57 → zj = (j : Int) → Hp G N S → S[27]? = some (.inl (0, L)) → S[28]? = some (.inl (0, X)) → L.length = 57 → (∀ i, i < j → L[i]? = X[57 * h + i]?) → d + 1 ≤ k → Ok (g_X6_from k 1 S 26 zh zj) (fun r S' => r = 1 ∧ ∃ L', S' = S.set 27 (.inl (0, L')) ∧ L'.length = 57 ∧ ∀ i, i < 57 → L'[i]? = X[57 * h + i]?) := by
  intro d
  induction d with
  | zero =>
    intro k j zj S L hj hz hS eL eX hLl hI hk
    obtain ⟨k, rfl⟩ : ∃ k', k = k' + 1 := ⟨k - 1, by omega⟩
    show Ok (b_X6_from_1 (g_X6_from k) k S 26 zh zj) _
    unfold b_X6_from_1
    refine ok_pos (by rw [wIn (n := zj) (by omega) (by omega), wIn (n := 57) (by omega) (by omega)]; omega) ?_
    exact ok_some ⟨rfl, L, set_self6 eL, hLl, fun i hi => hI i (by omega)⟩
  | succ d ih =>
    intro k j zj S L hj hz hS eL eX hLl hI hk
    obtain ⟨k, rfl⟩ : ∃ k', k = k' + 1 := ⟨k - 1, by omega⟩
    obtain ⟨v, hv⟩ : ∃ v, X[57 * h + j]? = some v := ⟨_, List.getElem?_eq_getElem (by omega)⟩
    show Ok (b_X6_from_1 (g_X6_from k) k S 26 zh zj) _
    unfold b_X6_from_1
    refine ok_neg (by rw [wIn (n := zj) (by omega) (by omega), wIn (n := 57) (by omega) (by omega)]; omega) ?_
    refine ok_rdFp hS (by omega) g26 rfl (ok_rdFp hS (by omega) g26 rfl ?_)
    rw [rdA_at eX (by omega) (by omega), show ((57 * zh) + zj).toNat = 57 * h + j by omega, hv]
    refine ok_bind (v := v) rfl ?_
    refine ok_wrL hS (by omega) g27 eL (by omega) (by omega) (by omega) (fun _ => trivial) (fun hS1 => ?_)
    rw [show zj.toNat = j by omega] at hS1 ⊢
    show Ok (g_X6_from k 1 (S.set 27 (.inl (0, L.set j v))) 26 zh (zj + 1)) _
    obtain ⟨r, S2, e2, hr, L', e3, q1, q2⟩ := ih k (j + 1) (zj + 1) _ (L.set j v) (by omega) (by omega) hS1 (set_at eL) (by rw [List.getElem?_set_ne (by omega)]; exact eX) (by rw [List.length_set]; exact hLl) (fun i hi => by
      by_cases hij : i = j
      · rw [hij, List.getElem?_set_self (by omega), hv]
      · rw [List.getElem?_set_ne (by omega)]
        exact hI i (by omega)) (by omega)
    exact ⟨r, S2, e2, hr, L', by rw [e3, List.set_set], q1, q2⟩
/-- is half i kept -/
def kp6 (i : Int) (a b : Bool) : Bool := if i = 0 then a else b
theorem tf_X6_from (hN : 45 ≤ N) (hn : 2 ≤ n ∧ n ≤ 7) (hG : ∀ q, 26 ≤ q → q < 45 → G q = R6 n tl a b q) {k : Nat} {S : xS} {i0 : Int} (hS : Hp G N S) (h0 : -2147483648 ≤ i0 ∧ i0 < 2147483648) (hk : 100 ≤ k) : Ok (f_X6_from k S 26 i0) (fun r S' => (¬ (0 ≤ i0 ∧ i0 ≤ 1) ∧ r = -2 ∧ Hp G N S') ∨ ((0 ≤ i0 ∧ i0 ≤ 1) ∧ kp6 i0 a b = false ∧ r = -3 ∧ Hp G N S') ∨ ((0 ≤ i0 ∧ i0 ≤ 1) ∧ kp6 i0 a b = true ∧ r = 1 ∧ ∃ m, (2 ≤ m ∧ m ≤ 7) ∧ Hp (up G 27 (tA 0 57 (nw m))) N S')) := by
  have g26 : G 26 = o6 tl (fI 0 7) := hG 26 (by omega) (by omega)
  have g27 := hG 27 (by omega) (by omega)
  obtain ⟨k, rfl⟩ : ∃ k', k = k' + 1 := ⟨k - 1, by omega⟩
  show Ok (b_X6_from_0 (g_X6_from k) k S 26 i0 0) _
  unfold b_X6_from_0
  refine ok_in h0 (by omega) (by omega) (by omega) (fun hc => ?_) (fun hc => ?_)
  · refine ok_pos (by decide) ?_
    rw [if_pos (is6 hN g26 hS)]
    refine ok_bd2 (tf_X6_bad hN hn hG hS trivial) (fun _ _ hQ => ?_)
    exact ok_some (Or.inl ⟨by omega, hQ.2, hQ.1⟩)
  · refine ok_neg (by decide) ?_
    obtain ⟨c, eL, hc'⟩ := hp_get hS (show 27 < N by omega)
    rw [g27] at hc'
    obtain ⟨L, rfl, hL, hp⟩ := hc'
    obtain ⟨c, eX, hc'⟩ := hp_get hS (show 28 < N by omega)
    rw [hG 28 (by omega) (by omega)] at hc'
    obtain ⟨X, rfl, hXl, hX⟩ := hc'
    obtain ⟨c, eI, hc'⟩ := hp_get hS (show 29 < N by omega)
    rw [hG 29 (by omega) (by omega)] at hc'
    have hc'' : c = .inl (2, [if a = true then 1 else 0, if b = true then 1 else 0]) := hc'
    rw [hc''] at eI
    refine ok_rdFp hS (by omega) g26 rfl ?_
    have hfl : [if a = true then (1 : Int) else 0, if b = true then 1 else 0][i0.toNat]? = some (if kp6 i0 a b = true then 1 else 0) := by
      rcases (show i0 = 0 ∨ i0 = 1 by omega) with rfl | rfl <;> rfl
    rw [rdA_at eI (by omega) (by omega), hfl]
    refine ok_bind rfl ?_
    cases hkb : kp6 i0 a b with
    | false =>
      refine ok_pos (by decide) ?_
      rw [if_pos (is6 hN g26 hS)]
      refine ok_bd2 (tf_X6_no hN hn hG hS trivial) (fun _ _ hQ => ?_)
      exact ok_some (Or.inr (Or.inl ⟨hc, rfl, hQ.2, hQ.1⟩))
    | true =>
      refine ok_neg (by decide) ?_
      have hS' : Hp (up G 27 (tA 0 57 tW)) N S := by
        rw [set_self6 eL]
        exact hp_up hS ⟨_, rfl, hL, trivial⟩
      obtain ⟨r, S2, e2, hr, L', e3, q1, q2⟩ := frm1 hN (G := up G 27 (tA 0 57 tW)) (mo := fI 0 7) (tl := tl) ((up_ne (by omega)).trans g26) up_self hXl (h := i0.toNat) (zh := i0) (by omega) (by omega) 57 k 0 0 S L (by omega) rfl hS' eL eX hL (fun i hi => by exfalso; omega) (by omega)
      refine ⟨r, S2, e2, Or.inr (Or.inr ⟨hc, rfl, hr, ?_⟩)⟩
      have hm : ∃ m, (2 ≤ m ∧ m ≤ 7) ∧ nw m L' := by
        rcases (show i0 = 0 ∨ i0 = 1 by omega) with rfl | rfl
        · have e1 : X.take 57 = L' := take_eq q1 (fun i hi => by
            have := q2 i hi
            rw [show 57 * (0 : Int).toNat + i = i by rw [show (0 : Int).toNat = 0 from rfl]; omega] at this
            exact this.symm)
          rw [← e1]
          exact hX.1 hkb
        · have e1 : X.drop 57 = L' := drop_eq (by omega) (fun i hi => by
            have := q2 i (by omega)
            rw [show 57 * (1 : Int).toNat + i = 57 + i by rw [show (1 : Int).toNat = 1 from rfl]] at this
            exact this.symm)
          rw [← e1]
          exact hX.2 hkb
      obtain ⟨m, hm, hw⟩ := hm
      refine ⟨m, hm, ?_⟩
      rw [e3]
      exact hp_up hS ⟨_, rfl, q1, hw⟩
theorem dg5 (hN : 45 ≤ N) (hG : ∀ q, 26 ≤ q → q < 45 → G q = R6 n tl a b q) {S : xS} (hS : Hp G N S) : ∀ (e k : Nat) (x z : Int), 0 ≤ z → z + e = 5 → e + 1 ≤ k → Ok (g_X6_digest k 5 S 26 x z) (fun _ S' => Hp G N S') := by
  have g26 : G 26 = o6 tl (fI 0 7) := hG 26 (by omega) (by omega)
  have g27 := hG 27 (by omega) (by omega)
  intro e
  induction e with
  | zero =>
    intro k x z h0 he hk
    obtain ⟨k, rfl⟩ : ∃ k', k = k' + 1 := ⟨k - 1, by omega⟩
    show Ok (b_X6_digest_5 (g_X6_digest k) k S 26 x z) _
    unfold b_X6_digest_5
    refine ok_rdFp hS (by omega) g26 rfl (ok_n41 hS (by omega) g27 (fun v h1 h2 => ?_))
    refine ok_pos (by rw [wIn (n := v) (by omega) (by omega), wIn (n := z) (by omega) (by omega)]; omega) ?_
    exact ok_rdFl hS (by omega) g26 rfl (fun _ => ok_rdFl hS (by omega) g26 rfl (fun _ => ok_some hS))
  | succ e ih =>
    intro k x z h0 he hk
    obtain ⟨k, rfl⟩ : ∃ k', k = k' + 1 := ⟨k - 1, by omega⟩
    show Ok (b_X6_digest_5 (g_X6_digest k) k S 26 x z) _
    unfold b_X6_digest_5
    refine ok_rdFp hS (by omega) g26 rfl (ok_n41 hS (by omega) g27 (fun v h1 h2 => ?_))
    refine ok_if (fun _ => ok_rdFl hS (by omega) g26 rfl (fun _ => ok_rdFl hS (by omega) g26 rfl (fun _ => ok_some hS))) (fun _ => ?_)
    refine ok_rdFp hS (by omega) g26 rfl (ok_nA hS (by omega) g27 (by omega) (fun w => ?_))
    exact ih k _ (z + 1) (by omega) (by omega) (by omega)
theorem dg4 (hN : 45 ≤ N) (hG : ∀ q, 26 ≤ q → q < 45 → G q = R6 n tl a b q) {S : xS} (hS : Hp G N S) : ∀ (e k : Nat) (x z : Int), 0 ≤ z → z + e = 16 → e + 10 ≤ k → Ok (g_X6_digest k 4 S 26 x z) (fun _ S' => Hp G N S') := by
  have g26 : G 26 = o6 tl (fI 0 7) := hG 26 (by omega) (by omega)
  have g27 := hG 27 (by omega) (by omega)
  intro e
  induction e with
  | zero =>
    intro k x z h0 he hk
    obtain ⟨k, rfl⟩ : ∃ k', k = k' + 1 := ⟨k - 1, by omega⟩
    show Ok (b_X6_digest_4 (g_X6_digest k) k S 26 x z) _
    unfold b_X6_digest_4
    refine ok_rdFp hS (by omega) g26 rfl (ok_n24 hS (by omega) g27 (fun v h1 h2 => ?_))
    refine ok_pos (by rw [wIn (n := 2 * v) (by omega) (by omega), wIn (n := z) (by omega) (by omega)]; omega) ?_
    exact dg5 hN hG hS 5 k x 0 (by omega) (by omega) (by omega)
  | succ e ih =>
    intro k x z h0 he hk
    obtain ⟨k, rfl⟩ : ∃ k', k = k' + 1 := ⟨k - 1, by omega⟩
    show Ok (b_X6_digest_4 (g_X6_digest k) k S 26 x z) _
    unfold b_X6_digest_4
    refine ok_rdFp hS (by omega) g26 rfl (ok_n24 hS (by omega) g27 (fun v h1 h2 => ?_))
    refine ok_if (fun _ => dg5 hN hG hS 5 k x 0 (by omega) (by omega) (by omega)) (fun _ => ?_)
    refine ok_rdFp hS (by omega) g26 rfl (ok_nA hS (by omega) g27 (by omega) (fun w => ?_))
    exact ih k _ (z + 1) (by omega) (by omega) (by omega)
theorem dg3 (hN : 45 ≤ N) (hn : 2 ≤ n ∧ n ≤ 7) (hG : ∀ q, 26 ≤ q → q < 45 → G q = R6 n tl a b q) {S : xS} (hS : Hp G N S) : ∀ (e k : Nat) (x z : Int), 0 ≤ z → z + e = n → e + 30 ≤ k → Ok (g_X6_digest k 3 S 26 x z) (fun _ S' => Hp G N S') := by
  have g26 : G 26 = o6 tl (fI 0 7) := hG 26 (by omega) (by omega)
  have g27 := hG 27 (by omega) (by omega)
  intro e
  induction e with
  | zero =>
    intro k x z h0 he hk
    obtain ⟨k, rfl⟩ : ∃ k', k = k' + 1 := ⟨k - 1, by omega⟩
    show Ok (b_X6_digest_3 (g_X6_digest k) k S 26 x z) _
    unfold b_X6_digest_3
    rw [if_pos (is6 hN g26 hS)]
    refine ok_n6 (by omega) g26 g27 hS ?_
    refine ok_pos (by rw [wIn (n := n) (by omega) (by omega), wIn (n := z) (by omega) (by omega)]; omega) ?_
    exact dg4 hN hG hS 16 k x 0 (by omega) (by omega) (by omega)
  | succ e ih =>
    intro k x z h0 he hk
    obtain ⟨k, rfl⟩ : ∃ k', k = k' + 1 := ⟨k - 1, by omega⟩
    show Ok (b_X6_digest_3 (g_X6_digest k) k S 26 x z) _
    unfold b_X6_digest_3
    rw [if_pos (is6 hN g26 hS)]
    refine ok_n6 (by omega) g26 g27 hS ?_
    refine ok_neg (by rw [wIn (n := n) (by omega) (by omega), wIn (n := z) (by omega) (by omega)]; omega) ?_
    refine ok_rdFp hS (by omega) g26 rfl (ok_nA hS (by omega) g27 (by omega) (fun w => ?_))
    exact ih k _ (z + 1) (by omega) (by omega) (by omega)
theorem dg2 (hN : 45 ≤ N) (hn : 2 ≤ n ∧ n ≤ 7) (hG : ∀ q, 26 ≤ q → q < 45 → G q = R6 n tl a b q) {S : xS} (hS : Hp G N S) : ∀ (e k : Nat) (x z : Int), 0 ≤ z → z + e = n → e + 40 ≤ k → Ok (g_X6_digest k 2 S 26 x z) (fun _ S' => Hp G N S') := by
  have g26 : G 26 = o6 tl (fI 0 7) := hG 26 (by omega) (by omega)
  have g27 := hG 27 (by omega) (by omega)
  intro e
  induction e with
  | zero =>
    intro k x z h0 he hk
    obtain ⟨k, rfl⟩ : ∃ k', k = k' + 1 := ⟨k - 1, by omega⟩
    show Ok (b_X6_digest_2 (g_X6_digest k) k S 26 x z) _
    unfold b_X6_digest_2
    rw [if_pos (is6 hN g26 hS)]
    refine ok_n6 (by omega) g26 g27 hS ?_
    refine ok_pos (by rw [wIn (n := n) (by omega) (by omega), wIn (n := z) (by omega) (by omega)]; omega) ?_
    exact dg3 hN hn hG hS n.toNat k x 0 (by omega) (by omega) (by omega)
  | succ e ih =>
    intro k x z h0 he hk
    obtain ⟨k, rfl⟩ : ∃ k', k = k' + 1 := ⟨k - 1, by omega⟩
    show Ok (b_X6_digest_2 (g_X6_digest k) k S 26 x z) _
    unfold b_X6_digest_2
    rw [if_pos (is6 hN g26 hS)]
    refine ok_n6 (by omega) g26 g27 hS ?_
    refine ok_neg (by rw [wIn (n := n) (by omega) (by omega), wIn (n := z) (by omega) (by omega)]; omega) ?_
    refine ok_rdFp hS (by omega) g26 rfl (ok_nA hS (by omega) g27 (by omega) (fun w => ?_))
    refine ok_rdFp hS (by omega) g26 rfl (ok_nA hS (by omega) g27 (by omega) (fun w2 => ?_))
    exact ih k _ (z + 1) (by omega) (by omega) (by omega)
theorem dg1 (hN : 45 ≤ N) (hn : 2 ≤ n ∧ n ≤ 7) (hG : ∀ q, 26 ≤ q → q < 45 → G q = R6 n tl a b q) (hf : 1 ≤ fac n ∧ fac n ≤ 5040) {S : xS} (hS : Hp G N S) : ∀ (e k : Nat) (x z : Int), 0 ≤ z → z + e = 8 → e + 60 ≤ k → Ok (g_X6_digest k 1 S 26 x z) (fun _ S' => Hp G N S') := by
  have g26 : G 26 = o6 tl (fI 0 7) := hG 26 (by omega) (by omega)
  have g27 := hG 27 (by omega) (by omega)
  intro e
  induction e with
  | zero =>
    intro k x z h0 he hk
    obtain ⟨k, rfl⟩ : ∃ k', k = k' + 1 := ⟨k - 1, by omega⟩
    show Ok (b_X6_digest_1 (g_X6_digest k) k S 26 x z) _
    unfold b_X6_digest_1
    refine ok_pos (by rw [wIn (n := 8) (by omega) (by omega), wIn (n := z) (by omega) (by omega)]; omega) ?_
    exact dg2 hN hn hG hS n.toNat k x 0 (by omega) (by omega) (by omega)
  | succ e ih =>
    intro k x z h0 he hk
    obtain ⟨k, rfl⟩ : ∃ k', k = k' + 1 := ⟨k - 1, by omega⟩
    show Ok (b_X6_digest_1 (g_X6_digest k) k S 26 x z) _
    unfold b_X6_digest_1
    refine ok_neg (by rw [wIn (n := 8) (by omega) (by omega), wIn (n := z) (by omega) (by omega)]; omega) ?_
    rw [if_pos (is6 hN g26 hS)]
    refine ok_bd2 (tf_X6_counted hN hn hG hf hS ⟨by omega, by omega, by omega⟩) (fun r S' hQ => ?_)
    obtain ⟨rfl, -⟩ := hQ
    exact ih k _ (z + 1) (by omega) (by omega) (by omega)
theorem tf_X6_digest (hN : 45 ≤ N) (hn : 2 ≤ n ∧ n ≤ 7) (hG : ∀ q, 26 ≤ q → q < 45 → G q = R6 n tl a b q) (hf : 1 ≤ fac n ∧ fac n ≤ 5040) {k : Nat} {S : xS} (hS : Hp G N S) (hk : 100 ≤ k) : Ok (f_X6_digest k S 26) (fun _ S' => Hp G N S') := by
  obtain ⟨k, rfl⟩ : ∃ k', k = k' + 1 := ⟨k - 1, by omega⟩
  exact dg1 hN hn hG hf hS 8 k 823 0 (by omega) (by omega) (by omega)
