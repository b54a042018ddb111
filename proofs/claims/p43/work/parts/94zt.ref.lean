variable {G : xT} {N : Nat} {n tl : Int} {a b : Bool}
theorem lk5 {mo : xV → Prop} (hN : 45 ≤ N) (g26 : G 26 = o6 tl mo) {S0 : xS} {B : List Int} {at' kd p : Int} (hp : p ≤ at') (h0 : 0 ≤ at') (htl : tl ≤ 150) (hBl : B.length = 150) (hBR : tR 0 127 B) (hkd : 0 ≤ kd ∧ kd ≤ 4) : ∀ (e k : Nat) (f len : Int) (S : xS), at' + len + e = tl → 1 ≤ len → Hp G N S → (∀ q, q ≠ 26 → S[q]? = S0[q]?) → S[42]? = some (.inl (0, B)) → tk4 S at' len kd 0 → (kd = 2 → ∀ i v, 0 ≤ i → i < len → B[(at' + i).toNat]? = some v → 48 ≤ v ∧ v ≤ 57) → 3 * e + 14 ≤ k → Ok (g_X6_lookAt k 5 S 26 0 f 0 0) (fun _ S' => lkd G N tl p S0 S') := by
  have h8 : ∀ (k : Nat) (len : Int) (S : xS), at' + len ≤ tl → 1 ≤ len → Hp G N S → (∀ q, q ≠ 26 → S[q]? = S0[q]?) → S[42]? = some (.inl (0, B)) → tk4 S at' len kd 0 → (kd = 2 → ∀ i v, 0 ≤ i → i < len → B[(at' + i).toNat]? = some v → 48 ≤ v ∧ v ≤ 57) → 10 ≤ k → Ok (g_X6_lookAt k 8 S 26 0 0 0 0) (fun _ S' => lkd G N tl p S0 S') := by
    intro k len S hal hl hS hq eB ht hfig hk
    obtain ⟨k, rfl⟩ : ∃ k', k = k' + 1 := ⟨k - 1, by omega⟩
    show Ok (g_X6_lookAt k 9 S 26 0 0 0 0) _
    exact lk9 hN g26 hp ⟨h0, by omega, hal⟩ htl hBl hkd hl hfig 4 k 0 0 0 S (by omega) rfl hS hq eB ht (by decide) (by omega)
  have h5 : ∀ (k : Nat) (len : Int) (S : xS), at' + len ≤ tl → 1 ≤ len → Hp G N S → (∀ q, q ≠ 26 → S[q]? = S0[q]?) → S[42]? = some (.inl (0, B)) → tk4 S at' len kd 0 → (kd = 2 → ∀ i v, 0 ≤ i → i < len → B[(at' + i).toNat]? = some v → 48 ≤ v ∧ v ≤ 57) → 11 ≤ k → Ok (g_X6_lookAt k 5 S 26 0 0 0 0) (fun _ S' => lkd G N tl p S0 S') := by
    intro k len S hal hl hS hq eB ht hfig hk
    obtain ⟨k, rfl⟩ : ∃ k', k = k' + 1 := ⟨k - 1, by omega⟩
    show Ok (b_X6_lookAt_5 (g_X6_lookAt k) k S 26 0 0 0 0) _
    unfold b_X6_lookAt_5
    exact ok_pos (by decide) (h8 k len S hal hl hS hq eB ht hfig (by omega))
  intro e
  induction e with
  | zero =>
    intro k f len S he hl hS hq eB ht hfig hk
    obtain ⟨k, rfl⟩ : ∃ k', k = k' + 1 := ⟨k - 1, by omega⟩
    have h := h8 k len S (by omega) hl hS hq eB ht hfig (by omega)
    show Ok (b_X6_lookAt_5 (g_X6_lookAt k) k S 26 0 f 0 0) _
    unfold b_X6_lookAt_5
    refine ok_if (fun _ => h) (fun _ => ?_)
    rw [ht.1]
    refine ok_bind (v := at') rfl ?_
    rw [ht.2.1]
    refine ok_bind (v := len) rfl ?_
    rw [rd23 hN g26 hS]
    refine ok_bind (v := tl) rfl ?_
    exact ok_pos (by rw [wIn (n := tl) (by omega) (by omega), wIn (n := at' + len) (by omega) (by omega)]; omega) h
  | succ e ih =>
    intro k f len S he hl hS hq eB ht hfig hk
    obtain ⟨k, rfl⟩ : ∃ k', k = k' + 3 := ⟨k - 3, by omega⟩
    show Ok (b_X6_lookAt_5 (g_X6_lookAt (k + 2)) (k + 2) S 26 0 f 0 0) _
    unfold b_X6_lookAt_5
    refine ok_if (fun _ => h8 (k + 2) len S (by omega) hl hS hq eB ht hfig (by omega)) (fun _ => ?_)
    rw [ht.1]
    refine ok_bind (v := at') rfl ?_
    rw [ht.2.1]
    refine ok_bind (v := len) rfl ?_
    rw [rd23 hN g26 hS]
    refine ok_bind (v := tl) rfl ?_
    refine ok_neg (by rw [wIn (n := tl) (by omega) (by omega), wIn (n := at' + len) (by omega) (by omega)]; omega) ?_
    obtain ⟨v, hv⟩ : ∃ v, B[(at' + len).toNat]? = some v := ⟨_, List.getElem?_eq_getElem (by omega)⟩
    have hvR := tR_get hBR hv
    refine ok_rdFp hS (by omega) g26 rfl ?_
    refine ok_bind (v := at') rfl ?_
    refine ok_bind (v := len) rfl ?_
    rw [rdA_at eB (by omega) (by omega), hv]
    refine ok_bind (v := v) rfl ?_
    rw [ht.2.2.1]
    refine ok_bind (v := kd) rfl ?_
    have six0 : Ok (g_X6_lookAt (k + 2) 6 S 26 0 0 0 0) (fun _ S' => lkd G N tl p S0 S') := by
      show Ok (b_X6_lookAt_6 (g_X6_lookAt (k + 1)) (k + 1) S 26 0 0 0 0) _
      unfold b_X6_lookAt_6
      rw [ht.2.1]
      refine ok_bind (v := len) rfl ?_
      refine ok_pos (by decide) ?_
      show Ok (b_X6_lookAt_7 (g_X6_lookAt k) k S 26 26 0 len 0) _
      unfold b_X6_lookAt_7
      refine ok_wf (P := fI 0 150) hN g26 hS (by omega) rfl ⟨_, rfl, by omega, by omega⟩ (fun S1 hS1 e1 k1 q1 => ?_)
      rw [show len + 0 = len by omega] at e1
      exact h5 k len S1 (by omega) hl hS1 (fun q h => (q1 q h).trans (hq q h)) ((q1 42 (by omega)).trans eB) (tk_25 ht e1 k1) hfig (by omega)
    have six1 : (kd = 2 → 48 ≤ v ∧ v ≤ 57) → Ok (g_X6_lookAt (k + 2) 6 S 26 0 1 0 0) (fun _ S' => lkd G N tl p S0 S') := by
      intro hfv
      show Ok (b_X6_lookAt_6 (g_X6_lookAt (k + 1)) (k + 1) S 26 0 1 0 0) _
      unfold b_X6_lookAt_6
      rw [ht.2.1]
      refine ok_bind (v := len) rfl ?_
      refine ok_neg (by decide) ?_
      show Ok (b_X6_lookAt_7 (g_X6_lookAt k) k S 26 26 1 len 1) _
      unfold b_X6_lookAt_7
      refine ok_wf (P := fI 0 150) hN g26 hS (by omega) rfl ⟨_, rfl, by omega, by omega⟩ (fun S1 hS1 e1 k1 q1 => ?_)
      refine ih k 1 (len + 1) S1 (by omega) (by omega) hS1 (fun q h => (q1 q h).trans (hq q h)) ((q1 42 (by omega)).trans eB) (tk_25 ht e1 k1) (fun hk2 i v' hi hil e' => ?_) (by omega)
      by_cases hie : i = len
      · rw [hie, hv] at e'
        have := Option.some.inj e'
        have := hfv hk2
        omega
      · exact hfig hk2 i v' hi (by omega) e'
    rw [wIn (n := kd) (by omega) (by omega), wIn (n := 1) (by omega) (by omega)]
    refine ok_if (fun hk1 => ?_) (fun hk1 => ?_)
    · refine ok_bd2 (tf_X6_isSmall hvR (by omega)) (fun r S' hQ => ?_)
      obtain ⟨rfl, hQ⟩ := hQ
      rcases hQ with ⟨rfl, _⟩ | rfl
      · exact six1 (fun h => by exfalso; omega)
      · exact six0
    · refine ok_bd2 (tf_X6_isFigure hvR (by omega)) (fun r S' hQ => ?_)
      obtain ⟨rfl, hQ⟩ := hQ
      rcases hQ with ⟨rfl, hv1⟩ | rfl
      · exact six1 (fun _ => hv1)
      · exact six0
theorem lk2 {mo : xV → Prop} (hN : 45 ≤ N) (g26 : G 26 = o6 tl mo) {S0 : xS} {B : List Int} {at' p : Int} (hp : p ≤ at') (h0 : 0 ≤ at' ∧ at' ≤ tl) (htl : tl ≤ 150) (hBl : B.length = 150) (hBR : tR 0 127 B) {k : Nat} {S : xS} (hS : Hp G N S) (hq : ∀ q, q ≠ 26 → S[q]? = S0[q]?) (eB : S[42]? = some (.inl (0, B))) (e24 : rdFi 5 24 S 26 = some at') (hk : 480 ≤ k) : Ok (g_X6_lookAt k 2 S 26 0 0 0 0) (fun _ S' => lkd G N tl p S0 S') := by
  obtain ⟨k, rfl⟩ : ∃ k', k = k' + 3 := ⟨k - 3, by omega⟩
  show Ok (b_X6_lookAt_2 (g_X6_lookAt (k + 2)) (k + 2) S 26 0 0 0 0) _
  unfold b_X6_lookAt_2
  refine ok_wf (P := fI 0 150) hN g26 hS (by omega) rfl ⟨_, rfl, by omega, by omega⟩ (fun S1 hS1 e1 k1 q1 => ?_)
  refine ok_wf (P := fZ) hN g26 hS1 (by omega) rfl ⟨_, rfl⟩ (fun S2 hS2 e2 k2 q2 => ?_)
  refine ok_wf (P := fI 0 9999) hN g26 hS2 (by omega) rfl ⟨_, rfl, by omega, by omega⟩ (fun S3 hS3 e3 k3 q3 => ?_)
  have ht : tk4 S3 at' 0 0 0 := ⟨(k3 24 (by omega)).trans ((k2 24 (by omega)).trans ((k1 24 (by omega)).trans e24)), (k3 25 (by omega)).trans ((k2 25 (by omega)).trans e1), (k3 26 (by omega)).trans e2, e3⟩
  have hq3 : ∀ q, q ≠ 26 → S3[q]? = S0[q]? := fun q h => ((q3 q h).trans (q2 q h)).trans ((q1 q h).trans (hq q h))
  have eB3 : S3[42]? = some (.inl (0, B)) := ((q3 42 (by omega)).trans (q2 42 (by omega))).trans ((q1 42 (by omega)).trans eB)
  rw [ht.1]
  refine ok_bind (v := at') rfl ?_
  rw [rd23 hN g26 hS3]
  refine ok_bind (v := tl) rfl ?_
  rw [wIn (n := at') (by omega) (by omega), wIn (n := tl) (by omega) (by omega)]
  refine ok_if (fun hc => ok_some ⟨hS3, hq3, at', 0, 0, 0, ht, hp, by omega, by omega, by omega, by omega, Or.inl rfl, by omega⟩) (fun hc => ?_)
  obtain ⟨v, hv⟩ : ∃ v, B[at'.toNat]? = some v := ⟨_, List.getElem?_eq_getElem (by omega)⟩
  have hvR := tR_get hBR hv
  refine ok_rdFp hS3 (by omega) g26 rfl ?_
  refine ok_bind (v := at') rfl ?_
  rw [rdA_at eB3 (by omega) (by omega), hv]
  refine ok_bind (v := v) rfl ?_
  have three : ∀ kd : Int, 1 ≤ kd → kd ≤ 4 → (kd = 2 → 48 ≤ v ∧ v ≤ 57) → Ok (g_X6_lookAt (k + 2) 3 S3 26 26 kd 0 0) (fun _ S' => lkd G N tl p S0 S') := by
    intro kd hd1 hd2 hfv
    show Ok (b_X6_lookAt_3 (g_X6_lookAt (k + 1)) (k + 1) S3 26 26 kd 0 0) _
    unfold b_X6_lookAt_3
    refine ok_wf (P := fZ) hN g26 hS3 (by omega) rfl ⟨_, rfl⟩ (fun S4 hS4 e4 k4 q4 => ?_)
    refine ok_wf (P := fI 0 150) hN g26 hS4 (by omega) rfl ⟨_, rfl, by omega, by omega⟩ (fun S5 hS5 e5 k5 q5 => ?_)
    have ht5 : tk4 S5 at' 1 kd 0 := tk_25 (tk_26 ht e4 k4) e5 k5
    have five : ∀ f : Int, Ok (g_X6_lookAt (k + 1) 4 S5 26 0 f 0 0) (fun _ S' => lkd G N tl p S0 S') := by
      intro f
      show Ok (g_X6_lookAt k 5 S5 26 0 f 0 0) _
      refine lk5 hN g26 hp h0.1 htl hBl hBR (by omega) (tl - at' - 1).toNat k f 1 S5 (by omega) (by omega) hS5 (fun q h => ((q5 q h).trans (q4 q h)).trans (hq3 q h)) (((q5 42 (by omega)).trans (q4 42 (by omega))).trans eB3) ht5 (fun hk2 i v' hi hil e' => ?_) (by omega)
      rw [show at' + i = at' by omega, hv] at e'
      have := Option.some.inj e'
      have := hfv hk2
      omega
    rw [ht5.2.2.1]
    refine ok_bind (v := kd) rfl ?_
    exact ok_if (fun _ => five 0) (fun _ => five 1)
  refine ok_bd2 (tf_X6_isSmall hvR (by omega)) (fun r S' hQ => ?_)
  obtain ⟨rfl, hQ⟩ := hQ
  refine ok_if (fun _ => ?_) (fun _ => three 1 (by omega) (by omega) (fun h => by exfalso; omega))
  refine ok_bd2 (tf_X6_isFigure hvR (by omega)) (fun r2 S' hQ2 => ?_)
  obtain ⟨rfl, hQ2⟩ := hQ2
  refine ok_if (fun _ => ?_) (fun hr => three 2 (by omega) (by omega) (fun _ => ?_))
  · exact ok_if (fun _ => three 3 (by omega) (by omega) (fun h => by exfalso; omega)) (fun _ => three 4 (by omega) (by omega) (fun h => by exfalso; omega))
  · rcases hQ2 with ⟨_, h⟩ | rfl
    · exact h
    · exact absurd (by decide) hr
theorem lk1 {mo : xV → Prop} (hN : 45 ≤ N) (g26 : G 26 = o6 tl mo) {S0 : xS} {B : List Int} {p : Int} (htl : tl ≤ 150) (hBl : B.length = 150) (hBR : tR 0 127 B) : ∀ (e k : Nat) (at' : Int) (S : xS), at' + e = tl → p ≤ at' → 0 ≤ at' → Hp G N S → (∀ q, q ≠ 26 → S[q]? = S0[q]?) → S[42]? = some (.inl (0, B)) → rdFi 5 24 S 26 = some at' → e + 490 ≤ k → Ok (g_X6_lookAt k 1 S 26 0 0 0 0) (fun _ S' => lkd G N tl p S0 S') := by
  intro e
  induction e with
  | zero =>
    intro k at' S he hp h0 hS hq eB e24 hk
    obtain ⟨k, rfl⟩ : ∃ k', k = k' + 1 := ⟨k - 1, by omega⟩
    show Ok (b_X6_lookAt_1 (g_X6_lookAt k) k S 26 0 0 0 0) _
    unfold b_X6_lookAt_1
    rw [e24]
    refine ok_bind (v := at') rfl ?_
    rw [rd23 hN g26 hS]
    refine ok_bind (v := tl) rfl ?_
    exact ok_pos (by rw [wIn (n := tl) (by omega) (by omega), wIn (n := at') (by omega) (by omega)]; omega) (lk2 hN g26 hp ⟨h0, by omega⟩ htl hBl hBR hS hq eB e24 (by omega))
  | succ e ih =>
    intro k at' S he hp h0 hS hq eB e24 hk
    obtain ⟨k, rfl⟩ : ∃ k', k = k' + 1 := ⟨k - 1, by omega⟩
    have two : Ok (g_X6_lookAt k 2 S 26 0 0 0 0) (fun _ S' => lkd G N tl p S0 S') := lk2 hN g26 hp ⟨h0, by omega⟩ htl hBl hBR hS hq eB e24 (by omega)
    obtain ⟨v, hv⟩ : ∃ v, B[at'.toNat]? = some v := ⟨_, List.getElem?_eq_getElem (by omega)⟩
    show Ok (b_X6_lookAt_1 (g_X6_lookAt k) k S 26 0 0 0 0) _
    unfold b_X6_lookAt_1
    rw [e24]
    refine ok_bind (v := at') rfl ?_
    rw [rd23 hN g26 hS]
    refine ok_bind (v := tl) rfl ?_
    refine ok_if (fun _ => two) (fun _ => ?_)
    refine ok_rdFp hS (by omega) g26 rfl ?_
    refine ok_bind (v := at') rfl ?_
    rw [rdA_at eB (by omega) (by omega), hv]
    refine ok_bind (v := v) rfl ?_
    refine ok_if (fun _ => ?_) (fun _ => two)
    refine ok_bind (v := at') rfl ?_
    refine ok_wf (P := fI 0 150) hN g26 hS (by omega) rfl ⟨_, rfl, by omega, by omega⟩ (fun S1 hS1 e1 k1 q1 => ?_)
    exact ih k (at' + 1) S1 (by omega) (by omega) (by omega) hS1 (fun q h => (q1 q h).trans (hq q h)) ((q1 42 (by omega)).trans eB) e1 (by omega)
theorem tf_X6_lookAt (hN : 45 ≤ N) (hG : ∀ q, 26 ≤ q → q < 45 → G q = R6 n tl a b q) (htl : tl ≤ 150) {k : Nat} {S : xS} {p : Int} (hS : Hp G N S) (hp : 0 ≤ p ∧ p ≤ tl) (hk : 650 ≤ k) : Ok (f_X6_lookAt k S 26 p) (fun _ S' => lkd G N tl p S S') := by
  have g26 : G 26 = o6 tl (fI 0 7) := hG 26 (by omega) (by omega)
  obtain ⟨k, rfl⟩ : ∃ k', k = k' + 1 := ⟨k - 1, by omega⟩
  obtain ⟨c, eB, hc⟩ := hp_get hS (show 42 < N by omega)
  rw [hG 42 (by omega) (by omega)] at hc
  obtain ⟨B, rfl, hBl, hBR⟩ := hc
  show Ok (b_X6_lookAt_0 (g_X6_lookAt k) k S 26 0 p 0 0) _
  unfold b_X6_lookAt_0
  refine ok_wf (P := fI 0 150) hN g26 hS (by omega) rfl ⟨_, rfl, by omega, by omega⟩ (fun S1 hS1 e1 k1 q1 => ?_)
  exact lk1 hN g26 htl hBl hBR (tl - p).toNat k p S1 (by omega) (by omega) hp.1 hS1 q1 ((q1 42 (by omega)).trans eB) e1 (by omega)
theorem tf_X6_goOn (hN : 45 ≤ N) (hG : ∀ q, 26 ≤ q → q < 45 → G q = R6 n tl a b q) (htl : tl ≤ 150) {k : Nat} {S : xS} {p : Int} (hS : Hp G N S) (ht : tkn tl p S) (hk : 650 ≤ k) : Ok (f_X6_goOn k S 26) (fun _ S' => lkd G N tl p S S' ∧ (rdFi 5 26 S 26 ≠ some 0 → lkd G N tl (p + 1) S S')) := by
  have g26 : G 26 = o6 tl (fI 0 7) := hG 26 (by omega) (by omega)
  obtain ⟨at', len, kd, vl, ht, hp, h0, hl, hal, hkd, hk1, hv⟩ := ht
  unfold f_X6_goOn
  rw [ht.1]
  refine ok_bind (v := at') rfl ?_
  rw [ht.2.1]
  refine ok_bind (v := len) rfl ?_
  rw [if_pos (is6 hN g26 hS)]
  refine ok_bd2 (tf_X6_lookAt hN hG htl hS (p := at' + len) (by omega) hk) (fun _ S' hQ => ok_some ?_)
  obtain ⟨h1, h2, at2, len2, kd2, vl2, ht2, hp2, r⟩ := hQ
  refine ⟨⟨h1, h2, at2, len2, kd2, vl2, ht2, by omega, r⟩, fun hne => ⟨h1, h2, at2, len2, kd2, vl2, ht2, ?_, r⟩⟩
  have : kd ≠ 0 := fun h => hne (by rw [ht.2.2.1, h])
  omega
