variable {G : xT} {N : Nat} {n tl : Int} {a b : Bool}
/-! the reference's text -/
def tk4 (S : xS) (at' len kd vl : Int) : Prop := rdFi 5 24 S 26 = some at' ∧ rdFi 5 25 S 26 = some len ∧ rdFi 5 26 S 26 = some kd ∧ rdFi 5 27 S 26 = some vl
/-- the token lies from p on -/
def tkn (tl p : Int) (S : xS) : Prop := ∃ at' len kd vl, tk4 S at' len kd vl ∧ p ≤ at' ∧ 0 ≤ at' ∧ 0 ≤ len ∧ at' + len ≤ tl ∧ (0 ≤ kd ∧ kd ≤ 4) ∧ (kd = 0 ∨ 1 ≤ len) ∧ (0 ≤ vl ∧ vl ≤ 9999)
def lkd (G : xT) (N : Nat) (tl p : Int) (S S' : xS) : Prop := Hp G N S' ∧ (∀ q, q ≠ 26 → S'[q]? = S[q]?) ∧ tkn tl p S'
theorem rd23 {mo : xV → Prop} (hN : 45 ≤ N) (g26 : G 26 = o6 tl mo) {S : xS} (hS : Hp G N S) : rdFi 5 23 S 26 = some tl := by
  obtain ⟨v, e, z, rfl, h1, h2⟩ := ok_fld (ci := 5) (k := 23) hS (show 26 < N by omega) g26 rfl
  unfold rdFi
  rw [e, show z = tl by omega]
theorem tk_24 {S S' : xS} {at' len kd vl z : Int} (h : tk4 S at' len kd vl) (e : rdFi 5 24 S' 26 = some z) (hk : ∀ k, k ≠ 24 → rdFi 5 k S' 26 = rdFi 5 k S 26) : tk4 S' z len kd vl := ⟨e, (hk 25 (by omega)).trans h.2.1, (hk 26 (by omega)).trans h.2.2.1, (hk 27 (by omega)).trans h.2.2.2⟩
theorem tk_25 {S S' : xS} {at' len kd vl z : Int} (h : tk4 S at' len kd vl) (e : rdFi 5 25 S' 26 = some z) (hk : ∀ k, k ≠ 25 → rdFi 5 k S' 26 = rdFi 5 k S 26) : tk4 S' at' z kd vl := ⟨(hk 24 (by omega)).trans h.1, e, (hk 26 (by omega)).trans h.2.2.1, (hk 27 (by omega)).trans h.2.2.2⟩
theorem tk_26 {S S' : xS} {at' len kd vl z : Int} (h : tk4 S at' len kd vl) (e : rdFi 5 26 S' 26 = some z) (hk : ∀ k, k ≠ 26 → rdFi 5 k S' 26 = rdFi 5 k S 26) : tk4 S' at' len z vl := ⟨(hk 24 (by omega)).trans h.1, (hk 25 (by omega)).trans h.2.1, e, (hk 27 (by omega)).trans h.2.2.2⟩
theorem tk_27 {S S' : xS} {at' len kd vl z : Int} (h : tk4 S at' len kd vl) (e : rdFi 5 27 S' 26 = some z) (hk : ∀ k, k ≠ 27 → rdFi 5 k S' 26 = rdFi 5 k S 26) : tk4 S' at' len kd z := ⟨(hk 24 (by omega)).trans h.1, (hk 25 (by omega)).trans h.2.1, (hk 26 (by omega)).trans h.2.2.1, e⟩
theorem tf_X6_isSmall {k : Nat} {S : xS} {v : Int} (hv : 0 ≤ v ∧ v ≤ 127) (hk : 2 ≤ (k : Int)) : Ok (f_X6_isSmall k S v) (fun r S' => S' = S ∧ ((r = 1 ∧ 97 ≤ v ∧ v ≤ 122) ∨ r = 0)) := by
  unfold f_X6_isSmall
  refine ok_in (by omega) (by omega) (by omega) hk (fun _ => ?_) (fun hc => ?_)
  · exact ok_pos (Or.inl rfl) (ok_some ⟨rfl, Or.inr rfl⟩)
  · exact ok_pos (Or.inr rfl) (ok_some ⟨rfl, Or.inl ⟨rfl, hc.1, hc.2⟩⟩)
theorem tf_X6_isFigure {k : Nat} {S : xS} {v : Int} (hv : 0 ≤ v ∧ v ≤ 127) (hk : 2 ≤ (k : Int)) : Ok (f_X6_isFigure k S v) (fun r S' => S' = S ∧ ((r = 1 ∧ 48 ≤ v ∧ v ≤ 57) ∨ r = 0)) := by
  unfold f_X6_isFigure
  refine ok_in (by omega) (by omega) (by omega) hk (fun _ => ?_) (fun hc => ?_)
  · exact ok_pos (Or.inl rfl) (ok_some ⟨rfl, Or.inr rfl⟩)
  · exact ok_pos (Or.inr rfl) (ok_some ⟨rfl, Or.inl ⟨rfl, hc.1, hc.2⟩⟩)
def pw10 : Nat → Int
  | 0 => 1
  | j + 1 => 10 * pw10 j
theorem pw10_s (j : Nat) : pw10 (j + 1) = 10 * pw10 j := rfl
theorem lk10 {mo : xV → Prop} (hN : 45 ≤ N) (g26 : G 26 = o6 tl mo) {S0 : xS} {k : Nat} {S : xS} {at' len kd vl p : Int} (hS : Hp G N S) (hq : ∀ q, q ≠ 26 → S[q]? = S0[q]?) (ht : tk4 S at' len kd vl) (hp : p ≤ at') (h0 : 0 ≤ at' ∧ 0 ≤ len ∧ at' + len ≤ tl) (htl : tl ≤ 150) (hkd : 0 ≤ kd ∧ kd ≤ 4) (hl : 1 ≤ len) (hv : 0 ≤ vl ∧ vl ≤ 9999) (hk : 2 ≤ k) : Ok (g_X6_lookAt k 10 S 26 0 0 0 0) (fun _ S' => lkd G N tl p S0 S') := by
  obtain ⟨k, rfl⟩ : ∃ k', k = k' + 2 := ⟨k - 2, by omega⟩
  have h11 : Ok (g_X6_lookAt (k + 1) 11 S 26 26 0 0 0) (fun _ S' => lkd G N tl p S0 S') := by
    show Ok (b_X6_lookAt_11 (g_X6_lookAt k) k S 26 26 0 0 0) _
    unfold b_X6_lookAt_11
    rw [ht.2.2.1]
    refine ok_bind (v := kd) rfl ?_
    refine ok_wf (P := fZ) hN g26 hS (by omega) rfl ⟨_, rfl⟩ (fun S1 hS1 e1 k1 q1 => ?_)
    exact ok_some ⟨hS1, fun q h => (q1 q h).trans (hq q h), at', len, kd, vl, tk_26 ht e1 k1, hp, h0.1, h0.2.1, h0.2.2, hkd, Or.inr hl, hv⟩
  show Ok (b_X6_lookAt_10 (g_X6_lookAt (k + 1)) (k + 1) S 26 0 0 0 0) _
  unfold b_X6_lookAt_10
  rw [ht.2.2.1]
  refine ok_bind (v := kd) rfl ?_
  refine ok_if (fun _ => ?_) (fun _ => h11)
  rw [ht.2.1]
  refine ok_bind (v := len) rfl ?_
  refine ok_if (fun _ => h11) (fun _ => ?_)
  refine ok_wf (P := fZ) hN g26 hS (by omega) rfl ⟨_, rfl⟩ (fun S1 hS1 e1 k1 q1 => ?_)
  exact ok_some ⟨hS1, fun q h => (q1 q h).trans (hq q h), at', len, 4, vl, tk_26 ht e1 k1, hp, h0.1, h0.2.1, h0.2.2, by omega, Or.inr hl, hv⟩
theorem lk9 {mo : xV → Prop} (hN : 45 ≤ N) (g26 : G 26 = o6 tl mo) {S0 : xS} {B : List Int} {at' len kd p : Int} (hp : p ≤ at') (h0 : 0 ≤ at' ∧ 0 ≤ len ∧ at' + len ≤ tl) (htl : tl ≤ 150) (hBl : B.length = 150) (hkd : 0 ≤ kd ∧ kd ≤ 4) (hl : 1 ≤ len) (hfig : kd = 2 → ∀ i v, 0 ≤ i → i < len → B[(at' + i).toNat]? = some v → 48 ≤ v ∧ v ≤ 57) : ∀ (e k j : Nat) (zj vl : Int) (S : xS), j + e = 4 → zj = (j : Int) → Hp G N S → (∀ q, q ≠ 26 → S[q]? = S0[q]?) → S[42]? = some (.inl (0, B)) → tk4 S at' len kd vl → (0 ≤ vl ∧ vl + 1 ≤ pw10 j ∧ 1 ≤ pw10 j ∧ pw10 j ≤ 10000) → e + 4 ≤ k → Ok (g_X6_lookAt k 9 S 26 0 zj 0 0) (fun _ S' => lkd G N tl p S0 S') := by
  intro e
  induction e with
  | zero =>
    intro k j zj vl S hj hz hS hq eB ht hv hk
    obtain ⟨k, rfl⟩ : ∃ k', k = k' + 1 := ⟨k - 1, by omega⟩
    have h10 : Ok (g_X6_lookAt k 10 S 26 0 0 0 0) (fun _ S' => lkd G N tl p S0 S') := lk10 hN g26 hS hq ht hp h0 htl hkd hl (by omega) (by omega)
    show Ok (b_X6_lookAt_9 (g_X6_lookAt k) k S 26 0 zj 0 0) _
    unfold b_X6_lookAt_9
    rw [ht.2.1]
    refine ok_bind (v := len) rfl ?_
    refine ok_if (fun _ => h10) (fun _ => ?_)
    refine ok_pos (by rw [wIn (n := zj) (by omega) (by omega), wIn (n := 4) (by omega) (by omega)]; omega) h10
  | succ e ih =>
    intro k j zj vl S hj hz hS hq eB ht hv hk
    obtain ⟨k, rfl⟩ : ∃ k', k = k' + 1 := ⟨k - 1, by omega⟩
    have h10 : Ok (g_X6_lookAt k 10 S 26 0 0 0 0) (fun _ S' => lkd G N tl p S0 S') := lk10 hN g26 hS hq ht hp h0 htl hkd hl (by omega) (by omega)
    show Ok (b_X6_lookAt_9 (g_X6_lookAt k) k S 26 0 zj 0 0) _
    unfold b_X6_lookAt_9
    rw [ht.2.1]
    refine ok_bind (v := len) rfl ?_
    rw [wIn (n := len) (by omega) (by omega), wIn (n := zj) (by omega) (by omega)]
    refine ok_if (fun _ => h10) (fun hc => ?_)
    refine ok_if (fun _ => h10) (fun _ => ?_)
    rw [ht.2.2.1]
    refine ok_bind (v := kd) rfl ?_
    rw [wIn (n := kd) (by omega) (by omega), wIn (n := 2) (by omega) (by omega)]
    refine ok_if (fun hk2 => ?_) (fun _ => h10)
    obtain ⟨v, hv'⟩ : ∃ v, B[(at' + zj).toNat]? = some v := ⟨_, List.getElem?_eq_getElem (by omega)⟩
    have hfv := hfig hk2 zj v (by omega) (by omega) hv'
    have hpj : pw10 (j + 1) ≤ 10000 := by
      rcases (show j = 0 ∨ j = 1 ∨ j = 2 ∨ j = 3 by omega) with rfl | rfl | rfl | rfl <;> decide
    have hps := pw10_s j
    rw [ht.2.2.2]
    refine ok_bind (v := vl) rfl ?_
    refine ok_rdFp hS (by omega) g26 rfl ?_
    rw [ht.1]
    refine ok_bind (v := at') rfl ?_
    rw [rdA_at eB (by omega) (by omega), hv']
    refine ok_bind (v := v) rfl ?_
    refine ok_wf (P := fI 0 9999) hN g26 hS (by omega) rfl ⟨_, rfl, by omega, by omega⟩ (fun S1 hS1 e1 k1 q1 => ?_)
    refine ih k (j + 1) (zj + 1) (((10 * vl) + v) - 48) S1 (by omega) (by omega) hS1 (fun q h => (q1 q h).trans (hq q h)) ((q1 42 (by omega)).trans eB) (tk_27 ht e1 k1) ⟨by omega, by omega, by omega, hpj⟩ (by omega)
