variable {G : xT} {N : Nat} {n tl : Int} {a b : Bool}
/-- after what was read: as it was, or m boxes -/
def rdd (G : xT) (N : Nat) (S : xS) : Prop := Hp G N S ∨ ∃ m, (2 ≤ m ∧ m ≤ 7) ∧ Hp (up G 27 (tA 0 57 (nw m))) N S
theorem rd1 (hN : 45 ≤ N) (hG : ∀ q, 26 ≤ q → q < 45 → G q = R6 n tl a b q) (htl : 0 ≤ tl ∧ tl ≤ 150) {m : Int} (hm : 2 ≤ m ∧ m ≤ 7) : ∀ (e k : Nat) (p x : Int) (S : xS), p + e = tl + 1 → rds G N tl p m S → e + 1200 ≤ k → Ok (g_X6_read k 1 S 26 x 0) (fun _ S' => rdd G N S') := by
  have g26 : G 26 = o6 tl (fI 0 7) := hG 26 (by omega) (by omega)
  intro e
  induction e with
  | zero =>
    intro k p x S he h hk
    obtain ⟨-, ⟨at', len, kd, vl, -, hp, h0, hl, hal, -⟩, -⟩ := h
    exfalso; omega
  | succ e ih =>
    intro k p x S he h hk
    obtain ⟨k, rfl⟩ : ∃ k', k = k' + 1 := ⟨k - 1, by omega⟩
    have h' := h
    obtain ⟨hS, ⟨at', len, kd, vl, t4, hp, h0, hl, hal, hkd, hk1, hv⟩, X, eX, hX⟩ := h'
    show Ok (b_X6_read_1 (g_X6_read k) k S 26 x 0) _
    unfold b_X6_read_1
    rw [t4.2.2.1]
    refine ok_bind (v := kd) rfl ?_
    refine ok_if (fun _ => ?_) (fun _ => ?_)
    · obtain ⟨c, eL, hc⟩ := hp_get hS (show 27 < N by omega)
      rw [hG 27 (by omega) (by omega)] at hc
      obtain ⟨L, rfl, hL, -⟩ := hc
      have hS' : Hp (up G 27 (tA 0 57 tW)) N S := by
        rw [set_self6 eL]
        exact hp_up hS ⟨_, rfl, hL, trivial⟩
      obtain ⟨r, S2, e2, L', e3, q1, q2⟩ := rd2 hN (G := up G 27 (tA 0 57 tW)) (mo := fI 0 7) (tl := tl) ((up_ne (by omega)).trans g26) up_self hX (x := x) 47 k 0 0 S L (by omega) rfl hS' eL eX hL (fun i hi => by exfalso; omega) (by omega)
      refine ⟨r, S2, e2, Or.inr ⟨m, hm, ?_⟩⟩
      rw [e3]
      exact hp_up hS ⟨_, rfl, q1, nw_47 hm hX q2⟩
    · rw [if_pos (is6 hN g26 hS)]
      refine ok_bd2 (tf_X6_readsItem hN hG htl.2 hm h (by omega)) (fun r S1 hQ => ?_)
      obtain ⟨-, h1⟩ := hQ
      have h1' := h1
      obtain ⟨hS1, ⟨at2, len2, kd2, vl2, t42, hp2, h02, hl2, hal2, hkd2, hk12, hv2⟩, -⟩ := h1'
      refine ok_if (fun _ => ?_) (fun _ => ?_)
      · rw [t42.1]
        exact ok_bind (v := at2) rfl (ok_some (Or.inl hS1))
      · rw [t42.2.2.1]
        refine ok_bind (v := kd2) rfl ?_
        rw [wIn (n := kd2) (by omega) (by omega), wIn (n := 3) (by omega) (by omega)]
        refine ok_if (fun h3 => ?_) (fun _ => ?_)
        · rw [if_pos (is6 hN g26 hS1)]
          refine ok_bd2 (tf_X6_goOn hN hG htl.2 hS1 h1.2.1 (by omega)) (fun _ S2 hQ => ?_)
          have hgo := hQ.2 (by rw [t42.2.2.1, h3]; intro hh; cases hh)
          exact ih k (p + 1) (x + 1) S2 (by omega) (rds_go h1 hgo) (by omega)
        · rw [t42.1]
          exact ok_bind (v := at2) rfl (ok_some (Or.inl hS1))
theorem tf_X6_read (hN : 45 ≤ N) (hG : ∀ q, 26 ≤ q → q < 45 → G q = R6 n tl a b q) (htl : 0 ≤ tl ∧ tl ≤ 150) {k : Nat} {S : xS} (hS : Hp G N S) (hk : 1400 ≤ k) : Ok (f_X6_read k S 26) (fun _ S' => rdd G N S') := by
  have g26 : G 26 = o6 tl (fI 0 7) := hG 26 (by omega) (by omega)
  obtain ⟨k, rfl⟩ : ∃ k', k = k' + 1 := ⟨k - 1, by omega⟩
  show Ok (b_X6_read_0 (g_X6_read k) k S 26 0 0) _
  unfold b_X6_read_0
  rw [if_pos (is6 hN g26 hS)]
  refine ok_bd2 (tf_X6_lookAt hN hG htl.2 hS (p := 0) (by omega) (by omega)) (fun _ S1 hQ => ?_)
  obtain ⟨hS1, -, ht1⟩ := hQ
  rw [if_pos (is6 hN g26 hS1)]
  refine ok_bd2 (tf_X6_readsFirst hN hG htl.2 hS1 ht1 (by omega)) (fun r S2 hQ => ?_)
  obtain ⟨hS2, ht2, hr⟩ := hQ
  have ht2' := ht2
  obtain ⟨at2, len2, kd2, vl2, t42, -⟩ := ht2'
  refine ok_if (fun _ => ?_) (fun hc => ?_)
  · rw [t42.1]
    exact ok_bind (v := at2) rfl (ok_some (Or.inl hS2))
  · rcases hr with h | ⟨m, hm, h⟩
    · exact absurd h hc
    · rw [if_pos (is6 hN g26 hS2)]
      refine ok_bd2 (tf_X6_goOn hN hG htl.2 hS2 ht2 (by omega)) (fun _ S3 hQ => ?_)
      exact rd1 hN hG htl hm (tl + 1).toNat k 0 1 S3 (by omega) (rds_go h hQ.1) (by omega)
theorem tf_X6_type (hN : 45 ≤ N) (hn : 2 ≤ n ∧ n ≤ 7) (hG : ∀ q, 26 ≤ q → q < 45 → G q = R6 n tl a b q) (htl : 0 ≤ tl ∧ tl ≤ 150) {k : Nat} {S : xS} {i0 : Int} (hS : Hp G N S) (h0 : -2147483648 ≤ i0 ∧ i0 < 2147483648) (hk : 10 ≤ k) : Ok (f_X6_type k S 26 i0) (fun r S' => (¬ (0 ≤ i0 ∧ i0 ≤ 127) ∧ r = -2 ∧ Hp G N S') ∨ ((0 ≤ i0 ∧ i0 ≤ 127) ∧ tl = 150 ∧ r = -4 ∧ Hp G N S') ∨ ((0 ≤ i0 ∧ i0 ≤ 127) ∧ tl < 150 ∧ r = tl + 1 ∧ Hp (up G 26 (o6 (tl + 1) (fI 0 7))) N S')) := by
  have g26 : G 26 = o6 tl (fI 0 7) := hG 26 (by omega) (by omega)
  unfold f_X6_type
  refine ok_in h0 (by omega) (by omega) (by omega) (fun hc => ?_) (fun hc => ?_)
  · refine ok_pos (by decide) ?_
    rw [if_pos (is6 hN g26 hS)]
    refine ok_bd2 (tf_X6_bad hN hn hG hS trivial) (fun _ _ hQ => ?_)
    exact ok_some (Or.inl ⟨by omega, hQ.2, hQ.1⟩)
  · refine ok_neg (by decide) ?_
    rw [rd23 hN g26 hS]
    refine ok_bind (v := tl) rfl ?_
    rw [wIn (n := tl) (by omega) (by omega), wIn (n := 150) (by omega) (by omega)]
    refine ok_if (fun h => ?_) (fun h => ?_)
    · rw [if_pos (is6 hN g26 hS)]
      refine ok_bd2 (tf_X6_full hN hn hG hS trivial) (fun _ _ hQ => ?_)
      exact ok_some (Or.inr (Or.inl ⟨hc, h, hQ.2, hQ.1⟩))
    · refine ok_rdFp hS (by omega) g26 rfl ?_
      refine ok_bind (v := tl) rfl ?_
      refine ok_wrA hS (by omega) (hG 42 (by omega) (by omega)) (by omega) (by omega) (by omega) (fun L _ hL => tR_set (by omega) L hL) (fun S1 hS1 => ?_)
      rw [rd23 hN g26 hS1]
      refine ok_bind (v := tl) rfl ?_
      refine ok_wrU (fI (tl + 1) (tl + 1)) hS1 (by omega) g26 (Nat.le_of_ble_eq_true rfl) ⟨_, rfl, by omega, by omega⟩ (fun S2 hS2 => ?_)
      have hS2' : Hp (up G 26 (o6 (tl + 1) (fI 0 7))) N S2 := hS2
      rw [rd23 (G := up G 26 (o6 (tl + 1) (fI 0 7))) (tl := tl + 1) (mo := fI 0 7) hN up_self hS2']
      exact ok_bind (v := tl + 1) rfl (ok_some (Or.inr (Or.inr ⟨hc, by omega, rfl, hS2'⟩)))
theorem tf_X6_clear (hN : 45 ≤ N) (hG : ∀ q, 26 ≤ q → q < 45 → G q = R6 n tl a b q) {k : Nat} {S : xS} (hS : Hp G N S) : Ok (f_X6_clear k S 26) (fun r S' => r = tl ∧ Hp (up G 26 (o6 0 (fI 0 7))) N S') := by
  have g26 : G 26 = o6 tl (fI 0 7) := hG 26 (by omega) (by omega)
  unfold f_X6_clear
  rw [rd23 hN g26 hS]
  refine ok_bind (v := tl) rfl ?_
  refine ok_wrU (fI 0 0) hS (by omega) g26 (Nat.le_of_ble_eq_true rfl) ⟨_, rfl, by omega, by omega⟩ (fun S2 hS2 => ?_)
  exact ok_some ⟨rfl, hS2⟩
