variable {G : xT} {N : Nat} {n tl : Int} {a b : Bool}
theorem bg_start {m : Int} (hn : 2 ≤ n ∧ n ≤ 7) {L : List Int} (hl : L.length = 57) (h : nw n L) : bg m 0 (((L.set 0 m).set 1 2).set 2 1) := by
  have h7 := h.2.2.2.2.2.2.1
  refine ⟨by rw [List.length_set, List.length_set, List.length_set]; exact hl, ?_, ?_, ?_, ?_, ?_⟩
  · rw [List.getElem?_set_ne (by omega), List.getElem?_set_ne (by omega), List.getElem?_set_self (by omega)]
  · rw [List.getElem?_set_ne (by omega), List.getElem?_set_self (by rw [List.length_set]; omega)]
  · rw [List.getElem?_set_self (by rw [List.length_set, List.length_set]; omega)]
  · intro j hj; exfalso; omega
  · intro k v k1 e
    rw [List.getElem?_set_ne (by omega), List.getElem?_set_ne (by omega), List.getElem?_set_ne (by omega)] at e
    exact h7 k v k1 e
theorem tf_X6_begin (hn : 2 ≤ n ∧ n ≤ 7) {m : Int} (hm : 2 ≤ m ∧ m ≤ 7) {k : Nat} {S : xS} (hq : 27 < N) (hS : Hp G N S) (hG : G 27 = tA 0 57 (nw n)) (hk : 12 ≤ k) : Ok (f_X6_begin k S 27 m) (fun _ S' => Hp (up G 27 (tA 0 57 (nw m))) N S') := by
  obtain ⟨k, rfl⟩ : ∃ k', k = k' + 1 := ⟨k - 1, by omega⟩
  obtain ⟨c, e, hc⟩ := hp_get hS hq
  rw [hG] at hc
  obtain ⟨L, rfl, hL, hp⟩ := hc
  show Ok (b_X6_begin_0 (g_X6_begin k) k S 27 m) _
  unfold b_X6_begin_0
  rw [wrA_of e (by omega) (by omega) (by rw [hL]; decide)]
  show Ok ((wrA 0 _ 27 1 2).bind _) _
  rw [wrA_of (set_at e) (by omega) (by omega) (by rw [List.length_set, hL]; decide)]
  show Ok ((wrA 0 _ 27 2 1).bind _) _
  rw [wrA_of (set_at (set_at e)) (by omega) (by omega) (by rw [List.length_set, List.length_set, hL]; decide), List.set_set, List.set_set]
  rw [show (0 : Int).toNat = 0 from rfl, show (1 : Int).toNat = 1 from rfl, show (2 : Int).toNat = 2 from rfl]
  obtain ⟨L', e', h1, h2⟩ := tg_X6_begin hm k (S.set 27 (.inl (0, ((L.set 0 m).set 1 2).set 2 1))) _ 0 0 rfl (set_at e) (bg_start hn hL hp) (by omega) (by omega)
  rw [List.set_set] at e'
  exact ⟨0, _, e', hp_up hS ⟨_, rfl, h1, h2⟩⟩
theorem tf_X6_boxes (hN : 45 ≤ N) (hn : 2 ≤ n ∧ n ≤ 7) (hG : ∀ q, 26 ≤ q → q < 45 → G q = R6 n tl a b q) {k : Nat} {S : xS} {i0 : Int} (hS : Hp G N S) (hi : -2147483648 ≤ i0 ∧ i0 < 2147483648) (hk : 12 ≤ k) : Ok (f_X6_boxes k S 26 i0) (fun _ S' => Hp G N S' ∨ ((2 ≤ i0 ∧ i0 ≤ 7) ∧ Hp (up G 27 (tA 0 57 (nw i0))) N S')) := by
  unfold f_X6_boxes
  refine ok_in hi (by omega) (by omega) (by omega) (fun hc => ?_) (fun hc => ?_)
  · rw [if_pos (show wI 0 = 0 by decide), if_pos (is6 hN (hG 26 (by omega) (by omega)) hS)]
    refine ok_bd2 (tf_X6_bad hN hn hG hS trivial) (fun _ _ hQ => ?_)
    exact ok_some (Or.inl hQ.1)
  · rw [if_neg (show ¬ wI 1 = 0 by decide), if_pos (is6 hN (hG 26 (by omega) (by omega)) hS)]
    refine ok_n6 (by omega) (hG 26 (by omega) (by omega)) (hG 27 (by omega) (by omega)) hS ?_
    refine ok_rdFp hS (by omega) (hG 26 (by omega) (by omega)) rfl ?_
    refine ok_bd2 (tf_X6_begin hn hc (by omega) hS (hG 27 (by omega) (by omega)) hk) (fun _ _ hQ => ?_)
    exact ok_some (Or.inr ⟨hc, hQ⟩)
