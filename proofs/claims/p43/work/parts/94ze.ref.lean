variable {G : xT} {N : Nat} {n tl : Int} {a b : Bool}
theorem pm_swap {nn : Nat} {K : List Int} {i j : Nat} {x y : Int} (h : hw6 nn K) (hi : i < nn) (hj : j < nn) (hn : nn ≤ 7) (ex : K[i]? = some x) (ey : K[j]? = some y) : hw6 nn ((K.set i y).set j x) := by
  obtain ⟨h1, h2, h3, h4⟩ := h
  have hg : ∀ p, ((K.set i y).set j x)[p]? = K[if p = j then i else if p = i then j else p]? := by
    intro p
    by_cases c : p = j
    · rw [if_pos c, c, List.getElem?_set_self (by rw [List.length_set]; omega), ex]
    · rw [if_neg c, List.getElem?_set_ne (by omega)]
      by_cases d : p = i
      · rw [if_pos d, d, List.getElem?_set_self (by omega), ey]
      · rw [if_neg d, List.getElem?_set_ne (by omega)]
  have hl : ∀ p, p < nn → (if p = j then i else if p = i then j else p) < nn := by
    intro p hp
    split
    · exact hi
    · split
      · exact hj
      · exact hp
  refine ⟨by rw [List.length_set, List.length_set]; exact h1, tR_set (tR_get h2 ex) _ (tR_set (tR_get h2 ey) _ h2), fun p v hp e => ?_, fun p q hp hq e => ?_⟩
  · rw [hg] at e
    exact h3 _ v (hl p hp) e
  · rw [hg, hg] at e
    have := h4 _ _ (hl p hp) (hl q hq) e
    split at this <;> split at this <;> (try split at this) <;> (try split at this) <;> omega
theorem rk_now {nn : Nat} (hN : 45 ≤ N) (hn : 2 ≤ nn ∧ nn ≤ 7) (hG : ∀ q, 26 ≤ q → q < 45 → G q = R6 (nn : Int) tl a b q) {k : Nat} {S : xS} (hS : Hp G N S) (hk : 150 ≤ k) : Ok (f_X6_rankNow k S 26) (fun r S' => Hp G N S' ∧ (0 ≤ r ∧ r < fac (nn : Int)) ∧ ∃ K', S' = S.set 31 (.inl (0, K')) ∧ S'[31]? = some (.inl (0, K')) ∧ hw6 nn K') := by
  have hn' : 2 ≤ (nn : Int) ∧ (nn : Int) ≤ 7 := by omega
  have g26 := hG 26 (by omega) (by omega)
  unfold f_X6_rankNow
  rw [if_pos (is6 hN g26 hS)]
  refine ok_bd2 (tk_now hN hn hG hS (by omega)) (fun _ _ hQ => ?_)
  obtain ⟨hS, K', e1, e2, e3, -⟩ := hQ
  rw [if_pos (is6 hN g26 hS)]
  refine ok_bd2 (tf_X6_rankOf hN hn' g26 (hG 27 (by omega) (by omega)) (hG 31 (by omega) (by omega)) hS (by omega)) (fun _ _ hQ => ?_)
  obtain ⟨rfl, hr⟩ := hQ
  exact ok_some ⟨hS, hr, K', e1, e2, e3⟩
theorem sw_hand {nn : Nat} (hN : 45 ≤ N) (hn : 2 ≤ nn ∧ nn ≤ 7) (hG : ∀ q, 26 ≤ q → q < 45 → G q = R6 (nn : Int) tl a b q) {k : Nat} {S : xS} {K : List Int} {i0 i1 : Int} (hS : Hp G N S) (eK : S[31]? = some (.inl (0, K))) (hK : hw6 nn K) (h0 : 0 ≤ i0 ∧ i0 < nn) (h1 : 0 ≤ i1 ∧ i1 < nn) : Ok (f_X6_swapHand k S 26 i0 i1) (fun _ S' => Hp G N S' ∧ ∃ K', S' = S.set 31 (.inl (0, K')) ∧ S'[31]? = some (.inl (0, K')) ∧ hw6 nn K') := by
  have g26 := hG 26 (by omega) (by omega)
  have g31 := hG 31 (by omega) (by omega)
  have hl := hK.1
  obtain ⟨x, hx⟩ : ∃ v, K[i0.toNat]? = some v := ⟨_, List.getElem?_eq_getElem (by omega)⟩
  obtain ⟨y, hy⟩ : ∃ v, K[i1.toNat]? = some v := ⟨_, List.getElem?_eq_getElem (by omega)⟩
  unfold f_X6_swapHand
  refine ok_rdFp hS (by omega) g26 rfl ?_
  rw [rdA_at eK (by omega) (by omega), hx]
  show Ok ((rdFp 5 6 S 26).bind _) _
  refine ok_rdFp hS (by omega) g26 rfl (ok_rdFp hS (by omega) g26 rfl ?_)
  rw [rdA_at eK (by omega) (by omega), hy]
  show Ok ((wrA 0 S 31 i0 y).bind _) _
  rw [wrA_of eK (by omega) (by omega) (by omega)]
  have hS1 : Hp G N (S.set 31 (.inl (0, K.set i0.toNat y))) := hp_set hS (by rw [g31]; exact ⟨_, rfl, by rw [List.length_set]; exact hl, tR_set (tR_get hK.2.1 hy) _ hK.2.1⟩)
  show Ok ((rdFp 5 6 (S.set 31 (.inl (0, K.set i0.toNat y))) 26).bind _) _
  refine ok_rdFp hS1 (by omega) g26 rfl ?_
  rw [wrA_of (set_at eK) (by omega) (by omega) (by rw [List.length_set]; omega), List.set_set]
  have hp := pm_swap hK (show i0.toNat < nn by omega) (show i1.toNat < nn by omega) (by omega) hx hy
  exact ok_some ⟨hp_set hS (by rw [g31]; exact ⟨_, rfl, hp.1, hp.2.1⟩), _, rfl, set_at eK, hp⟩
theorem ok_w7 (hN : 45 ≤ N) {mo : xV → Prop} (g26 : G 26 = o6 tl mo) {S : xS} {z : Int} {Q : Int → xS → Prop} {f : xS → Option (Int × xS)} (hS : Hp G N S) (hf : ∀ S', Hp G N S' → rdFi 5 7 S' 26 = some z → (∀ q, q ≠ 26 → S'[q]? = S[q]?) → Ok (f S') Q) : Ok ((wrF 5 7 S 26 (.inl z)).bind f) Q := by
  obtain ⟨c, e, hc⟩ := hp_get hS (show 26 < N by omega)
  rw [g26] at hc
  have hc' := hc
  obtain ⟨fs, rfl, hl, hF⟩ := hc
  have hkl : 7 < fs.length := by rw [hl]; exact Nat.le_of_ble_eq_true rfl
  refine ok_bind (wrF_at e hkl) (hf _ (hp_set hS ?_) ?_ (fun q hq => List.getElem?_set_ne (by omega)))
  · rw [g26]
    exact tO_set (P := fZ) rfl ⟨z, rfl⟩ hc'
  · unfold rdFi
    rw [fs_at (fs := fs.set 7 (.inl z)) (set_at e), List.getElem?_set_self hkl]
theorem tf_X6_swap {nn : Nat} (hN : 45 ≤ N) (hn : 2 ≤ nn ∧ nn ≤ 7) (hG : ∀ q, 26 ≤ q → q < 45 → G q = R6 (nn : Int) tl a b q) {k : Nat} {S : xS} {i0 i1 : Int} (hS : Hp G N S) (h0 : -2147483648 ≤ i0 ∧ i0 < 2147483648) (h1 : -2147483648 ≤ i1 ∧ i1 < 2147483648) (hk : 400 ≤ k) : Ok (f_X6_swap k S 26 i0 i1) (fun _ S' => Hp G N S') := by
  obtain ⟨k, rfl⟩ : ∃ k', k = k' + 2 := ⟨k - 2, by omega⟩
  have hn' : 2 ≤ (nn : Int) ∧ (nn : Int) ≤ 7 := by omega
  have g26 := hG 26 (by omega) (by omega)
  have hbad : ∀ S', Hp G N S' → Ok (g_X6_swap (k + 1) 1 S' 26 0 0) (fun _ S'' => Hp G N S'') := by
    intro S' hS
    show Ok (b_X6_swap_1 (g_X6_swap k) k S' 26 0 0) _
    unfold b_X6_swap_1
    rw [if_pos (is6 hN g26 hS)]
    exact ok_bd2 (tf_X6_bad hN hn' hG hS trivial) (fun _ _ hQ => ok_some hQ.1)
  show Ok (b_X6_swap_0 (g_X6_swap (k + 1)) (k + 1) S 26 i0 i1) _
  unfold b_X6_swap_0
  rw [if_pos (is6 hN g26 hS)]
  refine ok_bd2 (tf_X6_isBox hN hn' hG hS ⟨h0.1, h0.2, by omega⟩) (fun r S' hQ => ?_)
  obtain ⟨rfl, hQ⟩ := hQ
  refine ok_if (fun _ => hbad _ hS) (fun hc => ?_)
  have a0 : 0 ≤ i0 ∧ i0 < nn := by
    rcases hQ with ⟨_, h⟩ | rfl
    · exact h
    · exact absurd rfl hc
  clear hQ hc
  rw [if_pos (is6 hN g26 hS)]
  refine ok_bd2 (tf_X6_isBox hN hn' hG hS ⟨h1.1, h1.2, by omega⟩) (fun r S' hQ => ?_)
  obtain ⟨rfl, hQ⟩ := hQ
  refine ok_if (fun _ => hbad _ hS) (fun hc => ?_)
  have a1 : 0 ≤ i1 ∧ i1 < nn := by
    rcases hQ with ⟨_, h⟩ | rfl
    · exact h
    · exact absurd rfl hc
  clear hQ hc
  refine ok_if (fun _ => hbad _ hS) (fun _ => ?_)
  rw [if_pos (is6 hN g26 hS)]
  refine ok_bd2 (rk_now hN hn hG hS (by omega)) (fun x S' hQ => ?_)
  obtain ⟨hS, hx, K, -, eK, hK⟩ := hQ
  refine ok_w7 hN g26 hS (fun S' hS e7 hq => ?_)
  rw [if_pos (is6 hN g26 hS)]
  refine ok_bd2 (sw_hand hN hn hG hS (by rw [hq 31 (by omega)]; exact eK) hK a0 a1) (fun _ S' hQ => ?_)
  obtain ⟨hS, K', e1, eK', hK'⟩ := hQ
  rw [if_pos (is6 hN g26 hS)]
  refine ok_bd2 (tf_X6_putWay hN hn hG hS eK' hK' ((rdFi_cg (by rw [e1]; exact List.getElem?_set_ne (by omega))).trans e7) hx (by omega)) (fun _ S' hQ => ?_)
  exact ok_some hQ.1
theorem tf_X6_lay {nn : Nat} (hN : 45 ≤ N) (hn : 2 ≤ nn ∧ nn ≤ 7) (hG : ∀ q, 26 ≤ q → q < 45 → G q = R6 (nn : Int) tl a b q) (hf : 1 ≤ fac (nn : Int) ∧ fac (nn : Int) ≤ 5040) {k : Nat} {S : xS} {i0 : Int} (hS : Hp G N S) (h0 : -2147483648 ≤ i0 ∧ i0 < 2147483648) (hk : 400 ≤ k) : Ok (f_X6_lay k S 26 i0) (fun _ S' => Hp G N S') := by
  have hn' : 2 ≤ (nn : Int) ∧ (nn : Int) ≤ 7 := by omega
  have g26 := hG 26 (by omega) (by omega)
  unfold f_X6_lay
  rw [if_pos (is6 hN g26 hS)]
  refine ok_ways6 hN hn' hG hS (by omega) ?_
  rw [wIn (n := fac (nn : Int) - 1) (by omega) (by omega)]
  refine ok_in h0 (by omega) (by omega) (by omega) (fun hc => ?_) (fun hc => ?_)
  · rw [if_pos (show wI 0 = 0 by decide), if_pos (is6 hN g26 hS)]
    exact ok_bd2 (tf_X6_bad hN hn' hG hS trivial) (fun _ _ hQ => ok_some hQ.1)
  · rw [if_neg (show ¬ wI 1 = 0 by decide), if_pos (is6 hN g26 hS)]
    refine ok_bd2 (rk_now hN hn hG hS (by omega)) (fun x S' hQ => ?_)
    obtain ⟨hS, hx, K, -, eK, hK⟩ := hQ
    refine ok_w7 hN g26 hS (fun S' hS e7 hq => ?_)
    rw [if_pos (is6 hN g26 hS)]
    refine ok_bd2 (tk_rank hN hn hG hS (by omega) (by omega)) (fun _ S' hQ => ?_)
    obtain ⟨hS, K', e1, eK', hK', -⟩ := hQ
    rw [if_pos (is6 hN g26 hS)]
    refine ok_bd2 (tf_X6_putWay hN hn hG hS eK' hK' ((rdFi_cg (by rw [e1]; exact List.getElem?_set_ne (by omega))).trans e7) hx (by omega)) (fun _ S' hQ => ?_)
    refine ok_bind (v := x) ?_ (ok_some hQ.1)
    exact ((rdFi_cg (hQ.2 26 (by omega))).trans (rdFi_cg (by rw [e1]; exact List.getElem?_set_ne (by omega)))).trans e7
theorem tf_X6_undo {nn : Nat} (hN : 45 ≤ N) (hn : 2 ≤ nn ∧ nn ≤ 7) (hG : ∀ q, 26 ≤ q → q < 45 → G q = R6 (nn : Int) tl a b q) {k : Nat} {S : xS} (hS : Hp G N S) (hk : 400 ≤ k) : Ok (f_X6_undo k S 26) (fun _ S' => Hp G N S') := by
  obtain ⟨k, rfl⟩ : ∃ k', k = k' + 1 := ⟨k - 1, by omega⟩
  have hn' : 2 ≤ (nn : Int) ∧ (nn : Int) ≤ 7 := by omega
  have g26 := hG 26 (by omega) (by omega)
  have g27 := hG 27 (by omega) (by omega)
  obtain ⟨c, eL, hc⟩ := hp_get hS (show 27 < N by omega)
  rw [g27] at hc
  obtain ⟨L, rfl, hL, hp⟩ := hc
  obtain ⟨c, h46⟩ : ∃ v, L[46]? = some v := ⟨_, List.getElem?_eq_getElem (by omega)⟩
  have hc := hp.2.2.2.2.2.2.2.2.2.1 c h46
  have h11 := hp.2.2.2.2.2.2.2.2.2.2
  show Ok (b_X6_undo_0 (g_X6_undo k) k S 26 0) _
  unfold b_X6_undo_0
  refine ok_rdFp hS (by omega) g26 rfl ?_
  rw [rdA_at eL (by omega) (by omega), show (46 : Int).toNat = 46 from rfl, h46]
  show Ok (if wI c = 0 then _ else _) _
  rw [wIn (n := c) (by omega) (by omega)]
  refine ok_if (fun h => ?_) (fun h => ?_)
  · rw [if_pos (is6 hN g26 hS)]
    exact ok_bd2 (tf_X6_no hN hn' hG hS trivial) (fun _ _ hQ => ok_some hQ.1)
  · refine ok_rdFp hS (by omega) g26 rfl ?_
    rw [rdA_at eL (by omega) (by omega), show (46 : Int).toNat = 46 from rfl, h46]
    show Ok ((wrA 0 S 27 46 (c - 1)).bind _) _
    rw [wrA_of eL (by omega) (by omega) (by rw [hL]; decide), show (46 : Int).toNat = 46 from rfl]
    have hw : nw (nn : Int) (L.set 46 (c - 1)) := nw_c46 hn' hp (by omega) (fun k' v k1 e => h11 k' c v h46 (by omega) e)
    have hl : (L.set 46 (c - 1)).length = 57 := by rw [List.length_set]; exact hL
    have hS1 : Hp G N (S.set 27 (.inl (0, L.set 46 (c - 1)))) := hp_set hS (by rw [g27]; exact ⟨_, rfl, hl, hw⟩)
    show Ok ((rdFp 5 0 (S.set 27 (.inl (0, L.set 46 (c - 1)))) 26).bind _) _
    refine ok_rdFp hS1 (by omega) g26 rfl (ok_rdFp hS1 (by omega) g26 rfl ?_)
    rw [rdA_at (set_at eL) (by omega) (by omega), show (46 : Int).toNat = 46 from rfl, List.getElem?_set_self (by omega)]
    show Ok ((rdA 0 (S.set 27 (.inl (0, L.set 46 (c - 1)))) 27 (47 + (c - 1))).bind _) _
    obtain ⟨x, hx⟩ : ∃ v, L[(47 + (c - 1)).toNat]? = some v := ⟨_, List.getElem?_eq_getElem (by omega)⟩
    rw [rdA_at (set_at eL) (by omega) (by omega), List.getElem?_set_ne (by omega), hx]
    have hr := h11 (c - 1).toNat c x h46 (by omega) (by rw [← hx, show 47 + (c - 1).toNat = (47 + (c - 1)).toNat by omega])
    show Ok (if isO 5 _ 26 = true then _ else _) _
    rw [if_pos (is6 hN g26 hS1)]
    refine ok_bd2 (tk_rank hN hn hG hS1 hr (by omega)) (fun _ S' hQ => ?_)
    obtain ⟨hS2, K', e1, eK', hK', -⟩ := hQ
    have eL2 : S'[27]? = some (.inl (0, L.set 46 (c - 1))) := by rw [e1, List.getElem?_set_ne (by omega)]; exact set_at eL
    obtain ⟨r, S3, e2, L', e3, q1, q2, q3⟩ := tg1_X6_undo (G := up G 27 (tA 0 57 (fun L => L[0]? = some (nn : Int)))) (tl := tl) (mo := fI 0 7) (N := N) hN hn (by rw [up_ne (by omega)]; exact g26) up_self hK'.1 k (S'.set 27 (.inl (0, L.set 46 (c - 1)))) (L.set 46 (c - 1)) 0 0 rfl (hp_up hS2 ⟨_, rfl, hl, hw.1⟩) (set_at eL2) (by rw [List.getElem?_set_ne (by omega)]; exact eK') (by omega) (by omega)
    rw [← set_self6 eL2] at e2 e3
    refine ⟨r, S3, e2, ?_⟩
    rw [e3]
    refine hp_set hS2 ?_
    rw [g27]
    exact ⟨_, rfl, q1, nw_slips hn hw (fun p hp => q2 p (by omega)) (fun j hj => q3 j (by omega) hj) hK'.2.2.1 hK'.2.2.2⟩
