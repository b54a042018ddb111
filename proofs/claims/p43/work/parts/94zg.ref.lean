variable {G : xT} {N : Nat} {n tl : Int} {a b : Bool}
theorem tf_X6_make {nn : Nat} (hN : 45 ≤ N) (hn : 2 ≤ nn ∧ nn ≤ 7) (hG : ∀ q, 26 ≤ q → q < 45 → G q = R6 (nn : Int) tl a b q) {k : Nat} {S : xS} {i0 : Int} (hS : Hp G N S) (h0 : -2147483648 ≤ i0 ∧ i0 < 2147483648) (hk : 400 ≤ k) : Ok (f_X6_make k S 26 i0) (fun _ S' => Hp G N S') := by
  have hn' : 2 ≤ (nn : Int) ∧ (nn : Int) ≤ 7 := by omega
  have g26 := hG 26 (by omega) (by omega)
  have g27 := hG 27 (by omega) (by omega)
  obtain ⟨c, eL, hc⟩ := hp_get hS (show 27 < N by omega)
  rw [g27] at hc
  obtain ⟨L, rfl, hL, hp⟩ := hc
  obtain ⟨c, h41⟩ : ∃ v, L[41]? = some v := ⟨_, List.getElem?_eq_getElem (by omega)⟩
  have hc := hp.2.2.2.2.2.2.2.1 c h41
  have h9 := hp.2.2.2.2.2.2.2.2.1
  unfold f_X6_make
  refine ok_rdFp hS (by omega) g26 rfl ?_
  rw [rdA_at eL (by omega) (by omega), show (41 : Int).toNat = 41 from rfl, h41]
  refine ok_bind (v := c) rfl ?_
  rw [wIn (n := c - 1) (by omega) (by omega)]
  refine ok_in h0 (by omega) (by omega) (by omega) (fun hc => ?_) (fun hc => ?_)
  · rw [if_pos (show wI 0 = 0 by decide), if_pos (is6 hN g26 hS)]
    exact ok_bd2 (tf_X6_bad hN hn' hG hS trivial) (fun _ _ hQ => ok_some hQ.1)
  · obtain ⟨x, hx⟩ : ∃ v, L[(42 + i0).toNat]? = some v := ⟨_, List.getElem?_eq_getElem (by omega)⟩
    have hr := h9 i0.toNat c x h41 (by omega) (by rw [← hx, show 42 + i0.toNat = (42 + i0).toNat by omega])
    rw [if_neg (show ¬ wI 1 = 0 by decide), if_pos (is6 hN g26 hS)]
    refine ok_bd2 (rk_now hN hn hG hS (by omega)) (fun y S' hQ => ?_)
    obtain ⟨hS, hy, K, e0, eK, hK⟩ := hQ
    refine ok_w7 hN g26 hS (fun S2 hS e7 hq => ?_)
    rw [if_pos (is6 hN g26 hS)]
    refine ok_bd2 (mk_hand hN hn hG hS (L := L) (by rw [hq 27 (by omega), e0, List.getElem?_set_ne (by omega)]; exact eL) hp (by rw [hq 31 (by omega)]; exact eK) hK (by omega) hx hr (by omega)) (fun _ S3 hQ => ?_)
    obtain ⟨hS, hq3, K', eK', hK', -⟩ := hQ
    rw [if_pos (is6 hN g26 hS)]
    refine ok_bd2 (tf_X6_putWay hN hn hG hS eK' hK' ((rdFi_cg (hq3 26 (by omega) (by omega) (by omega))).trans e7) hy (by omega)) (fun _ S4 hQ => ?_)
    obtain ⟨hS, -⟩ := hQ
    rw [if_pos (is6 hN g26 hS)]
    refine ok_bd2 (tf_X6_rankOf hN hn' g26 g27 (hG 31 (by omega) (by omega)) hS (by omega)) (fun _ _ hQ => ?_)
    obtain ⟨rfl, hr⟩ := hQ
    exact ok_some hS
