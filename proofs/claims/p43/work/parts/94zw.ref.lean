variable {G : xT} {N : Nat} {n tl : Int} {a b : Bool}
theorem tkn_wk {p p' : Int} {S : xS} (h : tkn tl p S) (hp : p' ≤ p) : tkn tl p' S := by
  obtain ⟨at', len, kd, vl, t4, h1, r⟩ := h
  exact ⟨at', len, kd, vl, t4, by omega, r⟩
theorem rds_wk {p p' m : Int} {S : xS} (h : rds G N tl p m S) (hp : p' ≤ p) : rds G N tl p' m S := ⟨h.1, tkn_wk h.2.1 hp, h.2.2⟩
theorem hp_44 (hN : 45 ≤ N) (hG : ∀ q, 26 ≤ q → q < 45 → G q = R6 n tl a b q) {S : xS} (hS : Hp G N S) : ∃ Y : List Int, S[44]? = some (.inl (0, Y)) ∧ Y.length = 2 := by
  obtain ⟨c, eY, hc⟩ := hp_get hS (show 44 < N by omega)
  rw [hG 44 (by omega) (by omega)] at hc
  obtain ⟨Y, rfl, hYl, -⟩ := hc
  exact ⟨Y, eY, hYl⟩
theorem nowH_pm' {nn : Nat} (hn : 2 ≤ nn ∧ nn ≤ 7) {L : List Int} (hL : 10 ≤ L.length) (hp : nw (nn : Int) L) : hw6 nn (nowH L) := by
  refine ⟨by unfold nowH; rw [List.length_take, List.length_drop]; omega, fun x hx => ?_, fun j v j1 e => ?_, fun i j i1 j1 e => ?_⟩
  · obtain ⟨j, hj⟩ := List.mem_iff_getElem?.mp hx
    have hj7 : j < 7 := by
      have := (List.getElem?_eq_some_iff.mp hj).1
      unfold nowH at this
      rw [List.length_take, List.length_drop] at this
      omega
    rw [nowH_get hj7] at hj
    exact hp.2.2.2.1 (3 + j) x (by omega) (by omega) hj
  · rw [nowH_get (by omega)] at e
    exact ⟨(hp.2.2.2.1 (3 + j) v (by omega) (by omega) e).1, hp.2.2.2.2.1.2 j v (by omega) e⟩
  · rw [nowH_get (by omega), nowH_get (by omega)] at e
    exact hp.2.2.2.2.1.1 i j (by omega) (by omega) e
theorem xr_put {m x : Int} {i : Nat} {X : List Int} (hm : 2 ≤ m ∧ m ≤ 7) (h : xr m X) (i0 : i ≠ 0) (i3 : i < 3 ∨ 10 ≤ i) (i41 : i ≠ 41) (i46 : i < 46) (c1 : i = 1 → 1 ≤ x ∧ x ≤ m) (c2 : i = 2 → 0 ≤ x ∧ x ≤ 6) (c24 : i = 24 → 0 ≤ x ∧ x ≤ 8) (c25 : 25 ≤ i → i < 41 → 0 ≤ x ∧ x ≤ 6) (c42 : 42 ≤ i → 0 ≤ x ∧ x < fac m) : xr m (X.set i x) := ⟨by rw [List.length_set]; exact h.1, nw_put hm h.2.1 i0 i3 i41 (by omega) c1 c2 c24 c25 c42, by rw [List.getElem?_set_ne (by omega)]; exact h.2.2⟩
theorem xr_swap {m : Int} {X : List Int} {v w : Nat} {x y : Int} (hm : 2 ≤ m ∧ m ≤ 7) (h : xr m X) (hv : (v : Int) < m) (hw : (w : Int) < m) (ex : X[3 + v]? = some x) (ey : X[3 + w]? = some y) : xr m ((X.set (3 + v) y).set (3 + w) x) := by
  obtain ⟨nn, rfl⟩ : ∃ nn : Nat, m = (nn : Int) := ⟨m.toNat, by omega⟩
  have hn : 2 ≤ nn ∧ nn ≤ 7 := by omega
  have hl := h.1
  have hp := nowH_pm' hn (by omega) h.2.1
  have hs := pm_swap hp (show v < nn by omega) (show w < nn by omega) hn.2 (by rw [nowH_get (by omega)]; exact ex) (by rw [nowH_get (by omega)]; exact ey)
  refine ⟨by rw [List.length_set, List.length_set]; exact hl, ?_, by rw [List.getElem?_set_ne (by omega), List.getElem?_set_ne (by omega)]; exact h.2.2⟩
  refine nw_slips hn h.2.1 (K := ((nowH X).set v y).set w x) (fun p hp => by rw [List.getElem?_set_ne (by omega), List.getElem?_set_ne (by omega)]) (fun j hj => ?_) hs.2.2.1 hs.2.2.2
  have hl7 := hp.1
  by_cases c : j = w
  · subst c
    exact (List.getElem?_set_self (by rw [List.length_set]; omega)).trans (List.getElem?_set_self (by rw [List.length_set]; omega)).symm
  · by_cases d : j = v
    · subst d
      exact ((List.getElem?_set_ne (by omega)).trans (List.getElem?_set_self (by omega))).trans ((List.getElem?_set_ne (by omega)).trans (List.getElem?_set_self (by omega))).symm
    · exact ((List.getElem?_set_ne (by omega)).trans (List.getElem?_set_ne (by omega))).trans ((nowH_get (by omega)).symm.trans ((List.getElem?_set_ne (by omega)).trans (List.getElem?_set_ne (by omega))).symm)
theorem tf_X6_readsFirst (hN : 45 ≤ N) (hG : ∀ q, 26 ≤ q → q < 45 → G q = R6 n tl a b q) (htl : tl ≤ 150) {k : Nat} {S : xS} {p : Int} (hS : Hp G N S) (ht : tkn tl p S) (hk : 1000 ≤ k) : Ok (f_X6_readsFirst k S 26) (fun r S' => Hp G N S' ∧ tkn tl p S' ∧ (wI r = 0 ∨ ∃ m, (2 ≤ m ∧ m ≤ 7) ∧ rds G N tl p m S')) := by
  have g26 : G 26 = o6 tl (fI 0 7) := hG 26 (by omega) (by omega)
  have g43 : G 43 = tA 0 47 r25 := hG 43 (by omega) (by omega)
  obtain ⟨k, rfl⟩ : ∃ k', k = k' + 3 := ⟨k - 3, by omega⟩
  show Ok (b_X6_readsFirst_0 (g_X6_readsFirst (k + 2)) (k + 2) S 26 0 0 0) _
  unfold b_X6_readsFirst_0
  rw [if_pos (is6 hN g26 hS)]
  refine ok_bd2 (tf_X6_isWord hN hG htl hS ht (by omega)) (fun r S' hQ => ?_)
  obtain ⟨rfl, -⟩ := hQ
  refine ok_if (fun _ => ok_some ⟨hS, ht, Or.inl (by decide)⟩) (fun _ => ?_)
  rw [if_pos (is6 hN g26 hS)]
  refine ok_bd2 (tf_X6_goOn hN hG htl hS ht (by omega)) (fun _ S1 hQ => ?_)
  obtain ⟨⟨hS1, -, ht1⟩, -⟩ := hQ
  rw [if_pos (is6 hN g26 hS1)]
  obtain ⟨Y, eY, hYl⟩ := hp_44 hN hG hS1
  refine ok_bd2 (tf_X6_takes hN hG htl hS1 ht1 eY (Or.inl rfl) (by omega) (by omega) (by omega)) (fun r S2 hQ => ?_)
  obtain ⟨hS2, ht2, -, hr⟩ := hQ
  have one : ∀ m : Int, 2 ≤ m → m ≤ 7 → Ok (g_X6_readsFirst (k + 2) 1 S2 26 43 r m) (fun r S' => Hp G N S' ∧ tkn tl p S' ∧ (wI r = 0 ∨ ∃ m, (2 ≤ m ∧ m ≤ 7) ∧ rds G N tl p m S')) := by
    intro m h2 h7
    show Ok (b_X6_readsFirst_1 (g_X6_readsFirst (k + 1)) (k + 1) S2 26 43 r m) _
    unfold b_X6_readsFirst_1
    obtain ⟨c, eX, hc⟩ := hp_get hS2 (show 43 < N by omega)
    rw [g43] at hc
    obtain ⟨X, rfl, hXl, hX25⟩ := hc
    refine ok_bd2 (tf43_begin ⟨h2, h7⟩ eX hXl hX25 (by omega)) (fun _ S3 hQ => ?_)
    obtain ⟨X', e3, hX'⟩ := hQ
    have hS3 : Hp G N S3 := by rw [e3]; exact hp_43 hN hG hS2 hX'
    have ht3 : tkn tl p S3 := tkn_q ht2 (by rw [e3]; exact List.getElem?_set_ne (by omega))
    have e43 : S3[43]? = some (.inl (0, X')) := by rw [e3]; exact set_at eX
    have two : Ok (g_X6_readsFirst (k + 1) 2 S3 0 0 0 0) (fun r S' => Hp G N S' ∧ tkn tl p S' ∧ (wI r = 0 ∨ ∃ m, (2 ≤ m ∧ m ≤ 7) ∧ rds G N tl p m S')) := ok_some ⟨hS3, ht3, Or.inl (by decide)⟩
    refine ok_if (fun _ => two) (fun _ => ?_)
    refine ok_rdFz hS3 (by omega) g26 rfl (fun _ => ?_)
    exact ok_if (fun _ => ok_some ⟨hS3, ht3, Or.inr ⟨m, ⟨h2, h7⟩, hS3, ht3, X', e43, hX'⟩⟩) (fun _ => two)
  refine ok_rdFp hS2 (by omega) g26 rfl ?_
  rcases hr with ⟨rfl, _⟩ | ⟨rfl, v, hv, e44⟩
  · exact ok_pos (by decide) (one 2 (by omega) (by omega))
  · refine ok_neg (by decide) ?_
    refine ok_rdFp hS2 (by omega) g26 rfl ?_
    rw [rdA_at e44 (by omega) (by omega), show (0 : Int).toNat = 0 from rfl, List.getElem?_set_self (by omega)]
    refine ok_bind (v := v) rfl ?_
    exact one v hv.1 hv.2
theorem tf_X6_readsSwap (hN : 45 ≤ N) (hG : ∀ q, 26 ≤ q → q < 45 → G q = R6 n tl a b q) (htl : tl ≤ 150) {k : Nat} {S : xS} {p m : Int} (hm : 2 ≤ m ∧ m ≤ 7) (h : rds G N tl p m S) (hk : 1000 ≤ k) : Ok (f_X6_readsSwap k S 26) (fun r S' => (r = 0 ∨ r = 1) ∧ rds G N tl p m S') := by
  have g26 : G 26 = o6 tl (fI 0 7) := hG 26 (by omega) (by omega)
  obtain ⟨k, rfl⟩ : ∃ k', k = k' + 2 := ⟨k - 2, by omega⟩
  show Ok (b_X6_readsSwap_0 (g_X6_readsSwap (k + 1)) (k + 1) S 26) _
  unfold b_X6_readsSwap_0
  rw [if_pos (is6 hN g26 h.1)]
  refine ok_bd2 (tf_X6_goOn hN hG htl h.1 h.2.1 (by omega)) (fun _ S1 hQ => ?_)
  have h1 := rds_go h hQ.1
  rw [if_pos (is6 hN g26 h1.1), bd2_some (tf_X6_last hN hG h1), if_pos (is6 hN g26 h1.1)]
  obtain ⟨Y, eY, hYl⟩ := hp_44 hN hG h1.1
  refine ok_bd2 (tf_X6_takes hN hG htl h1.1 h1.2.1 eY (Or.inl rfl) (by omega) (by omega) (by omega)) (fun r S2 hQ => ?_)
  obtain ⟨hS2, ht2, hq2, hr⟩ := hQ
  have h2 : rds G N tl p m S2 := by
    obtain ⟨X, eX, hX⟩ := h1.2.2
    exact ⟨hS2, ht2, X, (hq2 43 (by omega) (by omega)).trans eX, hX⟩
  rcases hr with ⟨rfl, _⟩ | ⟨rfl, v, hv, e44⟩
  · exact ok_pos (by decide) (ok_some ⟨Or.inl rfl, h2⟩)
  refine ok_neg (by decide) ?_
  have one : Ok (g_X6_readsSwap (k + 1) 1 S2 26) (fun r S' => (r = 0 ∨ r = 1) ∧ rds G N tl p m S') := by
    show Ok (b_X6_readsSwap_1 (g_X6_readsSwap k) k S2 26) _
    unfold b_X6_readsSwap_1
    rw [if_pos (is6 hN g26 hS2), bd2_some (tf_X6_last hN hG h2), if_pos (is6 hN g26 hS2)]
    refine ok_bd2 (tf_X6_takes hN hG htl hS2 ht2 e44 (Or.inr rfl) (by omega) (by omega) (by omega)) (fun r S3 hQ => ?_)
    obtain ⟨hS3, ht3, hq3, hr⟩ := hQ
    obtain ⟨X, eX, hX⟩ := h2.2.2
    have eX3 : S3[43]? = some (.inl (0, X)) := (hq3 43 (by omega) (by omega)).trans eX
    rcases hr with ⟨rfl, _⟩ | ⟨rfl, w, hw, e443⟩
    · exact ok_pos (by decide) (ok_some ⟨Or.inl rfl, hS3, ht3, X, eX3, hX⟩)
    refine ok_neg (by decide) ?_
    have hXl := hX.1
    have y0 : ((Y.set (0 : Int).toNat v).set (1 : Int).toNat w)[(0 : Int).toNat]? = some v := by
      rw [show (0 : Int).toNat = 0 from rfl, show (1 : Int).toNat = 1 from rfl, List.getElem?_set_ne (by omega), List.getElem?_set_self (by omega)]
    have y1 : ((Y.set (0 : Int).toNat v).set (1 : Int).toNat w)[(1 : Int).toNat]? = some w := by
      rw [show (0 : Int).toNat = 0 from rfl, show (1 : Int).toNat = 1 from rfl, List.getElem?_set_self (by rw [List.length_set]; omega)]
    obtain ⟨x, ex⟩ : ∃ x, X[3 + v.toNat]? = some x := ⟨_, List.getElem?_eq_getElem (by omega)⟩
    obtain ⟨y, ey⟩ : ∃ x, X[3 + w.toNat]? = some x := ⟨_, List.getElem?_eq_getElem (by omega)⟩
    refine ok_rdFp hS3 (by omega) g26 rfl (ok_rdFp hS3 (by omega) g26 rfl ?_)
    rw [rdA_at e443 (by omega) (by omega), y0]
    refine ok_bind (v := v) rfl ?_
    rw [rdA_at eX3 (by omega) (by omega), show (3 + v).toNat = 3 + v.toNat by omega, ex]
    refine ok_bind (v := x) rfl ?_
    refine ok_rdFp hS3 (by omega) g26 rfl (ok_rdFp hS3 (by omega) g26 rfl ?_)
    rw [rdA_at e443 (by omega) (by omega), y0]
    refine ok_bind (v := v) rfl ?_
    refine ok_rdFp hS3 (by omega) g26 rfl (ok_rdFp hS3 (by omega) g26 rfl ?_)
    rw [rdA_at e443 (by omega) (by omega), y1]
    refine ok_bind (v := w) rfl ?_
    rw [rdA_at eX3 (by omega) (by omega), show (3 + w).toNat = 3 + w.toNat by omega, ey]
    refine ok_bind (v := y) rfl ?_
    rw [wrA_of eX3 (by omega) (by omega) (by omega), show (3 + v).toNat = 3 + v.toNat by omega]
    refine ok_bind (v := S3.set 43 (.inl (0, X.set (3 + v.toNat) y))) rfl ?_
    have i26 : ∀ c, (S3.set 43 c)[26]? = S3[26]? := fun c => List.getElem?_set_ne (by omega)
    have fp : ∀ (i : Nat) (c : xC), rdFp 5 i (S3.set 43 c) 26 = rdFp 5 i S3 26 := fun i c => by
      unfold rdFp rdF
      simp only [lGet_e]
      rw [i26 c]
    rw [fp, fp]
    refine ok_rdFp hS3 (by omega) g26 rfl (ok_rdFp hS3 (by omega) g26 rfl ?_)
    rw [rdA_at (show (S3.set 43 (.inl (0, X.set (3 + v.toNat) y)))[44]? = some (.inl (0, (Y.set (0 : Int).toNat v).set (1 : Int).toNat w)) from (List.getElem?_set_ne (by omega)).trans e443) (by omega) (by omega), y1]
    refine ok_bind (v := w) rfl ?_
    rw [wrA_of (set_at eX3) (by omega) (by omega) (by rw [List.length_set]; omega), List.set_set, show (3 + w).toNat = 3 + w.toNat by omega]
    refine ok_some ⟨Or.inr rfl, rds_43 hN hG ⟨hS3, ht3, X, eX3, hX⟩ (xr_swap hm hX (by omega) (by omega) ex ey)⟩
  refine ok_rdFz hS2 (by omega) g26 rfl (fun _ => ?_)
  refine ok_if (fun _ => ?_) (fun _ => one)
  refine ok_rdFi hS2 (by omega) g26 rfl (fun _ _ _ => ?_)
  refine ok_rdFp hS2 (by omega) g26 rfl ?_
  rw [rdA_at e44 (by omega) (by omega), show (0 : Int).toNat = 0 from rfl, List.getElem?_set_self (by omega)]
  refine ok_bind (v := v) rfl ?_
  exact ok_if (fun _ => ok_some ⟨Or.inl rfl, h2⟩) (fun _ => one)
