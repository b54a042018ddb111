variable {G : xT} {N : Nat} {n tl : Int} {a b : Bool}
/-- the slips that lie now, as a hand -/
def nowH (L : List Int) : List Int := (L.drop 3).take 7
theorem nowH_get {L : List Int} {j : Nat} (hj : j < 7) : (nowH L)[j]? = L[3 + j]? := by
  unfold nowH
  rw [List.getElem?_take, if_pos hj, List.getElem?_drop]
theorem nowH_pm {nn : Nat} (hn : 2 ≤ nn ∧ nn ≤ 7) {L : List Int} (hL : L.length = 57) (hp : nw (nn : Int) L) : hw6 nn (nowH L) := by
  refine ⟨by unfold nowH; rw [List.length_take, List.length_drop]; omega, fun x hx => ?_, fun j v j1 e => ?_, fun i j i1 j1 e => ?_⟩
  · obtain ⟨j, hj⟩ := List.mem_iff_getElem?.mp hx
    have hj7 : j < 7 := by
      have := (List.getElem?_eq_some_iff.mp hj).1
      unfold nowH at this
      rw [List.length_take, List.length_drop] at this
      omega
    rw [nowH_get hj7] at hj
    exact hp.2.2.2.1 (3 + j) x (by omega) (by omega) hj
  · rw [nowH_get (by omega)] at e
    exact ⟨(hp.2.2.2.1 (3 + j) v (by omega) (by omega) e).1, hp.2.2.2.2.1.2 j v (by omega) e⟩
  · rw [nowH_get (by omega), nowH_get (by omega)] at e
    exact hp.2.2.2.2.1.1 i j (by omega) (by omega) e
theorem now_get {nn : Nat} (hn : 2 ≤ nn ∧ nn ≤ 7) {L : List Int} (hL : L.length = 57) (hp : nw (nn : Int) L) {j : Nat} (hj : j < nn) : L[3 + j]? = some (hf6 (nowH L) j : Int) ∧ hf6 (nowH L) j < nn := by
  have h := hf_get hn.2 (nowH_pm hn hL hp) hj
  rw [nowH_get (by omega)] at h
  exact h
theorem sp6 {nn : Nat} (hN : 45 ≤ N) (hn : 2 ≤ nn ∧ nn ≤ 7) (hG : ∀ q, 26 ≤ q → q < 45 → G q = R6 (nn : Int) tl a b q) {W : List Int} (hW : hw6 nn W) {x c : Nat} {z : Int} (hx : x < nn) (hz : z = (x : Int)) (hnx : ∀ (k : Nat) (S : xS) (i0 : Int), Hp G N S → S[41]? = some (.inl (0, W)) → c ≤ k → Ok (g_X6_swaps k 2 S 26 i0 (z + 1) 0 0) (fun _ S' => S' = S)) : ∀ (d k : Nat) (S : xS) (w : Nat) (zw i0 i2 : Int), zw = (w : Int) → Hp G N S → S[41]? = some (.inl (0, W)) → w < nn → itf (hf6 W) d w = x → c + 3 * d + 2 ≤ k → Ok (g_X6_swaps k 3 S 26 i0 z i2 zw) (fun _ S' => S' = S) := by
  have g26 := hG 26 (by omega) (by omega)
  have h5 : ∀ (k : Nat) (S : xS) (i0 i2 : Int), Hp G N S → S[41]? = some (.inl (0, W)) → c + 1 ≤ k → Ok (g_X6_swaps k 6 S 26 z i0 i2 0) (fun _ S' => S' = S) := by
    intro k S i0 i2 hS eK hk
    obtain ⟨k, rfl⟩ : ∃ k', k = k' + 1 := ⟨k - 1, by omega⟩
    exact hnx k S (i0 + i2) hS eK (by omega)
  intro d
  induction d with
  | zero =>
    intro k S w zw i0 i2 hzw hS eK hw e hk
    obtain ⟨k, rfl⟩ : ∃ k', k = k' + 1 := ⟨k - 1, by omega⟩
    rw [itf_0] at e
    show Ok (b_X6_swaps_3 (g_X6_swaps k) k S 26 i0 z i2 zw) _
    unfold b_X6_swaps_3
    rw [if_pos (by rw [hzw, e, hz])]
    exact ok_if (fun _ => h5 k S _ _ hS eK (by omega)) (fun _ => h5 k S _ _ hS eK (by omega))
  | succ d ih =>
    intro k S w zw i0 i2 hzw hS eK hw e hk
    obtain ⟨k, rfl⟩ : ∃ k', k = k' + 3 := ⟨k - 3, by omega⟩
    rw [itf_1] at e
    obtain ⟨h1, h2⟩ := hf_get hn.2 hW hw
    have h4 : ∀ (k : Nat) (i3 : Int), c + 3 * d + 3 ≤ k → Ok (g_X6_swaps k 5 S 26 i0 z zw i3) (fun _ S' => S' = S) := by
      intro k i3 hk
      obtain ⟨k, rfl⟩ : ∃ k', k = k' + 1 := ⟨k - 1, by omega⟩
      show Ok (b_X6_swaps_5 (g_X6_swaps k) k S 26 i0 z zw i3) _
      unfold b_X6_swaps_5
      refine ok_rdFp hS (by omega) g26 rfl ?_
      rw [rdA_at eK (by omega) (by omega), show zw.toNat = w by omega, h1]
      exact ih k S (hf6 W w) _ i0 i3 rfl hS eK h2 e (by omega)
    have h3 : Ok (g_X6_swaps (k + 2) 4 S 26 i0 z zw 0) (fun _ S' => S' = S) := h4 (k + 1) 0 (by omega)
    show Ok (b_X6_swaps_3 (g_X6_swaps (k + 2)) (k + 2) S 26 i0 z i2 zw) _
    unfold b_X6_swaps_3
    refine ok_if (fun _ => ?_) (fun _ => ?_)
    · exact ok_if (fun _ => h5 _ S _ _ hS eK (by omega)) (fun _ => h5 _ S _ _ hS eK (by omega))
    · refine ok_if (fun _ => h3) (fun _ => ?_)
      exact ok_if (fun _ => h3) (fun _ => h4 (k + 2) 1 (by omega))
theorem sp2 {nn : Nat} (hN : 45 ≤ N) (hn : 2 ≤ nn ∧ nn ≤ 7) (hG : ∀ q, 26 ≤ q → q < 45 → G q = R6 (nn : Int) tl a b q) {W : List Int} (hW : hw6 nn W) : ∀ (d i : Nat) (z : Int), i + d = nn → z = (i : Int) → ∀ (k : Nat) (S : xS) (i0 : Int), Hp G N S → S[41]? = some (.inl (0, W)) → 26 * d + 1 ≤ k → Ok (g_X6_swaps k 2 S 26 i0 z 0 0) (fun _ S' => S' = S) := by
  have g26 := hG 26 (by omega) (by omega)
  have g27 := hG 27 (by omega) (by omega)
  intro d
  induction d with
  | zero =>
    intro i z hi hz k S i0 hS eK hk
    obtain ⟨k, rfl⟩ : ∃ k', k = k' + 1 := ⟨k - 1, by omega⟩
    show Ok (b_X6_swaps_2 (g_X6_swaps k) k S 26 i0 z 0 0) _
    unfold b_X6_swaps_2
    rw [if_pos (is6 hN g26 hS), bd2_some (tf_X6_n (by omega) g26 g27 hS)]
    rw [wIn (n := z) (by omega) (by omega), wIn (n := (nn : Int)) (by omega) (by omega), if_pos (by omega), if_pos (is6 hN g26 hS), bd2_some (tf_X6_n (by omega) g26 g27 hS)]
    exact ok_some rfl
  | succ d ih =>
    intro i z hi hz k S i0 hS eK hk
    obtain ⟨k, rfl⟩ : ∃ k', k = k' + 1 := ⟨k - 1, by omega⟩
    show Ok (b_X6_swaps_2 (g_X6_swaps k) k S 26 i0 z 0 0) _
    unfold b_X6_swaps_2
    rw [if_pos (is6 hN g26 hS), bd2_some (tf_X6_n (by omega) g26 g27 hS)]
    rw [wIn (n := z) (by omega) (by omega), wIn (n := (nn : Int)) (by omega) (by omega), if_neg (by omega)]
    refine ok_rdFp hS (by omega) g26 rfl ?_
    obtain ⟨h1, h2⟩ := hf_get hn.2 hW (show i < nn by omega)
    rw [rdA_at eK (by omega) (by omega), show z.toNat = i by omega, h1]
    obtain ⟨d', hd', e⟩ := hf_orb hn.2 hW (show i < nn by omega)
    exact sp6 hN hn hG hW (show i < nn by omega) hz (ih (i + 1) (z + 1) (by omega) (by omega)) d' k S _ _ i0 1 rfl hS eK h2 e (by omega)
theorem sp1 {nn : Nat} (hN : 45 ≤ N) (hn : 2 ≤ nn ∧ nn ≤ 7) (hG : ∀ q, 26 ≤ q → q < 45 → G q = R6 (nn : Int) tl a b q) {L K : List Int} (hL : L.length = 57) (hp : nw (nn : Int) L) (hK : hw6 nn K) : ∀ (d k : Nat) (S : xS) (W : List Int) (i : Nat) (z : Int), i + d = nn → z = (i : Int) → Hp G N S → S[27]? = some (.inl (0, L)) → S[31]? = some (.inl (0, K)) → S[41]? = some (.inl (0, W)) → W.length = 7 → tR 0 6 W → (∀ (j w : Nat), j < i → (nowH L)[j]? = some (w : Int) → W[w]? = K[j]?) → d + 200 ≤ k → Ok (g_X6_swaps k 1 S 26 z 0 0 0) (fun _ S' => Hp G N S' ∧ ∀ q, q ≠ 41 → S'[q]? = S[q]?) := by
  have g26 := hG 26 (by omega) (by omega)
  have g27 := hG 27 (by omega) (by omega)
  have g41 := hG 41 (by omega) (by omega)
  intro d
  induction d with
  | zero =>
    intro k S W i z hi hz hS eL eK eW hWl hR hI hk
    obtain ⟨k, rfl⟩ : ∃ k', k = k' + 1 := ⟨k - 1, by omega⟩
    show Ok (b_X6_swaps_1 (g_X6_swaps k) k S 26 z 0 0 0) _
    unfold b_X6_swaps_1
    rw [if_pos (is6 hN g26 hS), bd2_some (tf_X6_n (by omega) g26 g27 hS)]
    rw [wIn (n := z) (by omega) (by omega), wIn (n := (nn : Int)) (by omega) (by omega), if_pos (by omega)]
    have hW := pm_mul hn.2 (nowH_pm hn hL hp) hK hWl hR (fun j w hj e => hI j w (by omega) e)
    exact ok_mono (sp2 hN hn hG hW nn 0 0 (by omega) rfl k S 0 hS eW (by omega)) (fun _ S' hQ => by subst hQ; exact ⟨hS, fun _ _ => rfl⟩)
  | succ d ih =>
    intro k S W i z hi hz hS eL eK eW hWl hR hI hk
    obtain ⟨k, rfl⟩ : ∃ k', k = k' + 1 := ⟨k - 1, by omega⟩
    have hKl := hK.1
    show Ok (b_X6_swaps_1 (g_X6_swaps k) k S 26 z 0 0 0) _
    unfold b_X6_swaps_1
    rw [if_pos (is6 hN g26 hS), bd2_some (tf_X6_n (by omega) g26 g27 hS)]
    rw [wIn (n := z) (by omega) (by omega), wIn (n := (nn : Int)) (by omega) (by omega), if_neg (by omega)]
    obtain ⟨hw, hwn⟩ := now_get hn hL hp (show i < nn by omega)
    obtain ⟨v, hv⟩ : ∃ v, K[i]? = some v := ⟨_, List.getElem?_eq_getElem (by omega)⟩
    refine ok_rdFp hS (by omega) g26 rfl (ok_rdFp hS (by omega) g26 rfl ?_)
    rw [rdA_at eL (by omega) (by omega), show (3 + z).toNat = 3 + i by omega, hw]
    show Ok ((rdFp 5 6 S 26).bind _) _
    refine ok_rdFp hS (by omega) g26 rfl ?_
    rw [rdA_at eK (by omega) (by omega), show z.toNat = i by omega, hv]
    show Ok ((wrA 0 S 41 (hf6 (nowH L) i : Int) v).bind _) _
    rw [wrA_of eW (by omega) (by omega) (by omega), Int.toNat_natCast]
    have hR' : tR 0 6 (W.set (hf6 (nowH L) i) v) := tR_set (tR_get hK.2.1 hv) W hR
    have hl' : (W.set (hf6 (nowH L) i) v).length = 7 := by rw [List.length_set]; exact hWl
    show Ok (g_X6_swaps k 1 (S.set 41 (.inl (0, W.set (hf6 (nowH L) i) v))) 26 (z + 1) 0 0 0) _
    refine ok_mono (ih k _ (W.set (hf6 (nowH L) i) v) (i + 1) (z + 1) (by omega) (by omega) (hp_set hS (by rw [g41]; exact ⟨_, rfl, hl', hR'⟩)) (by rw [List.getElem?_set_ne (by omega)]; exact eL) (by rw [List.getElem?_set_ne (by omega)]; exact eK) (set_at eW) hl' hR' (fun j w' hj e => ?_) (by omega)) (fun _ S' hQ => ⟨hQ.1, fun q hq => (hQ.2 q hq).trans (List.getElem?_set_ne (by omega))⟩)
    have hM := nowH_pm hn hL hp
    have hi' := (hf_get hn.2 hM (show i < nn by omega)).1
    by_cases hji : j = i
    · subst hji
      rw [hi'] at e
      have : w' = hf6 (nowH L) j := by have := Option.some.inj e; omega
      subst this
      rw [List.getElem?_set_self (by omega), hv]
    · have hne : hf6 (nowH L) i ≠ w' := fun h => by
        subst h
        exact hji (hM.2.2.2 j i (by omega) (by omega) (by rw [e, hi']))
      rw [List.getElem?_set_ne hne]
      exact hI j w' (by omega) e
theorem tf_X6_swaps {nn : Nat} (hN : 45 ≤ N) (hn : 2 ≤ nn ∧ nn ≤ 7) (hG : ∀ q, 26 ≤ q → q < 45 → G q = R6 (nn : Int) tl a b q) {K : List Int} (hK : hw6 nn K) {k : Nat} {S : xS} (hS : Hp G N S) (eK : S[31]? = some (.inl (0, K))) (hk : 220 ≤ k) : Ok (f_X6_swaps k S 26) (fun _ S' => Hp G N S' ∧ ∀ q, q ≠ 41 → S'[q]? = S[q]?) := by
  obtain ⟨k, rfl⟩ : ∃ k', k = k' + 1 := ⟨k - 1, by omega⟩
  obtain ⟨c, eL, hc⟩ := hp_get hS (show 27 < N by omega)
  rw [hG 27 (by omega) (by omega)] at hc
  obtain ⟨L, rfl, hL, hp⟩ := hc
  obtain ⟨c, eW, hc⟩ := hp_get hS (show 41 < N by omega)
  rw [hG 41 (by omega) (by omega)] at hc
  obtain ⟨W, rfl, hWl, hR⟩ := hc
  exact sp1 hN hn hG hL hp hK nn k S W 0 0 (by omega) rfl hS eL eK eW hWl hR (fun j w hj _ => by exfalso; omega) (by omega)
theorem md1 {nn : Nat} (hN : 45 ≤ N) (hn : 2 ≤ nn ∧ nn ≤ 7) (hG : ∀ q, 26 ≤ q → q < 45 → G q = R6 (nn : Int) tl a b q) (hf : 1 ≤ fac (nn : Int) ∧ fac (nn : Int) ≤ 5040) : ∀ (d k : Nat) (S : xS) (i0 i1 : Int), Hp G N S → 0 ≤ i1 → i1 + d = fac (nn : Int) → 4 * d + 300 ≤ k → Ok (g_X6_mended k 1 S 26 i0 i1 0 0) (fun _ S' => Hp G N S') := by
  have hn' : 2 ≤ (nn : Int) ∧ (nn : Int) ≤ 7 := by omega
  have g26 := hG 26 (by omega) (by omega)
  have g27 := hG 27 (by omega) (by omega)
  intro d
  induction d with
  | zero =>
    intro k S i0 i1 hS h0 hd hk
    obtain ⟨k, rfl⟩ : ∃ k', k = k' + 1 := ⟨k - 1, by omega⟩
    show Ok (b_X6_mended_1 (g_X6_mended k) k S 26 i0 i1 0 0) _
    unfold b_X6_mended_1
    rw [if_pos (is6 hN g26 hS)]
    refine ok_ways6 hN hn' hG hS (by omega) ?_
    rw [wIn (n := i1) (by omega) (by omega), wIn (n := fac (nn : Int)) (by omega) (by omega), if_pos (by omega)]
    exact ok_if (fun _ => ok_some hS) (fun _ => ok_some hS)
  | succ d ih =>
    intro k S i0 i1 hS h0 hd hk
    obtain ⟨k, rfl⟩ : ∃ k', k = k' + 4 := ⟨k - 4, by omega⟩
    show Ok (b_X6_mended_1 (g_X6_mended (k + 3)) (k + 3) S 26 i0 i1 0 0) _
    unfold b_X6_mended_1
    rw [if_pos (is6 hN g26 hS)]
    refine ok_ways6 hN hn' hG hS (by omega) ?_
    rw [wIn (n := i1) (by omega) (by omega), wIn (n := fac (nn : Int)) (by omega) (by omega), if_neg (by omega), if_pos (is6 hN g26 hS)]
    refine ok_bd2 (tk_rank hN hn hG hS (by omega) (by omega)) (fun _ S1 hQ => ?_)
    obtain ⟨hS1, K, -, eK, hK, -⟩ := hQ
    rw [if_pos (is6 hN g26 hS1)]
    refine ok_bd2 (tf_X6_swaps hN hn hG hK hS1 eK (by omega)) (fun x S2 hQ => ?_)
    obtain ⟨hS2, -⟩ := hQ
    have h4 : ∀ (k : Nat) (S : xS) (x : Int), Hp G N S → 4 * d + 301 ≤ k → Ok (g_X6_mended k 4 S 26 i1 x 0 0) (fun _ S' => Hp G N S') := by
      intro k S x hS hk
      obtain ⟨k, rfl⟩ : ∃ k', k = k' + 1 := ⟨k - 1, by omega⟩
      exact ih k S x (i1 + 1) hS (by omega) (by omega) (by omega)
    have h3 : ∀ (k : Nat) (S : xS) (x f : Int), Hp G N S → 4 * d + 302 ≤ k → Ok (g_X6_mended k 3 S 26 i0 i1 x f) (fun _ S' => Hp G N S') := by
      intro k S x f hS hk
      obtain ⟨k, rfl⟩ : ∃ k', k = k' + 1 := ⟨k - 1, by omega⟩
      show Ok (b_X6_mended_3 (g_X6_mended k) k S 26 i0 i1 x f) _
      unfold b_X6_mended_3
      exact ok_if (fun _ => h4 k S _ hS (by omega)) (fun _ => h4 k S _ hS (by omega))
    have h2 : ∀ (S : xS) (x : Int), Hp G N S → Ok (g_X6_mended (k + 3) 2 S 26 i0 i1 x 0) (fun _ S' => Hp G N S') := fun S x hS => h3 (k + 2) S x 0 hS (by omega)
    refine ok_if (fun _ => h2 S2 x hS2) (fun _ => ?_)
    rw [if_pos (is6 hN g26 hS2)]
    refine ok_bd2 (tf_X6_findsHand hN hn' hG hf hS2 (by omega)) (fun _ S3 hQ => ?_)
    obtain ⟨hS3, -⟩ := hQ
    rw [if_pos (is6 hN g26 hS3)]
    refine ok_bd2 (tf_X6_all hN hn' hG hf hS3 trivial) (fun _ S4 hQ => ?_)
    obtain ⟨rfl, -⟩ := hQ
    exact ok_if (fun _ => h3 _ S4 _ _ hS3 (by omega)) (fun _ => h2 S4 x hS3)
theorem tf_X6_mended {nn : Nat} (hN : 45 ≤ N) (hn : 2 ≤ nn ∧ nn ≤ 7) (hG : ∀ q, 26 ≤ q → q < 45 → G q = R6 (nn : Int) tl a b q) (hf : 1 ≤ fac (nn : Int) ∧ fac (nn : Int) ≤ 5040) {k : Nat} {S : xS} (hS : Hp G N S) (hk : 20500 ≤ (k : Int)) : Ok (f_X6_mended k S 26) (fun _ S' => Hp G N S') := by
  obtain ⟨k, rfl⟩ : ∃ k', k = k' + 1 := ⟨k - 1, by omega⟩
  exact md1 hN hn hG hf (fac (nn : Int)).toNat k S 1000000 0 hS (by omega) (by omega) (by omega)
