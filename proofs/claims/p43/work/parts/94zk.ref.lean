variable {G : xT} {N : Nat} {n tl : Int} {a b : Bool}
theorem wk2 {nn : Nat} (hN : 45 ≤ N) (hn : 2 ≤ nn ∧ nn ≤ 7) (hG : ∀ q, 26 ≤ q → q < 45 → G q = R6 (nn : Int) tl a b q) {L : List Int} (hL : L.length = 57) (hp : nw (nn : Int) L) {m : Nat} {zm zi : Int} (hzm : zm = (m : Int)) (hm : m ≤ 500) {S : xS} (hS : Hp G N S) (eL : S[27]? = some (.inl (0, L))) {Q : Int → xS → Prop} : ∀ (d k w c : Nat) (zw zc : Int), c + d = m → zw = (w : Int) → zc = (c : Int) → w < nn → (∀ zx : Int, zx = (itf (hf6 (nowH L)) d w : Int) → itf (hf6 (nowH L)) d w < nn → Ok (g_X6_workHand k 2 S 26 zm zi zx zm) Q) → Ok (g_X6_workHand (k + d) 2 S 26 zm zi zw zc) Q := by
  have g26 := hG 26 (by omega) (by omega)
  intro d
  induction d with
  | zero =>
    intro k w c zw zc hc hzw hz hw hf
    rw [show zc = zm by omega]
    exact hf zw (by rw [itf_0]; exact hzw) hw
  | succ d ih =>
    intro k w c zw zc hc hzw hz hw hf
    show Ok (b_X6_workHand_2 (g_X6_workHand (k + d)) (k + d) S 26 zm zi zw zc) _
    unfold b_X6_workHand_2
    rw [wIn (n := zm) (by omega) (by omega), wIn (n := zc) (by omega) (by omega), if_neg (by omega)]
    obtain ⟨h1, h2⟩ := now_get hn hL hp hw
    refine ok_rdFp hS (by omega) g26 rfl ?_
    rw [rdA_at eL (by omega) (by omega), show (3 + zw).toNat = 3 + w by omega, h1]
    rw [itf_1] at hf
    exact ih k _ (c + 1) _ (zc + 1) (by omega) rfl (by omega) h2 hf
theorem wk1 {nn : Nat} (hN : 45 ≤ N) (hn : 2 ≤ nn ∧ nn ≤ 7) (hG : ∀ q, 26 ≤ q → q < 45 → G q = R6 (nn : Int) tl a b q) {L : List Int} (hL : L.length = 57) (hp : nw (nn : Int) L) {m : Nat} {zm : Int} (hzm : zm = (m : Int)) (hm : m ≤ 500) : ∀ (d k : Nat) (S : xS) (K : List Int) (i : Nat) (zi : Int), i + d = nn → zi = (i : Int) → Hp G N S → S[27]? = some (.inl (0, L)) → S[31]? = some (.inl (0, K)) → K.length = 7 → tR 0 6 K → (∀ j, j < i → K[j]? = some (itf (hf6 (nowH L)) m j : Int)) → 505 * d + 5 ≤ k → Ok (g_X6_workHand k 1 S 26 zm zi 0 0) (fun _ S' => ∃ K', S' = S.set 31 (.inl (0, K')) ∧ K'.length = 7 ∧ tR 0 6 K' ∧ ∀ j, j < nn → K'[j]? = some (itf (hf6 (nowH L)) m j : Int)) := by
  have g26 := hG 26 (by omega) (by omega)
  have g27 := hG 27 (by omega) (by omega)
  have g31 := hG 31 (by omega) (by omega)
  intro d
  induction d with
  | zero =>
    intro k S K i zi hi hz hS eL eK hKl hR hI hk
    obtain ⟨k, rfl⟩ : ∃ k', k = k' + 1 := ⟨k - 1, by omega⟩
    show Ok (b_X6_workHand_1 (g_X6_workHand k) k S 26 zm zi 0 0) _
    unfold b_X6_workHand_1
    rw [if_pos (is6 hN g26 hS), bd2_some (tf_X6_n (by omega) g26 g27 hS)]
    rw [wIn (n := zi) (by omega) (by omega), wIn (n := (nn : Int)) (by omega) (by omega), if_pos (by omega)]
    exact ok_some ⟨K, set_self6 eK, hKl, hR, fun j hj => hI j (by omega)⟩
  | succ d ih =>
    intro k S K i zi hi hz hS eL eK hKl hR hI hk
    obtain ⟨k, rfl⟩ : ∃ k', k = ((k' + 1) + m) + 1 := ⟨k - 2 - m, by omega⟩
    show Ok (b_X6_workHand_1 (g_X6_workHand ((k + 1) + m)) ((k + 1) + m) S 26 zm zi 0 0) _
    unfold b_X6_workHand_1
    rw [if_pos (is6 hN g26 hS), bd2_some (tf_X6_n (by omega) g26 g27 hS)]
    rw [wIn (n := zi) (by omega) (by omega), wIn (n := (nn : Int)) (by omega) (by omega), if_neg (by omega)]
    have h := wk2 hN hn hG hL hp hzm hm hS eL (zi := zi) (Q := fun _ S' => ∃ K', S' = S.set 31 (.inl (0, K')) ∧ K'.length = 7 ∧ tR 0 6 K' ∧ ∀ j, j < nn → K'[j]? = some (itf (hf6 (nowH L)) m j : Int)) m (k + 1) i 0 zi 0 (by omega) hz rfl (by omega) (fun zx hzx hlt => by
      show Ok (b_X6_workHand_2 (g_X6_workHand k) k S 26 zm zi zx zm) _
      unfold b_X6_workHand_2
      rw [if_pos (by omega)]
      refine ok_rdFp hS (by omega) g26 rfl ?_
      rw [wrA_of eK (by omega) (by omega) (by omega), show zi.toNat = i by omega]
      have hR' : tR 0 6 (K.set i zx) := tR_set (by omega) K hR
      have hl' : (K.set i zx).length = 7 := by rw [List.length_set]; exact hKl
      obtain ⟨r, S2, e2, K', e3, q1, q2, q3⟩ := ih k (S.set 31 (.inl (0, K.set i zx))) (K.set i zx) (i + 1) (zi + 1) (by omega) (by omega) (hp_set hS (by rw [g31]; exact ⟨_, rfl, hl', hR'⟩)) (by rw [List.getElem?_set_ne (by omega)]; exact eL) (set_at eK) hl' hR' (fun j hj => by
        by_cases hji : j = i
        · subst hji
          rw [List.getElem?_set_self (by omega), hzx]
        · rw [List.getElem?_set_ne (by omega)]
          exact hI j (by omega)) (by omega)
      exact ⟨r, S2, e2, K', by rw [e3, List.set_set], q1, q2, q3⟩)
    exact h
theorem wk_hand {nn : Nat} (hN : 45 ≤ N) (hn : 2 ≤ nn ∧ nn ≤ 7) (hG : ∀ q, 26 ≤ q → q < 45 → G q = R6 (nn : Int) tl a b q) {L : List Int} (hL : L.length = 57) (hp : nw (nn : Int) L) {m : Nat} {zm : Int} (hzm : zm = (m : Int)) (hm : m ≤ 500) {k : Nat} {S : xS} (hS : Hp G N S) (eL : S[27]? = some (.inl (0, L))) (hk : 3600 ≤ k) : Ok (f_X6_workHand k S 26 zm) (fun _ S' => Hp G N S' ∧ S'[27]? = some (.inl (0, L)) ∧ ∃ K', S'[31]? = some (.inl (0, K')) ∧ ∀ j, j < nn → K'[j]? = some (itf (hf6 (nowH L)) m j : Int)) := by
  obtain ⟨k, rfl⟩ : ∃ k', k = k' + 1 := ⟨k - 1, by omega⟩
  have g31 := hG 31 (by omega) (by omega)
  obtain ⟨c, eK, hc⟩ := hp_get hS (show 31 < N by omega)
  rw [g31] at hc
  obtain ⟨K, rfl, hKl, hR⟩ := hc
  obtain ⟨r, S2, e2, K', e3, q1, q2, q3⟩ := wk1 hN hn hG hL hp hzm hm nn k S K 0 0 (by omega) rfl hS eL eK hKl hR (fun j hj => by exfalso; omega) (by omega)
  refine ⟨r, S2, e2, ?_, ?_, K', ?_, q3⟩
  · rw [e3]
    exact hp_set hS (by rw [g31]; exact ⟨_, rfl, q1, q2⟩)
  · rw [e3, List.getElem?_set_ne (by omega)]
    exact eL
  · rw [e3]
    exact set_at eK
/-- all lies as at first: its rank is 0 -/
theorem ri2 {nn : Nat} (hN : 45 ≤ N) (hn : 2 ≤ nn ∧ nn ≤ 7) (hG : ∀ q, 26 ≤ q → q < 45 → G q = R6 (nn : Int) tl a b q) {S : xS} {K : List Int} (hS : Hp G N S) (eK : S[31]? = some (.inl (0, K))) (hK : ∀ j : Nat, j < nn → K[j]? = some (j : Int)) {i c : Nat} {zi : Int} (hzi : zi = (i : Int)) (hi : i < nn) (hnx : ∀ k : Nat, c ≤ k → Ok (g_X6_rankOf k 1 S 26 0 (zi + 1) 0 0 0) (fun r' S' => r' = 0 ∧ S' = S)) : ∀ (e j : Nat) (z : Int) (k : Nat), j + e = nn → z = (j : Int) → i < j → c + 10 + 2 * e ≤ k → Ok (g_X6_rankOf k 2 S 26 0 zi 0 z 0) (fun r' S' => r' = 0 ∧ S' = S) := by
  have g26 := hG 26 (by omega) (by omega)
  have g27 := hG 27 (by omega) (by omega)
  intro e
  induction e with
  | zero =>
    intro j z k hj hz hij hk
    obtain ⟨k, rfl⟩ : ∃ k', k = k' + 1 := ⟨k - 1, by omega⟩
    show Ok (b_X6_rankOf_2 (g_X6_rankOf k) k S 26 0 zi 0 z 0) _
    unfold b_X6_rankOf_2
    rw [if_pos (is6 hN g26 hS), bd2_some (tf_X6_n (by omega) g26 g27 hS)]
    rw [wIn (n := z) (by omega) (by omega), wIn (n := (nn : Int)) (by omega) (by omega), if_pos (by omega), if_pos (is6 hN g26 hS), bd2_some (tf_X6_n (by omega) g26 g27 hS), bd2_some (tf_X6_factorial (by omega) (by omega)), Int.zero_mul]
    exact hnx k (by omega)
  | succ e ih =>
    intro j z k hj hz hij hk
    obtain ⟨k, rfl⟩ : ∃ k', k = k' + 2 := ⟨k - 2, by omega⟩
    show Ok (b_X6_rankOf_2 (g_X6_rankOf (k + 1)) (k + 1) S 26 0 zi 0 z 0) _
    unfold b_X6_rankOf_2
    rw [if_pos (is6 hN g26 hS), bd2_some (tf_X6_n (by omega) g26 g27 hS)]
    rw [wIn (n := z) (by omega) (by omega), wIn (n := (nn : Int)) (by omega) (by omega), if_neg (by omega)]
    obtain ⟨vi, evi, hvi⟩ : ∃ v : Int, K[i]? = some v ∧ v = (i : Int) := ⟨_, hK i (by omega), rfl⟩
    obtain ⟨vj, evj, hvj⟩ : ∃ v : Int, K[j]? = some v ∧ v = (j : Int) := ⟨_, hK j (by omega), rfl⟩
    refine ok_rdFp hS (by omega) g26 rfl ?_
    rw [rdA_at eK (by omega) (by omega), show z.toNat = j by omega, evj]
    show Ok ((rdFp 5 6 S 26).bind _) _
    refine ok_rdFp hS (by omega) g26 rfl ?_
    rw [rdA_at eK (by omega) (by omega), show zi.toNat = i by omega, evi]
    show Ok (if wI vi ≤ wI vj then g_X6_rankOf (k + 1) 3 S 26 0 zi z 0 0 else g_X6_rankOf (k + 1) 3 S 26 0 zi z 0 1) _
    rw [wIn (n := vi) (by omega) (by omega), wIn (n := vj) (by omega) (by omega), if_pos (by omega)]
    exact ih (j + 1) (z + 1) k (by omega) (by omega) (by omega) (by omega)
theorem ri1 {nn : Nat} (hN : 45 ≤ N) (hn : 2 ≤ nn ∧ nn ≤ 7) (hG : ∀ q, 26 ≤ q → q < 45 → G q = R6 (nn : Int) tl a b q) {S : xS} {K : List Int} (hS : Hp G N S) (eK : S[31]? = some (.inl (0, K))) (hK : ∀ j : Nat, j < nn → K[j]? = some (j : Int)) : ∀ (d i : Nat) (zi : Int), i + d = nn → zi = (i : Int) → ∀ k : Nat, 2 + 25 * d ≤ k → Ok (g_X6_rankOf k 1 S 26 0 zi 0 0 0) (fun r' S' => r' = 0 ∧ S' = S) := by
  have g26 := hG 26 (by omega) (by omega)
  have g27 := hG 27 (by omega) (by omega)
  intro d
  induction d with
  | zero =>
    intro i zi hi hz k hk
    obtain ⟨k, rfl⟩ : ∃ k', k = k' + 1 := ⟨k - 1, by omega⟩
    show Ok (b_X6_rankOf_1 (g_X6_rankOf k) k S 26 0 zi 0 0 0) _
    unfold b_X6_rankOf_1
    rw [if_pos (is6 hN g26 hS), bd2_some (tf_X6_n (by omega) g26 g27 hS)]
    rw [wIn (n := zi) (by omega) (by omega), wIn (n := (nn : Int)) (by omega) (by omega), if_pos (by omega)]
    exact ok_some ⟨rfl, rfl⟩
  | succ d ih =>
    intro i zi hi hz k hk
    obtain ⟨k, rfl⟩ : ∃ k', k = k' + 1 := ⟨k - 1, by omega⟩
    show Ok (b_X6_rankOf_1 (g_X6_rankOf k) k S 26 0 zi 0 0 0) _
    unfold b_X6_rankOf_1
    rw [if_pos (is6 hN g26 hS), bd2_some (tf_X6_n (by omega) g26 g27 hS)]
    rw [wIn (n := zi) (by omega) (by omega), wIn (n := (nn : Int)) (by omega) (by omega), if_neg (by omega)]
    exact ri2 hN hn hG hS eK hK hz (by omega) (ih (i + 1) (zi + 1) (by omega) (by omega)) (nn - (i + 1)) (i + 1) (zi + 1) k (by omega) (by omega) (by omega) (by omega)
theorem itf_mul {f : Nat → Nat} {e x : Nat} (h : itf f e x = x) : ∀ t : Nat, itf f (e * t) x = x := by
  intro t
  induction t with
  | zero => rfl
  | succ t ih => rw [Nat.mul_succ, itf_add, ih, h]
theorem itf_420 {nn : Nat} {K : List Int} (hn : nn ≤ 7) (h : hw6 nn K) {x : Nat} (hx : x < nn) : itf (hf6 K) 420 x = x := by
  obtain ⟨d, hd, e⟩ := orb (fun i hi => (hf_get hn h hi).2) (hf_inj hn h) hx
  rcases (show d = 0 ∨ d = 1 ∨ d = 2 ∨ d = 3 ∨ d = 4 ∨ d = 5 ∨ d = 6 by omega) with rfl | rfl | rfl | rfl | rfl | rfl | rfl
  · exact itf_mul e 420
  · exact itf_mul e 210
  · exact itf_mul e 140
  · exact itf_mul e 105
  · exact itf_mul e 84
  · exact itf_mul e 70
  · exact itf_mul e 60
theorem bk1 {nn : Nat} (hN : 45 ≤ N) (hn : 2 ≤ nn ∧ nn ≤ 7) (hG : ∀ q, 26 ≤ q → q < 45 → G q = R6 (nn : Int) tl a b q) {L : List Int} (hL : L.length = 57) (hp : nw (nn : Int) L) : ∀ (d k m : Nat) (zm : Int) (S : xS) (K : List Int), m + d = 420 → zm = (m : Int) → Hp G N S → S[27]? = some (.inl (0, L)) → S[31]? = some (.inl (0, K)) → (∀ j, j < nn → K[j]? = some (itf (hf6 (nowH L)) m j : Int)) → d + 3700 ≤ k → Ok (g_X6_back k 1 S 26 zm) (fun _ S' => Hp G N S') := by
  have hn' : 2 ≤ (nn : Int) ∧ (nn : Int) ≤ 7 := by omega
  have g26 := hG 26 (by omega) (by omega)
  have g27 := hG 27 (by omega) (by omega)
  have g31 := hG 31 (by omega) (by omega)
  intro d
  induction d with
  | zero =>
    intro k m zm S K hm hz hS eL eK hK hk
    obtain ⟨k, rfl⟩ : ∃ k', k = k' + 2 := ⟨k - 2, by omega⟩
    have hid : ∀ j : Nat, j < nn → K[j]? = some (j : Int) := fun j hj => by
      rw [hK j hj, show m = 420 by omega, itf_420 hn.2 (nowH_pm hn hL hp) hj]
    show Ok (b_X6_back_1 (g_X6_back (k + 1)) (k + 1) S 26 zm) _
    unfold b_X6_back_1
    rw [if_pos (is6 hN g26 hS)]
    have h : Ok (f_X6_rankOf (k + 1) S 26) (fun r' S' => r' = 0 ∧ S' = S) := ri1 hN hn hG hS eK hid nn 0 0 (by omega) rfl k (by omega)
    refine ok_bd2 h (fun r S' hQ => ?_)
    obtain ⟨rfl, rfl⟩ := hQ
    exact ok_pos (by decide) (ok_some hS)
  | succ d ih =>
    intro k m zm S K hm hz hS eL eK hK hk
    obtain ⟨k, rfl⟩ : ∃ k', k = k' + 1 := ⟨k - 1, by omega⟩
    show Ok (b_X6_back_1 (g_X6_back k) k S 26 zm) _
    unfold b_X6_back_1
    rw [if_pos (is6 hN g26 hS)]
    refine ok_bd2 (tf_X6_rankOf hN hn' g26 g27 g31 hS (by omega)) (fun r S' hQ => ?_)
    obtain ⟨rfl, -⟩ := hQ
    refine ok_if (fun _ => ok_some hS) (fun _ => ?_)
    show Ok (if isO 5 S' 26 = true then _ else _) _
    rw [if_pos (is6 hN g26 hS)]
    refine ok_bd2 (wk_hand hN hn hG hL hp (m := m + 1) (zm := zm + 1) (by omega) (by omega) hS eL (by omega)) (fun _ S2 hQ => ?_)
    obtain ⟨hS2, eL2, K2, eK2, hK2⟩ := hQ
    exact ih k (m + 1) (zm + 1) S2 K2 (by omega) (by omega) hS2 eL2 eK2 hK2 (by omega)
theorem tf_X6_back {nn : Nat} (hN : 45 ≤ N) (hn : 2 ≤ nn ∧ nn ≤ 7) (hG : ∀ q, 26 ≤ q → q < 45 → G q = R6 (nn : Int) tl a b q) {k : Nat} {S : xS} (hS : Hp G N S) (hk : 4200 ≤ k) : Ok (f_X6_back k S 26) (fun _ S' => Hp G N S') := by
  have g26 := hG 26 (by omega) (by omega)
  obtain ⟨k, rfl⟩ : ∃ k', k = k' + 1 := ⟨k - 1, by omega⟩
  obtain ⟨c, eL, hc⟩ := hp_get hS (show 27 < N by omega)
  rw [hG 27 (by omega) (by omega)] at hc
  obtain ⟨L, rfl, hL, hp⟩ := hc
  show Ok (b_X6_back_0 (g_X6_back k) k S 26 0) _
  unfold b_X6_back_0
  rw [if_pos (is6 hN g26 hS)]
  refine ok_bd2 (wk_hand hN hn hG hL hp (m := 1) (zm := 1) rfl (by omega) hS eL (by omega)) (fun _ S2 hQ => ?_)
  obtain ⟨hS2, eL2, K2, eK2, hK2⟩ := hQ
  exact bk1 hN hn hG hL hp 419 k 1 1 S2 K2 (by omega) rfl hS2 eL2 eK2 hK2 (by omega)
