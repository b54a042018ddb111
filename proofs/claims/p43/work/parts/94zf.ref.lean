variable {G : xT} {N : Nat} {n tl : Int} {a b : Bool}
/-- a one-to-one map of the first n into themselves reaches each -/
theorem pig : ∀ (n : Nat) (f : Nat → Nat), (∀ i, i < n → f i < n) → (∀ i j, i < n → j < n → f i = f j → i = j) → ∀ p, p < n → ∃ i, i < n ∧ f i = p := by
  intro n
  induction n with
  | zero => intro f _ _ p hp; exfalso; omega
  | succ n ih =>
    intro f h1 h2 p hp
    by_cases hx : ∃ i, i < n ∧ f i = n
    · obtain ⟨i0, hi0, e0⟩ := hx
      have hfn : f n < n := by
        have := h1 n (by omega)
        have h3 : f n ≠ n := fun e => by
          have := h2 i0 n (by omega) (by omega) (by rw [e0, e])
          omega
        omega
      by_cases hpn : p = n
      · exact ⟨i0, by omega, by rw [e0, hpn]⟩
      · obtain ⟨i, hi, e⟩ := ih (fun i => if f i = n then f n else f i) (fun i hi => by
          have := h1 i (by omega)
          show (if f i = n then f n else f i) < n
          split
          · exact hfn
          · omega) (fun i j hi hj e => by
          have e : (if f i = n then f n else f i) = (if f j = n then f n else f j) := e
          split at e <;> split at e
          · exact h2 i j (by omega) (by omega) (by omega)
          · have := h2 n j (by omega) (by omega) e
            omega
          · have := h2 i n (by omega) (by omega) e
            omega
          · exact h2 i j (by omega) (by omega) e) p (by omega)
        have e : (if f i = n then f n else f i) = p := e
        split at e
        · exact ⟨n, by omega, e⟩
        · exact ⟨i, by omega, e⟩
    · have hlt : ∀ i, i < n → f i < n := fun i hi => by
        have := h1 i (by omega)
        have h3 : f i ≠ n := fun e => hx ⟨i, hi, e⟩
        omega
      have hs := ih f hlt (fun i j hi hj e => h2 i j (by omega) (by omega) e)
      have hfn : f n = n := by
        have := h1 n (by omega)
        by_cases c : f n = n
        · exact c
        · obtain ⟨i, hi, e⟩ := hs (f n) (by omega)
          have := h2 i n (by omega) (by omega) e
          omega
      by_cases hpn : p = n
      · exact ⟨n, by omega, by rw [hfn, hpn]⟩
      · obtain ⟨i, hi, e⟩ := hs p (by omega)
        exact ⟨i, by omega, e⟩
theorem pm_get {nn : Nat} {K : List Int} (hn : nn ≤ 7) (h : hw6 nn K) {j : Nat} (hj : j < nn) : ∃ w : Nat, K[j]? = some (w : Int) ∧ w < nn := by
  have hl := h.1
  obtain ⟨v, hv⟩ : ∃ v, K[j]? = some v := ⟨_, List.getElem?_eq_getElem (by omega)⟩
  have hr := h.2.2.1 j v hj hv
  exact ⟨v.toNat, by rw [hv, show v = (v.toNat : Int) by omega, Int.toNat_natCast], by omega⟩
theorem pm_sur {nn : Nat} {K : List Int} (hn : nn ≤ 7) (h : hw6 nn K) {p : Nat} (hp : p < nn) : ∃ j, j < nn ∧ K[j]? = some (p : Int) := by
  obtain ⟨i, hi, e⟩ := pig nn (fun i => (K[i]?.getD 0).toNat) (fun i hi => by
    obtain ⟨w, e, hw⟩ := pm_get hn h hi
    show (K[i]?.getD 0).toNat < nn
    rw [e]
    exact hw) (fun i j hi hj e => by
    obtain ⟨w, e1, _⟩ := pm_get hn h hi
    obtain ⟨w', e2, _⟩ := pm_get hn h hj
    have e : (K[i]?.getD 0).toNat = (K[j]?.getD 0).toNat := e
    rw [e1, e2] at e
    have e : w = w' := e
    exact h.2.2.2 i j hi hj (by rw [e1, e2, e])) p hp
  obtain ⟨w, e1, _⟩ := pm_get hn h hi
  have e : (K[i]?.getD 0).toNat = p := e
  rw [e1] at e
  have e : w = p := e
  exact ⟨i, hi, by rw [e1, e]⟩
/-- V laid through W: again a way -/
theorem pm_mul {nn : Nat} {K' W V : List Int} (hn : nn ≤ 7) (hW : hw6 nn W) (hV : hw6 nn V) (h1 : K'.length = 7) (h2 : tR 0 6 K') (h : ∀ (j w : Nat), j < nn → W[j]? = some (w : Int) → K'[w]? = V[j]?) : hw6 nn K' := by
  refine ⟨h1, h2, fun p v hp e => ?_, fun p q hp hq e => ?_⟩
  · obtain ⟨j, hj, ej⟩ := pm_sur hn hW hp
    rw [h j p hj ej] at e
    exact hV.2.2.1 j v hj e
  · obtain ⟨i, hi, ei⟩ := pm_sur hn hW hp
    obtain ⟨j, hj, ej⟩ := pm_sur hn hW hq
    rw [h i p hi ei, h j q hj ej] at e
    have := hV.2.2.2 i j hi hj e
    subst this
    rw [ei] at ej
    have := Option.some.inj ej
    omega
theorem mh1 {nn : Nat} (hN : 45 ≤ N) (hn : 2 ≤ nn ∧ nn ≤ 7) (hG : ∀ q, 26 ≤ q → q < 45 → G q = R6 (nn : Int) tl a b q) {L K : List Int} (hp : nw (nn : Int) L) (hK : hw6 nn K) {m : Int} {Q : Int → xS → Prop} : ∀ (d k : Nat) (S : xS) (X : List Int) (i : Nat) (z : Int), i + d = nn → z = (i : Int) → Hp G N S → S[27]? = some (.inl (0, L)) → S[31]? = some (.inl (0, K)) → S[34]? = some (.inl (0, X)) → X.length = 7 → tR 0 6 X → (∀ X', Hp G N (S.set 34 (.inl (0, X'))) → cpo nn i (fun j => K[j]?) X X' → tR 0 6 X' → Ok (g_X6_makeHand k 1 (S.set 34 (.inl (0, X'))) 26 m (nn : Int)) Q) → Ok (g_X6_makeHand (k + d) 1 S 26 m z) Q := by
  have g26 := hG 26 (by omega) (by omega)
  have g34 := hG 34 (by omega) (by omega)
  intro d
  induction d with
  | zero =>
    intro k S X i z hi hz hS eL eK eX hXl hR hf
    have h := hf X (by rw [← set_self6 eX]; exact hS) ⟨hXl, fun p _ => rfl, fun j h1 h2 => by exfalso; omega⟩ hR
    rw [← set_self6 eX] at h
    rw [show z = (nn : Int) by omega]
    exact h
  | succ d ih =>
    intro k S X i z hi hz hS eL eK eX hXl hR hf
    have hKl := hK.1
    show Ok (b_X6_makeHand_1 (g_X6_makeHand (k + d)) (k + d) S 26 m z) _
    unfold b_X6_makeHand_1
    rw [if_pos (is6 hN g26 hS), bd2_some (ok_n7 hN g26 hp.1 hS eL)]
    rw [wIn (n := z) (by omega) (by omega), wIn (n := (nn : Int)) (by omega) (by omega)]
    refine ok_if (fun hc => by exfalso; omega) (fun _ => ?_)
    refine ok_rdFp hS (by omega) g26 rfl (ok_rdFp hS (by omega) g26 rfl ?_)
    obtain ⟨v, hv⟩ : ∃ v, K[i]? = some v := ⟨_, List.getElem?_eq_getElem (by omega)⟩
    rw [rdA_at eK (by omega) (by omega), show z.toNat = i by omega, hv]
    have hv6 := tR_get hK.2.1 hv
    show Ok ((wrA 0 S 34 z v).bind _) _
    rw [wrA_of eX (by omega) (by omega) (by omega), show z.toNat = i by omega]
    have hR' : tR 0 6 (X.set i v) := tR_set hv6 X hR
    have hl' : (X.set i v).length = 7 := by rw [List.length_set]; exact hXl
    show Ok (g_X6_makeHand (k + d) 1 (S.set 34 (.inl (0, X.set i v))) 26 m (z + 1)) _
    refine ih k (S.set 34 (.inl (0, X.set i v))) (X.set i v) (i + 1) (z + 1) (by omega) (by omega) (hp_set hS (by rw [g34]; exact ⟨_, rfl, hl', hR'⟩)) (by rw [List.getElem?_set_ne (by omega)]; exact eL) (by rw [List.getElem?_set_ne (by omega)]; exact eK) (set_at eX) hl' hR' (fun X' hS' hX' hR2 => ?_)
    rw [List.set_set] at hS' ⊢
    obtain ⟨q1, q2, q3⟩ := hX'
    refine hf X' hS' ⟨q1, fun p hp => ?_, fun j j1 j2 => ?_⟩ hR2
    · rw [q2 p (by omega), List.getElem?_set_ne (by omega)]
    · by_cases hj : j = i
      · subst hj
        rw [q2 j (by omega), List.getElem?_set_self (by omega)]
        exact hv.symm
      · exact q3 j (by omega) j2
theorem mh2 {nn : Nat} (hN : 45 ≤ N) (hn : 2 ≤ nn ∧ nn ≤ 7) (hG : ∀ q, 26 ≤ q → q < 45 → G q = R6 (nn : Int) tl a b q) {L K : List Int} (hp : nw (nn : Int) L) (hK : hw6 nn K) {Q : Int → xS → Prop} : ∀ (d k : Nat) (S : xS) (X : List Int) (i : Nat) (z : Int), i + d = nn → z = (i : Int) → Hp G N S → S[27]? = some (.inl (0, L)) → S[31]? = some (.inl (0, K)) → S[33]? = some (.inl (0, X)) → X.length = 7 → tR 0 6 X → (∀ X', Hp G N (S.set 33 (.inl (0, X'))) → cpo nn i (fun j => K[j]?) X X' → tR 0 6 X' → Ok (g_X6_makeHand k 2 (S.set 33 (.inl (0, X'))) 26 (nn : Int) 0) Q) → Ok (g_X6_makeHand (k + d) 2 S 26 z 0) Q := by
  have g26 := hG 26 (by omega) (by omega)
  have g33 := hG 33 (by omega) (by omega)
  intro d
  induction d with
  | zero =>
    intro k S X i z hi hz hS eL eK eX hXl hR hf
    have h := hf X (by rw [← set_self6 eX]; exact hS) ⟨hXl, fun p _ => rfl, fun j h1 h2 => by exfalso; omega⟩ hR
    rw [← set_self6 eX] at h
    rw [show z = (nn : Int) by omega]
    exact h
  | succ d ih =>
    intro k S X i z hi hz hS eL eK eX hXl hR hf
    have hKl := hK.1
    show Ok (b_X6_makeHand_2 (g_X6_makeHand (k + d)) (k + d) S 26 z 0) _
    unfold b_X6_makeHand_2
    rw [if_pos (is6 hN g26 hS), bd2_some (ok_n7 hN g26 hp.1 hS eL)]
    rw [wIn (n := z) (by omega) (by omega), wIn (n := (nn : Int)) (by omega) (by omega)]
    refine ok_if (fun hc => by exfalso; omega) (fun _ => ?_)
    refine ok_rdFp hS (by omega) g26 rfl (ok_rdFp hS (by omega) g26 rfl ?_)
    obtain ⟨v, hv⟩ : ∃ v, K[i]? = some v := ⟨_, List.getElem?_eq_getElem (by omega)⟩
    rw [rdA_at eK (by omega) (by omega), show z.toNat = i by omega, hv]
    have hv6 := tR_get hK.2.1 hv
    show Ok ((wrA 0 S 33 z v).bind _) _
    rw [wrA_of eX (by omega) (by omega) (by omega), show z.toNat = i by omega]
    have hR' : tR 0 6 (X.set i v) := tR_set hv6 X hR
    have hl' : (X.set i v).length = 7 := by rw [List.length_set]; exact hXl
    show Ok (g_X6_makeHand (k + d) 2 (S.set 33 (.inl (0, X.set i v))) 26 (z + 1) 0) _
    refine ih k (S.set 33 (.inl (0, X.set i v))) (X.set i v) (i + 1) (z + 1) (by omega) (by omega) (hp_set hS (by rw [g33]; exact ⟨_, rfl, hl', hR'⟩)) (by rw [List.getElem?_set_ne (by omega)]; exact eL) (by rw [List.getElem?_set_ne (by omega)]; exact eK) (set_at eX) hl' hR' (fun X' hS' hX' hR2 => ?_)
    rw [List.set_set] at hS' ⊢
    obtain ⟨q1, q2, q3⟩ := hX'
    refine hf X' hS' ⟨q1, fun p hp => ?_, fun j j1 j2 => ?_⟩ hR2
    · rw [q2 p (by omega), List.getElem?_set_ne (by omega)]
    · by_cases hj : j = i
      · subst hj
        rw [q2 j (by omega), List.getElem?_set_self (by omega)]
        exact hv.symm
      · exact q3 j (by omega) j2
theorem mh3 {nn : Nat} (hN : 45 ≤ N) (hn : 2 ≤ nn ∧ nn ≤ 7) (hG : ∀ q, 26 ≤ q → q < 45 → G q = R6 (nn : Int) tl a b q) {L W V : List Int} (hp : nw (nn : Int) L) (hW : hw6 nn W) (hV : hw6 nn V) : ∀ (d k : Nat) (S : xS) (K : List Int) (i : Nat) (z : Int), i + d = nn → z = (i : Int) → Hp G N S → S[27]? = some (.inl (0, L)) → S[33]? = some (.inl (0, W)) → S[34]? = some (.inl (0, V)) → S[31]? = some (.inl (0, K)) → K.length = 7 → tR 0 6 K → (∀ (j w : Nat), j < i → W[j]? = some (w : Int) → K[w]? = V[j]?) → Ok (g_X6_makeHand (k + d + 1) 3 S 26 z 0) (fun _ S' => ∃ K', S' = S.set 31 (.inl (0, K')) ∧ K'.length = 7 ∧ tR 0 6 K' ∧ ∀ (j w : Nat), j < nn → W[j]? = some (w : Int) → K'[w]? = V[j]?) := by
  have g26 := hG 26 (by omega) (by omega)
  have g31 := hG 31 (by omega) (by omega)
  intro d
  induction d with
  | zero =>
    intro k S K i z hi hz hS eL eW eV eK hKl hR hI
    show Ok (b_X6_makeHand_3 (g_X6_makeHand k) k S 26 z 0) _
    unfold b_X6_makeHand_3
    rw [if_pos (is6 hN g26 hS), bd2_some (ok_n7 hN g26 hp.1 hS eL)]
    rw [wIn (n := z) (by omega) (by omega), wIn (n := (nn : Int)) (by omega) (by omega)]
    rw [if_pos (by omega)]
    exact ok_some ⟨K, set_self6 eK, hKl, hR, fun j w hj e => hI j w (by omega) e⟩
  | succ d ih =>
    intro k S K i z hi hz hS eL eW eV eK hKl hR hI
    have hVl := hV.1
    show Ok (b_X6_makeHand_3 (g_X6_makeHand (k + d + 1)) (k + d + 1) S 26 z 0) _
    unfold b_X6_makeHand_3
    rw [if_pos (is6 hN g26 hS), bd2_some (ok_n7 hN g26 hp.1 hS eL)]
    rw [wIn (n := z) (by omega) (by omega), wIn (n := (nn : Int)) (by omega) (by omega)]
    refine ok_if (fun hc => by exfalso; omega) (fun _ => ?_)
    obtain ⟨w, hw, hwn⟩ := pm_get hn.2 hW (show i < nn by omega)
    obtain ⟨v, hv⟩ : ∃ v, V[i]? = some v := ⟨_, List.getElem?_eq_getElem (by omega)⟩
    refine ok_rdFp hS (by omega) g26 rfl (ok_rdFp hS (by omega) g26 rfl ?_)
    rw [rdA_at eW (by omega) (by omega), show z.toNat = i by omega, hw]
    show Ok ((rdFp 5 13 S 26).bind _) _
    refine ok_rdFp hS (by omega) g26 rfl ?_
    rw [rdA_at eV (by omega) (by omega), show z.toNat = i by omega, hv]
    show Ok ((wrA 0 S 31 (w : Int) v).bind _) _
    rw [wrA_of eK (by omega) (by omega) (by omega), Int.toNat_natCast]
    have hR' : tR 0 6 (K.set w v) := tR_set (tR_get hV.2.1 hv) K hR
    have hl' : (K.set w v).length = 7 := by rw [List.length_set]; exact hKl
    show Ok (g_X6_makeHand (k + d + 1) 3 (S.set 31 (.inl (0, K.set w v))) 26 (z + 1) 0) _
    obtain ⟨r, S2, e2, K', e3, q1, q2, q3⟩ := ih k (S.set 31 (.inl (0, K.set w v))) (K.set w v) (i + 1) (z + 1) (by omega) (by omega) (hp_set hS (by rw [g31]; exact ⟨_, rfl, hl', hR'⟩)) (by rw [List.getElem?_set_ne (by omega)]; exact eL) (by rw [List.getElem?_set_ne (by omega)]; exact eW) (by rw [List.getElem?_set_ne (by omega)]; exact eV) (set_at eK) hl' hR' (fun j w' hj e => by
      by_cases hji : j = i
      · subst hji
        rw [hw] at e
        have : w' = w := by have := Option.some.inj e; omega
        subst this
        rw [List.getElem?_set_self (by omega), hv]
      · have hne : w ≠ w' := fun h => by
          subst h
          exact hji (hW.2.2.2 j i (by omega) (by omega) (by rw [e, hw]))
        rw [List.getElem?_set_ne hne]
        exact hI j w' (by omega) e)
    exact ⟨r, S2, e2, K', by rw [e3, List.set_set], q1, q2, q3⟩
theorem mk_hand {nn : Nat} (hN : 45 ≤ N) (hn : 2 ≤ nn ∧ nn ≤ 7) (hG : ∀ q, 26 ≤ q → q < 45 → G q = R6 (nn : Int) tl a b q) {k : Nat} {S : xS} {L K : List Int} {m x : Int} (hS : Hp G N S) (eL : S[27]? = some (.inl (0, L))) (hp : nw (nn : Int) L) (eK : S[31]? = some (.inl (0, K))) (hK : hw6 nn K) (hm : 0 ≤ m ∧ m < 4) (hx : L[(42 + m).toNat]? = some x) (hr : 0 ≤ x ∧ x < fac (nn : Int)) (hk : 260 ≤ k) : Ok (f_X6_makeHand k S 26 m) (fun _ S' => Hp G N S' ∧ (∀ q, q ≠ 31 → q ≠ 33 → q ≠ 34 → S'[q]? = S[q]?) ∧ ∃ K', S'[31]? = some (.inl (0, K')) ∧ hw6 nn K' ∧ ∀ (j w : Nat), j < nn → (wy nn x)[j]? = some (w : Int) → K'[w]? = K[j]?) := by
  have g26 := hG 26 (by omega) (by omega)
  have g31 := hG 31 (by omega) (by omega)
  obtain ⟨c, eX, hc⟩ := hp_get hS (show 34 < N by omega)
  rw [hG 34 (by omega) (by omega)] at hc
  obtain ⟨X, rfl, hXl, hXR⟩ := hc
  obtain ⟨k1, rfl⟩ : ∃ k', k = (k' + 1) + nn + 1 := ⟨k - nn - 2, by omega⟩
  show Ok (g_X6_makeHand ((k1 + 1) + nn) 1 S 26 m 0) _
  refine mh1 hN hn hG hp hK nn (k1 + 1) S X 0 0 (by omega) rfl hS eL eK eX hXl hXR (fun V hS1 hV hVR => ?_)
  have eL1 : (S.set 34 (.inl (0, V)))[27]? = some (.inl (0, L)) := by rw [List.getElem?_set_ne (by omega)]; exact eL
  have hVK : ∀ j, j < nn → V[j]? = K[j]? := fun j hj => hV.2.2 j (by omega) hj
  have hVp : hw6 nn V := ⟨hV.1, hVR, fun j v hj e => hK.2.2.1 j v hj (by rw [← hVK j hj]; exact e), fun i j hi hj e => hK.2.2.2 i j hi hj (by rw [← hVK i hi, ← hVK j hj]; exact e)⟩
  show Ok (b_X6_makeHand_1 (g_X6_makeHand k1) k1 (S.set 34 (.inl (0, V))) 26 m (nn : Int)) _
  unfold b_X6_makeHand_1
  rw [if_pos (is6 hN g26 hS1), bd2_some (ok_n7 hN g26 hp.1 hS1 eL1), if_pos (by omega)]
  refine ok_rdFp hS1 (by omega) g26 rfl ?_
  rw [rdA_at eL1 (by omega) (by omega), hx]
  show Ok (if isO 5 _ 26 = true then _ else _) _
  rw [if_pos (is6 hN g26 hS1)]
  refine ok_bd2 (tk_rank hN hn hG hS1 hr (by omega)) (fun _ S2 hQ => ?_)
  obtain ⟨hS2, K2, e2, eK2, hK2, hw⟩ := hQ
  have st2 : ∀ q, q ≠ 31 → q ≠ 34 → S2[q]? = S[q]? := fun q q1 q2 => by rw [e2, List.getElem?_set_ne (by omega), List.getElem?_set_ne (by omega)]
  have eV2 : S2[34]? = some (.inl (0, V)) := by rw [e2, List.getElem?_set_ne (by omega)]; exact set_at eX
  obtain ⟨c, eY, hc⟩ := hp_get hS2 (show 33 < N by omega)
  rw [hG 33 (by omega) (by omega)] at hc
  obtain ⟨Y, rfl, hYl, hYR⟩ := hc
  obtain ⟨k2, rfl⟩ : ∃ k', k1 = (k' + nn + 1 + 1) + nn := ⟨k1 - nn - nn - 2, by omega⟩
  refine mh2 hN hn hG hp hK2 nn (k2 + nn + 1 + 1) S2 Y 0 0 (by omega) rfl hS2 (by rw [st2 27 (by omega) (by omega)]; exact eL) eK2 eY hYl hYR (fun W hS3 hW hWR => ?_)
  have hWK : ∀ j, j < nn → W[j]? = K2[j]? := fun j hj => hW.2.2 j (by omega) hj
  have hWp : hw6 nn W := ⟨hW.1, hWR, fun j v hj e => hK2.2.2.1 j v hj (by rw [← hWK j hj]; exact e), fun i j hi hj e => hK2.2.2.2 i j hi hj (by rw [← hWK i hi, ← hWK j hj]; exact e)⟩
  have eL3 : (S2.set 33 (.inl (0, W)))[27]? = some (.inl (0, L)) := by rw [List.getElem?_set_ne (by omega), st2 27 (by omega) (by omega)]; exact eL
  show Ok (b_X6_makeHand_2 (g_X6_makeHand (k2 + nn + 1)) (k2 + nn + 1) (S2.set 33 (.inl (0, W))) 26 (nn : Int) 0) _
  unfold b_X6_makeHand_2
  rw [if_pos (is6 hN g26 hS3), bd2_some (ok_n7 hN g26 hp.1 hS3 eL3), if_pos (by omega)]
  refine ok_mono (mh3 hN hn hG hp hWp hVp nn k2 (S2.set 33 (.inl (0, W))) K2 0 0 (by omega) rfl hS3 eL3 (set_at eY) (by rw [List.getElem?_set_ne (by omega)]; exact eV2) (by rw [List.getElem?_set_ne (by omega)]; exact eK2) hK2.1 hK2.2.1 (fun j w hj _ => by exfalso; omega)) (fun r S' hQ => ?_)
  obtain ⟨K', e, q1, q2, q3⟩ := hQ
  refine ⟨?_, fun q h1 h2 h3 => ?_, K', ?_, pm_mul hn.2 hWp hVp q1 q2 q3, fun j w hj ew => ?_⟩
  · rw [e]
    exact hp_set hS3 (by rw [g31]; exact ⟨_, rfl, q1, q2⟩)
  · rw [e, List.getElem?_set_ne (by omega), List.getElem?_set_ne (by omega)]
    exact st2 q h1 h3
  · rw [e]
    exact set_at (by rw [List.getElem?_set_ne (by omega)]; exact eK2)
  · rw [q3 j w hj (by rw [hWK j hj, hw j hj]; exact ew), hVK j hj]
