variable {G : xT} {N : Nat} {n tl : Int} {a b : Bool}
/-- the cells of K from the i-th on, below nn, are those of src; the others stand -/
def cpo (nn i : Nat) (src : Nat → Option Int) (K K' : List Int) : Prop := K'.length = 7 ∧ (∀ p, (p < i ∨ nn ≤ p) → K'[p]? = K[p]?) ∧ (∀ j, i ≤ j → j < nn → K'[j]? = src j)
theorem ok_n7 {nn : Nat} (hN : 45 ≤ N) {mo : xV → Prop} (g26 : G 26 = o6 tl mo) {L : List Int} (h0 : L[0]? = some (nn : Int)) {k : Nat} {S : xS} (hS : Hp G N S) (eL : S[27]? = some (.inl (0, L))) : f_X6_n k S 26 = some ((nn : Int), S) := by
  obtain ⟨r, S', e, h⟩ : Ok (f_X6_n k S 26) (fun r S' => r = (nn : Int) ∧ S' = S) := by
    unfold f_X6_n
    refine ok_rdFp hS (by omega) g26 rfl ?_
    rw [rdA_at eL (by omega) (by omega), show (0 : Int).toNat = 0 from rfl, h0]
    exact ok_some ⟨rfl, rfl⟩
  rw [e, h.1, h.2]
theorem tR_get {lo hi v : Int} {L : List Int} {i : Nat} (h : tR lo hi L) (e : L[i]? = some v) : lo ≤ v ∧ v ≤ hi := h v (List.mem_of_getElem? e)
theorem tg1_X6_takeNow {nn : Nat} (hN : 45 ≤ N) (hn : 2 ≤ nn ∧ nn ≤ 7) {mo : xV → Prop} (g26 : G 26 = o6 tl mo) (g31 : G 31 = tA 0 7 (tR 0 6)) {L : List Int} (hL : L.length = 57) (hp : nw (nn : Int) L) : ∀ (k : Nat) (S : xS) (K : List Int) (i : Nat) (z : Int), z = (i : Int) → Hp G N S → S[27]? = some (.inl (0, L)) → S[31]? = some (.inl (0, K)) → K.length = 7 → tR 0 6 K → i ≤ nn → nn - i + 2 ≤ k → Ok (g_X6_takeNow k 1 S 26 z) (fun _ S' => ∃ K', S' = S.set 31 (.inl (0, K')) ∧ cpo nn i (fun j => L[3 + j]?) K K' ∧ tR 0 6 K') := by
  intro k
  induction k with
  | zero => intro S K i z _ _ _ _ _ _ _ h; exfalso; omega
  | succ k ih =>
    intro S K i z hz hS eL eK hKl hR hi hk
    show Ok (b_X6_takeNow_1 (g_X6_takeNow k) k S 26 z) _
    unfold b_X6_takeNow_1
    rw [if_pos (is6 hN g26 hS), bd2_some (ok_n7 hN g26 hp.1 hS eL)]
    rw [wIn (n := z) (by omega) (by omega), wIn (n := (nn : Int)) (by omega) (by omega)]
    refine ok_if (fun hc => ?_) (fun hc => ?_)
    · exact ok_some ⟨K, set_self6 eK, ⟨hKl, fun p _ => rfl, fun j h1 h2 => by exfalso; omega⟩, hR⟩
    · refine ok_rdFp hS (by omega) g26 rfl (ok_rdFp hS (by omega) g26 rfl ?_)
      obtain ⟨v, hv⟩ : ∃ v, L[3 + i]? = some v := ⟨_, List.getElem?_eq_getElem (by omega)⟩
      rw [rdA_at eL (by omega) (by omega), show (3 + z).toNat = 3 + i by omega, hv]
      have hv6 := hp.2.2.2.1 (3 + i) v (by omega) (by omega) hv
      show Ok ((wrA 0 S 31 z v).bind _) _
      rw [wrA_of eK (by omega) (by omega) (by omega), show z.toNat = i by omega]
      have hR' : tR 0 6 (K.set i v) := tR_set hv6 K hR
      have hl' : (K.set i v).length = 7 := by rw [List.length_set]; exact hKl
      show Ok (g_X6_takeNow k 1 (S.set 31 (.inl (0, K.set i v))) 26 (z + 1)) _
      obtain ⟨r, S2, e2, K', e3, ⟨q1, q2, q3⟩, q4⟩ := ih (S.set 31 (.inl (0, K.set i v))) (K.set i v) (i + 1) (z + 1) (by omega) (hp_set hS (by rw [g31]; exact ⟨_, rfl, hl', hR'⟩)) (by rw [List.getElem?_set_ne (by omega)]; exact eL) (set_at eK) hl' hR' (by omega) (by omega)
      refine ⟨r, S2, e2, K', by rw [e3, List.set_set], ⟨q1, fun p hp => ?_, fun j j1 j2 => ?_⟩, q4⟩
      · rw [q2 p (by omega), List.getElem?_set_ne (by omega)]
      · by_cases hj : j = i
        · subst hj
          rw [q2 j (by omega), List.getElem?_set_self (by omega)]
          exact hv.symm
        · exact q3 j (by omega) j2
/-- the slips of `now` are a permutation: so is the hand that takes them -/
theorem pm_now {nn : Nat} (hn : 2 ≤ nn ∧ nn ≤ 7) {L K K' : List Int} (hp : nw (nn : Int) L) (h : cpo nn 0 (fun j => L[3 + j]?) K K') (hR : tR 0 6 K') : hw6 nn K' := by
  obtain ⟨q1, q2, q3⟩ := h
  refine ⟨q1, hR, fun j v j1 e => ?_, fun i j i1 j1 e => ?_⟩
  · refine ⟨(tR_get hR e).1, ?_⟩
    rw [q3 j (by omega) j1] at e
    exact hp.2.2.2.2.1.2 j v (by omega) e
  · rw [q3 i (by omega) i1, q3 j (by omega) j1] at e
    exact hp.2.2.2.2.1.1 i j (by omega) (by omega) e
theorem tk_now {nn : Nat} (hN : 45 ≤ N) (hn : 2 ≤ nn ∧ nn ≤ 7) (hG : ∀ q, 26 ≤ q → q < 45 → G q = R6 (nn : Int) tl a b q) {k : Nat} {S : xS} (hS : Hp G N S) (hk : 12 ≤ k) : Ok (f_X6_takeNow k S 26) (fun _ S' => Hp G N S' ∧ ∃ K', S' = S.set 31 (.inl (0, K')) ∧ S'[31]? = some (.inl (0, K')) ∧ hw6 nn K' ∧ ∀ (L : List Int), S[27]? = some (.inl (0, L)) → ∀ j, j < nn → K'[j]? = L[3 + j]?) := by
  obtain ⟨k, rfl⟩ : ∃ k', k = k' + 1 := ⟨k - 1, by omega⟩
  have g26 := hG 26 (by omega) (by omega)
  have g27 := hG 27 (by omega) (by omega)
  have g31 := hG 31 (by omega) (by omega)
  obtain ⟨c, eL, hc⟩ := hp_get hS (show 27 < N by omega)
  rw [g27] at hc
  obtain ⟨L, rfl, hL, hp⟩ := hc
  obtain ⟨c, eK, hc⟩ := hp_get hS (show 31 < N by omega)
  rw [g31] at hc
  obtain ⟨K, rfl, hKl, hR⟩ := hc
  obtain ⟨r, S', e, K', e1, e2, e3⟩ := tg1_X6_takeNow hN hn g26 g31 hL hp k S K 0 0 rfl hS eL eK hKl hR (by omega) (by omega)
  refine ⟨r, S', e, ?_, K', e1, by rw [e1]; exact set_at eK, pm_now hn hp e2 e3, fun L' e' j hj => ?_⟩
  · rw [e1]
    exact hp_set hS (by rw [g31]; exact ⟨_, rfl, e2.1, e3⟩)
  · rw [eL] at e'
    cases e'
    exact e2.2.2 j (by omega) hj
theorem wyd_pm {nn : Nat} (hn : 2 ≤ nn ∧ nn ≤ 7) {r : Int} (hr : 0 ≤ r ∧ r < fac (nn : Int)) {K : List Int} (hKl : K.length = 7) (hR : tR 0 6 K) : hw6 nn (wy nn r ++ K.drop nn) := by
  obtain ⟨w1, w2, w3⟩ := wy_s hn hr
  have hget : ∀ j, j < nn → (wy nn r ++ K.drop nn)[j]? = (wy nn r)[j]? := fun j hj => List.getElem?_append_left (by omega)
  refine ⟨by rw [List.length_append, List.length_drop, w1]; omega, fun x hx => ?_, fun j v j1 e => ?_, fun i j i1 j1 e => ?_⟩
  · rcases List.mem_append.mp hx with h | h
    · have := w2 x h
      omega
    · exact hR x (List.mem_of_mem_drop h)
  · rw [hget j j1] at e
    exact w2 v (List.mem_of_getElem? e)
  · rw [hget i i1, hget j j1] at e
    exact w3 i j i1 j1 e
theorem tk_rank {nn : Nat} (hN : 45 ≤ N) (hn : 2 ≤ nn ∧ nn ≤ 7) (hG : ∀ q, 26 ≤ q → q < 45 → G q = R6 (nn : Int) tl a b q) {k : Nat} {S : xS} {x : Int} (hS : Hp G N S) (hx : 0 ≤ x ∧ x < fac (nn : Int)) (hk : 230 ≤ k) : Ok (f_X6_takeRank k S 26 x) (fun _ S' => Hp G N S' ∧ ∃ K', S' = S.set 31 (.inl (0, K')) ∧ S'[31]? = some (.inl (0, K')) ∧ hw6 nn K' ∧ ∀ j, j < nn → K'[j]? = (wy nn x)[j]?) := by
  have g26 := hG 26 (by omega) (by omega)
  have g27 := hG 27 (by omega) (by omega)
  have g31 := hG 31 (by omega) (by omega)
  obtain ⟨c, eK, hc⟩ := hp_get hS (show 31 < N by omega)
  rw [g31] at hc
  obtain ⟨K, rfl, hKl, hR⟩ := hc
  have h := wyd_pm hn hx hKl hR
  have w1 := (wy_s hn hx).1
  refine ⟨0, _, tk_eq hN hn g26 g27 g31 hS eK hKl hx hk, ?_, _, rfl, set_at eK, h, fun j hj => List.getElem?_append_left (by omega)⟩
  exact hp_set hS (by rw [g31]; exact ⟨_, rfl, h.1, h.2.1⟩)
