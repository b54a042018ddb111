variable {G : xT} {N : Nat} {n tl : Int} {a b : Bool}
/-- the past is full: putWay drops its oldest -/
theorem tg1_X6_putWay (hN : 45 ≤ N) (hn : 2 ≤ n ∧ n ≤ 7) {mo : xV → Prop} (g26 : G 26 = o6 tl mo) {Q : Int → xS → Prop} : ∀ (k : Nat) (S : xS) (L : List Int) (i : Nat) (z : Int), z = (i : Int) → Hp G N S → S[27]? = some (.inl (0, L)) → L.length = 57 → nw n L → L[46]? = some 10 → G 27 = tA 0 57 (nw n) → i ≤ 9 → 9 - i + 2 ≤ k → (∀ k' S' L', k + i ≤ k' + 11 → k' < k → Hp G N S' → S'[27]? = some (.inl (0, L')) → L'.length = 57 → nw n L' → L'[46]? = some 9 → (∀ q, q ≠ 27 → S'[q]? = S[q]?) → Ok (g_X6_putWay k' 2 S' 26 0) Q) → Ok (g_X6_putWay k 1 S 26 z) Q := by
  intro k
  induction k with
  | zero => intro S L i z _ _ _ _ _ _ _ _ h; exfalso; omega
  | succ k ih =>
    intro S L i z hz hS eL hL hp h46 hG hi hk hf
    have h11 := hp.2.2.2.2.2.2.2.2.2.2
    show Ok (b_X6_putWay_1 (g_X6_putWay k) k S 26 z) _
    unfold b_X6_putWay_1
    rw [wIn (n := z) (by omega) (by omega), wIn (n := 9) (by omega) (by omega)]
    refine ok_if (fun hc => ?_) (fun hc => ?_)
    · refine ok_rdFp hS (by omega) g26 rfl ?_
      rw [wrA_of eL (by omega) (by omega) (by rw [hL]; decide), show (46 : Int).toNat = 46 from rfl]
      have hw : nw n (L.set 46 9) := nw_c46 hn hp (by omega) (fun k' v k1 e => h11 k' 10 v h46 (by omega) e)
      have hl : (L.set 46 9).length = 57 := by rw [List.length_set]; exact hL
      show Ok (g_X6_putWay k 2 (S.set 27 (.inl (0, L.set 46 9))) 26 0) Q
      exact hf k _ _ (by omega) (by omega) (hp_set hS (by rw [hG]; exact ⟨_, rfl, hl, hw⟩)) (set_at eL) hl hw (List.getElem?_set_self (by omega)) (fun q hq => List.getElem?_set_ne (by omega))
    · refine ok_rdFp hS (by omega) g26 rfl (ok_rdFp hS (by omega) g26 rfl ?_)
      obtain ⟨v, hv⟩ : ∃ v, L[47 + (i + 1)]? = some v := ⟨_, List.getElem?_eq_getElem (by omega)⟩
      rw [rdA_at eL (by omega) (by omega), show ((47 + z) + 1).toNat = 47 + (i + 1) by omega, hv]
      show Ok ((wrA 0 S 27 (47 + z) v).bind _) _
      rw [wrA_of eL (by omega) (by omega) (by omega), show (47 + z).toNat = 47 + i by omega]
      have hr := h11 (i + 1) 10 v h46 (by omega) hv
      have hw : nw n (L.set (47 + i) v) := nw_put hn hp (by omega) (by omega) (by omega) (by omega) (fun _ => by omega) (fun _ => by omega) (fun _ => by omega) (fun _ _ => by omega) (fun _ => hr)
      have hl : (L.set (47 + i) v).length = 57 := by rw [List.length_set]; exact hL
      show Ok (g_X6_putWay k 1 (S.set 27 (.inl (0, L.set (47 + i) v))) 26 (z + 1)) _
      refine ih _ _ (i + 1) (z + 1) (by omega) (hp_set hS (by rw [hG]; exact ⟨_, rfl, hl, hw⟩)) (set_at eL) hl hw ((List.getElem?_set_ne (by omega)).trans h46) hG (by omega) (by omega) (fun k' S' L' k1 k2 a1 a2 a3 a4 a5 a6 => ?_)
      exact hf k' S' L' (by omega) (by omega) a1 a2 a3 a4 a5 (fun q hq => (a6 q hq).trans (List.getElem?_set_ne (by omega)))
