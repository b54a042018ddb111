variable {G : xT} {N : Nat} {n tl : Int} {a b : Bool}
/-- the slips of L from the i-th on, up to n, are those of K -/
def cpd (nn i : Nat) (K L L' : List Int) : Prop := L'.length = 57 ∧ (∀ p, (p < 3 + i ∨ 3 + nn ≤ p) → L'[p]? = L[p]?) ∧ (∀ j, i ≤ j → j < nn → L'[3 + j]? = K[j]?)
theorem tg3_X6_putWay {nn : Nat} (hN : 45 ≤ N) (hn : 2 ≤ nn ∧ nn ≤ 7) {mo : xV → Prop} (g26 : G 26 = o6 tl mo) (g27 : G 27 = tA 0 57 (fun L => L[0]? = some (nn : Int))) {K : List Int} (hK : K.length = 7) : ∀ (k : Nat) (S : xS) (L : List Int) (i : Nat) (z : Int), z = (i : Int) → Hp G N S → S[27]? = some (.inl (0, L)) → S[31]? = some (.inl (0, K)) → i ≤ nn → nn - i + 2 ≤ k → Ok (g_X6_putWay k 3 S 26 z) (fun _ S' => ∃ L', S' = S.set 27 (.inl (0, L')) ∧ cpd nn i K L L') := by
  intro k
  induction k with
  | zero => intro S L i z _ _ _ _ _ h; exfalso; omega
  | succ k ih =>
    intro S L i z hz hS eL eK hi hk
    obtain ⟨c, e, hc⟩ := hp_get hS (show 27 < N by omega)
    rw [g27] at hc
    obtain ⟨L0, rfl, hL, h0⟩ := hc
    rw [eL] at e
    cases e
    have hnEq : f_X6_n k S 26 = some ((nn : Int), S) := by
      obtain ⟨r, S', e, h⟩ : Ok (f_X6_n k S 26) (fun r S' => r = (nn : Int) ∧ S' = S) := by
        unfold f_X6_n
        refine ok_rdFp hS (by omega) g26 rfl ?_
        rw [rdA_at eL (by omega) (by omega), show (0 : Int).toNat = 0 from rfl, h0]
        exact ok_some ⟨rfl, rfl⟩
      rw [e, h.1, h.2]
    show Ok (b_X6_putWay_3 (g_X6_putWay k) k S 26 z) _
    unfold b_X6_putWay_3
    rw [if_pos (is6 hN g26 hS), bd2_some hnEq]
    rw [wIn (n := z) (by omega) (by omega), wIn (n := (nn : Int)) (by omega) (by omega)]
    refine ok_if (fun hc => ?_) (fun hc => ?_)
    · refine ok_some ⟨L, ?_, hL, fun p _ => rfl, fun j h1 h2 => ?_⟩
      · apply List.ext_getElem?
        intro q
        by_cases hq : q = 27
        · subst hq
          rw [set_at eL, eL]
        · rw [List.getElem?_set_ne (by omega)]
      · exfalso; omega
    · refine ok_rdFp hS (by omega) g26 rfl (ok_rdFp hS (by omega) g26 rfl ?_)
      obtain ⟨v, hv⟩ : ∃ v, K[i]? = some v := ⟨_, List.getElem?_eq_getElem (by omega)⟩
      rw [rdA_at eK (by omega) (by omega), show z.toNat = i by omega, hv]
      show Ok ((wrA 0 S 27 (3 + z) v).bind _) _
      rw [wrA_of eL (by omega) (by omega) (by omega), show (3 + z).toNat = 3 + i by omega]
      have hS' : Hp G N (S.set 27 (.inl (0, L.set (3 + i) v))) := hp_set hS (by
        rw [g27]
        exact ⟨_, rfl, by rw [List.length_set]; exact hL, (List.getElem?_set_ne (by omega)).trans h0⟩)
      show Ok (g_X6_putWay k 3 (S.set 27 (.inl (0, L.set (3 + i) v))) 26 (z + 1)) _
      obtain ⟨r, S2, e2, L', e3, q1, q2, q3⟩ := ih (S.set 27 (.inl (0, L.set (3 + i) v))) (L.set (3 + i) v) (i + 1) (z + 1) (by omega) hS' (set_at eL) (by rw [List.getElem?_set_ne (by omega)]; exact eK) (by omega) (by omega)
      refine ⟨r, S2, e2, L', by rw [e3, List.set_set], q1, fun p hp => ?_, fun j j1 j2 => ?_⟩
      · rw [q2 p (by omega), List.getElem?_set_ne (by omega)]
      · by_cases hj : j = i
        · subst hj
          rw [q2 (3 + j) (by omega), List.getElem?_set_self (by omega), hv]
        · exact q3 j (by omega) j2
