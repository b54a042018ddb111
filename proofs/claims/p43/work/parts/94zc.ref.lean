variable {G : xT} {N : Nat} {n tl : Int} {a b : Bool}
/-- a hand that is a way: a permutation of the first nn -/
def hw6 (nn : Nat) (K : List Int) : Prop := K.length = 7 ∧ tR 0 6 K ∧ (∀ j v, j < nn → K[j]? = some v → 0 ≤ v ∧ v < (nn : Int)) ∧ (∀ i j : Nat, i < nn → j < nn → K[i]? = K[j]? → i = j)
theorem set_self6 {S : xS} {q : Nat} {c : xC} (h : S[q]? = some c) : S = S.set q c := by
  apply List.ext_getElem?
  intro p
  by_cases hp : p = q
  · subst hp
    rw [set_at h, h]
  · rw [List.getElem?_set_ne (by omega)]
theorem rdFi_cg {S S' : xS} {ci k p : Nat} (h : S'[p]? = S[p]?) : rdFi ci k S' p = rdFi ci k S p := by
  unfold rdFi rdF
  simp only [lGet_e]
  rw [h]
theorem tg2_X6_putWay {nn : Nat} (hN : 45 ≤ N) (hn : 2 ≤ nn ∧ nn ≤ 7) (hG : ∀ q, 26 ≤ q → q < 45 → G q = R6 (nn : Int) tl a b q) {k : Nat} {S : xS} {L K : List Int} {c x z : Int} (hS : Hp G N S) (eL : S[27]? = some (.inl (0, L))) (hL : L.length = 57) (hp : nw (nn : Int) L) (h46 : L[46]? = some c) (hc : 0 ≤ c ∧ c ≤ 9) (eK : S[31]? = some (.inl (0, K))) (hK : hw6 nn K) (e7 : rdFi 5 7 S 26 = some x) (hx : 0 ≤ x ∧ x < fac (nn : Int)) (hk : 12 ≤ k) : Ok (g_X6_putWay k 2 S 26 z) (fun _ S' => Hp G N S' ∧ ∀ q, q ≠ 27 → S'[q]? = S[q]?) := by
  obtain ⟨k, rfl⟩ : ∃ k', k = k' + 1 := ⟨k - 1, by omega⟩
  have g26 := hG 26 (by omega) (by omega)
  have g27 := hG 27 (by omega) (by omega)
  have h11 := hp.2.2.2.2.2.2.2.2.2.2
  have hn' : 2 ≤ (nn : Int) ∧ (nn : Int) ≤ 7 := by omega
  show Ok (b_X6_putWay_2 (g_X6_putWay k) k S 26 z) _
  unfold b_X6_putWay_2
  refine ok_rdFp hS (by omega) g26 rfl (ok_rdFp hS (by omega) g26 rfl ?_)
  rw [rdA_at eL (by omega) (by omega), show (46 : Int).toNat = 46 from rfl, h46]
  show Ok ((rdFi 5 7 S 26).bind _) _
  rw [e7]
  show Ok ((wrA 0 S 27 (47 + c) x).bind _) _
  rw [wrA_of eL (by omega) (by omega) (by omega)]
  have hw1 : nw (nn : Int) (L.set (47 + c).toNat x) := nw_put hn' hp (by omega) (by omega) (by omega) (by omega) (fun _ => by omega) (fun _ => by omega) (fun _ => by omega) (fun _ _ => by omega) (fun _ => hx)
  have hw2 : nw (nn : Int) ((L.set (47 + c).toNat x).set 46 (c + 1)) := nw_c46 hn' hw1 (by omega) (fun k' v k1 e => by
    rcases set_get e with ⟨_, e⟩ | ⟨h1, e⟩
    · rw [e]; exact hx
    · exact h11 k' c v h46 (by omega) e)
  have hl1 : (L.set (47 + c).toNat x).length = 57 := by rw [List.length_set]; exact hL
  have hS1 : Hp G N (S.set 27 (.inl (0, L.set (47 + c).toNat x))) := hp_set hS (by rw [g27]; exact ⟨_, rfl, hl1, hw1⟩)
  show Ok ((rdFp 5 0 (S.set 27 (.inl (0, L.set (47 + c).toNat x))) 26).bind _) _
  refine ok_rdFp hS1 (by omega) g26 rfl ?_
  rw [rdA_at (set_at eL) (by omega) (by omega), show (46 : Int).toNat = 46 from rfl, List.getElem?_set_ne (by omega), h46]
  show Ok ((wrA 0 _ 27 46 (c + 1)).bind _) _
  rw [wrA_of (set_at eL) (by omega) (by omega) (by rw [hl1]; decide), List.set_set, show (46 : Int).toNat = 46 from rfl]
  show Ok (g_X6_putWay k 3 (S.set 27 (.inl (0, (L.set (47 + c).toNat x).set 46 (c + 1)))) 26 0) _
  have hl2 : ((L.set (47 + c).toNat x).set 46 (c + 1)).length = 57 := by rw [List.length_set]; exact hl1
  generalize (L.set (47 + c).toNat x).set 46 (c + 1) = L2 at hw2 hl2
  obtain ⟨r, S2, e2, L', e3, q1, q2, q3⟩ := tg3_X6_putWay (G := up G 27 (tA 0 57 (fun L => L[0]? = some (nn : Int)))) (tl := tl) (mo := fI 0 7) (N := N) hN hn (by rw [up_ne (by omega)]; exact g26) up_self hK.1 k (S.set 27 (.inl (0, L2))) L2 0 0 rfl (hp_up hS ⟨_, rfl, hl2, hw2.1⟩) (set_at eL) (by rw [List.getElem?_set_ne (by omega)]; exact eK) (by omega) (by omega)
  rw [List.set_set] at e3
  refine ⟨r, S2, e2, ?_, ?_⟩
  · rw [e3]
    refine hp_set hS ?_
    rw [g27]
    exact ⟨_, rfl, q1, nw_slips hn hw2 (fun p hp => q2 p (by omega)) (fun j hj => q3 j (by omega) hj) hK.2.2.1 hK.2.2.2⟩
  · intro q hq
    rw [e3, List.getElem?_set_ne (by omega)]
theorem tf_X6_putWay {nn : Nat} (hN : 45 ≤ N) (hn : 2 ≤ nn ∧ nn ≤ 7) (hG : ∀ q, 26 ≤ q → q < 45 → G q = R6 (nn : Int) tl a b q) {k : Nat} {S : xS} {K : List Int} {x : Int} (hS : Hp G N S) (eK : S[31]? = some (.inl (0, K))) (hK : hw6 nn K) (e7 : rdFi 5 7 S 26 = some x) (hx : 0 ≤ x ∧ x < fac (nn : Int)) (hk : 40 ≤ k) : Ok (f_X6_putWay k S 26) (fun _ S' => Hp G N S' ∧ ∀ q, q ≠ 27 → S'[q]? = S[q]?) := by
  obtain ⟨k, rfl⟩ : ∃ k', k = k' + 1 := ⟨k - 1, by omega⟩
  have g26 := hG 26 (by omega) (by omega)
  have g27 := hG 27 (by omega) (by omega)
  obtain ⟨c, eL, hc⟩ := hp_get hS (show 27 < N by omega)
  rw [g27] at hc
  obtain ⟨L, rfl, hL, hp⟩ := hc
  have hn' : 2 ≤ (nn : Int) ∧ (nn : Int) ≤ 7 := by omega
  obtain ⟨c, h46⟩ : ∃ v, L[46]? = some v := ⟨_, List.getElem?_eq_getElem (by omega)⟩
  have hc := hp.2.2.2.2.2.2.2.2.2.1 c h46
  show Ok (b_X6_putWay_0 (g_X6_putWay k) k S 26 0) _
  unfold b_X6_putWay_0
  refine ok_rdFp hS (by omega) g26 rfl ?_
  rw [rdA_at eL (by omega) (by omega), show (46 : Int).toNat = 46 from rfl, h46]
  show Ok (if wI c = wI 10 then _ else _) _
  rw [wIn (n := c) (by omega) (by omega), wIn (n := 10) (by omega) (by omega)]
  refine ok_if (fun h => ?_) (fun h => ?_)
  · rw [h] at h46
    refine tg1_X6_putWay hN hn' g26 k S L 0 0 rfl hS eL hL hp h46 g27 (by omega) (by omega) (fun k' S' L' k1 k2 a1 a2 a3 a4 a5 a6 => ?_)
    refine ok_mono (tg2_X6_putWay hN hn hG a1 a2 a3 a4 a5 (by omega) (by rw [a6 31 (by omega)]; exact eK) hK (by rw [rdFi_cg (a6 26 (by omega))]; exact e7) hx (by omega)) (fun r S2 hQ => ⟨hQ.1, fun q hq => (hQ.2 q hq).trans (a6 q hq)⟩)
  · exact tg2_X6_putWay hN hn hG hS eL hL hp h46 (by omega) eK hK e7 hx (by omega)
