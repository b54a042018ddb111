variable {G : xT} {N : Nat} {n tl : Int} {a b : Bool}
theorem nw_c41 (hn : 2 ≤ n ∧ n ≤ 7) {L : List Int} {x : Int} (h : nw n L) (hx : 0 ≤ x ∧ x ≤ 4) (hv : ∀ (k : Nat) v, (k : Int) < x → L[42 + k]? = some v → 0 ≤ v ∧ v < fac n) : nw n (L.set 41 x) := by
  obtain ⟨h0, h1, h2, h3, ⟨h4, h5⟩, h6, h7, h8, h9, h10, h11⟩ := h
  refine ⟨?_, ?_, ?_, ?_, ⟨?_, ?_⟩, ?_, ?_, ?_, ?_, ?_, ?_⟩
  · rw [List.getElem?_set_ne (by omega)]; exact h0
  · rw [List.getElem?_set_ne (by omega)]; exact h1
  · rw [List.getElem?_set_ne (by omega)]; exact h2
  · intro j v j1 j2 e
    rw [List.getElem?_set_ne (by omega)] at e
    exact h3 j v j1 j2 e
  · intro i' j' i1 j1 e
    rw [List.getElem?_set_ne (by omega), List.getElem?_set_ne (by omega)] at e
    exact h4 i' j' i1 j1 e
  · intro i' v i1 e
    rw [List.getElem?_set_ne (by omega)] at e
    exact h5 i' v i1 e
  · rw [List.getElem?_set_ne (by omega)]; exact h6
  · intro k v k1 e
    rw [List.getElem?_set_ne (by omega)] at e
    exact h7 k v k1 e
  · intro v e
    rcases set_get e with ⟨_, rfl⟩ | ⟨p, _⟩
    · exact hx
    · exact absurd rfl p
  · intro k m v e1 k1 e
    rcases set_get e1 with ⟨_, rfl⟩ | ⟨p, _⟩
    · rw [List.getElem?_set_ne (by omega)] at e
      exact hv k v k1 e
    · exact absurd rfl p
  · rw [List.getElem?_set_ne (by omega)]; exact h10
  · intro k m v e1 k1 e
    rw [List.getElem?_set_ne (by omega)] at e1
    rw [List.getElem?_set_ne (by omega)] at e
    exact h11 k m v e1 k1 e

theorem nw_c46 (hn : 2 ≤ n ∧ n ≤ 7) {L : List Int} {x : Int} (h : nw n L) (hx : 0 ≤ x ∧ x ≤ 10) (hv : ∀ (k : Nat) v, (k : Int) < x → L[47 + k]? = some v → 0 ≤ v ∧ v < fac n) : nw n (L.set 46 x) := by
  obtain ⟨h0, h1, h2, h3, ⟨h4, h5⟩, h6, h7, h8, h9, h10, h11⟩ := h
  refine ⟨?_, ?_, ?_, ?_, ⟨?_, ?_⟩, ?_, ?_, ?_, ?_, ?_, ?_⟩
  · rw [List.getElem?_set_ne (by omega)]; exact h0
  · rw [List.getElem?_set_ne (by omega)]; exact h1
  · rw [List.getElem?_set_ne (by omega)]; exact h2
  · intro j v j1 j2 e
    rw [List.getElem?_set_ne (by omega)] at e
    exact h3 j v j1 j2 e
  · intro i' j' i1 j1 e
    rw [List.getElem?_set_ne (by omega), List.getElem?_set_ne (by omega)] at e
    exact h4 i' j' i1 j1 e
  · intro i' v i1 e
    rw [List.getElem?_set_ne (by omega)] at e
    exact h5 i' v i1 e
  · rw [List.getElem?_set_ne (by omega)]; exact h6
  · intro k v k1 e
    rw [List.getElem?_set_ne (by omega)] at e
    exact h7 k v k1 e
  · rw [List.getElem?_set_ne (by omega)]; exact h8
  · intro k m v e1 k1 e
    rw [List.getElem?_set_ne (by omega)] at e1
    have := h8 m e1
    rw [List.getElem?_set_ne (by omega)] at e
    exact h9 k m v e1 k1 e
  · intro v e
    rcases set_get e with ⟨_, rfl⟩ | ⟨p, _⟩
    · exact hx
    · exact absurd rfl p
  · intro k m v e1 k1 e
    rcases set_get e1 with ⟨_, rfl⟩ | ⟨p, _⟩
    · rw [List.getElem?_set_ne (by omega)] at e
      exact hv k v k1 e
    · exact absurd rfl p

theorem ok_drop (hn : 2 ≤ n ∧ n ≤ 7) {tl : Int} {mo : xV → Prop} {S : xS} {A : Option (Int × xS)} {f : xS → Option (Int × xS)} {Q : Int → xS → Prop} (hN : 45 ≤ N) (hS : Hp G N S) (h26 : G 26 = o6 tl mo) (hG : G 27 = tA 0 57 (nw n)) (h0 : Ok A Q) (hf : ∀ S', Hp G N S' → Ok (f S') Q) : Ok ((rdA 0 S 27 41).bind fun x3 => if wI x3 = 0 then A else (rdFp 5 0 S 26).bind fun q7 => (rdA 0 S q7 41).bind fun x8 => (wrA 0 S q7 41 (x8 - 1)).bind f) Q := by
  obtain ⟨c, e, hc⟩ := hp_get hS (show 27 < N by omega)
  rw [hG] at hc
  obtain ⟨L, rfl, hL, hp⟩ := hc
  obtain ⟨v, hv⟩ : ∃ v, L[41]? = some v := ⟨_, List.getElem?_eq_getElem (by omega)⟩
  have hr := hp.2.2.2.2.2.2.2.1 v hv
  have hr9 := hp.2.2.2.2.2.2.2.2.1
  have er : rdA 0 S 27 41 = some v := by rw [rdA_at e (by omega) (by omega)]; exact hv
  rw [er]
  show Ok (if wI v = 0 then A else _) Q
  rw [wIn (n := v) (by omega) (by omega)]
  refine ok_if (fun _ => h0) (fun h => ?_)
  refine ok_rdFp hS (by omega) h26 rfl ?_
  rw [er]
  show Ok ((wrA 0 S 27 41 (v - 1)).bind f) Q
  rw [wrA_of e (by omega) (by omega) (by rw [hL]; decide)]
  refine hf _ (hp_set hS ?_)
  rw [hG]
  exact ⟨_, rfl, by rw [List.length_set]; exact hL, nw_c41 hn hp (by omega) (fun k w k1 ek => hr9 k v w hv (by omega) ek)⟩
theorem tf_X6_drop {G : xT} {N : Nat} {n tl : Int} {a b : Bool}  (hN : 45 ≤ N) (hn : 2 ≤ n ∧ n ≤ 7) (hG : ∀ q, 26 ≤ q → q < 45 → G q = R6 n tl a b q) (hf : 1 ≤ fac n ∧ fac n ≤ 5040) {k : Nat} {S : xS} (hS : Hp G N S) (hp : True) : Ok (f_X6_drop k S 26) (fun r S' => Hp G N S' ∧ True) := by
  unfold f_X6_drop
  repeat' (first
    | (refine ok_dead ?_; omega)
    | exact ok_some ⟨hS, by first | trivial | omega⟩
    | (refine ok_bd2 (tf_X6_no hN hn hG hS (by first | trivial | omega)) (fun _ _ hQ => ?_); obtain ⟨hS, hQ⟩ := hQ)
    | refine ok_drop hn hN hS (hG 26 (by omega) (by omega)) (hG 27 (by omega) (by omega)) ?_ (fun _ hS => ?_)
    | (rw [wIn (n := n) (by omega) (by omega)]; refine ok_in (by omega) (by omega) (by omega) (by omega) (fun hc => ?_) (fun hc => ?_))
    | (rw [wIn (n := i0) (by omega) (by omega)]; refine ok_bd2 (tf_X6_tell hN hG hS (by omega)) (fun _ _ hQ => ?_); obtain ⟨hS, hQ⟩ := hQ)
    | rw [wIn (n := n - 1) (by omega) (by omega)]
    | refine ok_in (by omega) (by omega) (by omega) (by omega) (fun hc => ?_) (fun hc => ?_)
    | refine ok_ways6 hN hn hG hS (by omega) ?_
    | refine ok_n6 (by omega) (hG 26 (by omega) (by omega)) (hG 27 (by omega) (by omega)) hS ?_
    | refine ok_fac (by omega) (by omega) ?_
    | refine ok_is hS (by omega) (hG 26 (by omega) (by omega)) ?_
    | refine ok_rdFp hS (by omega) (hG 26 (by omega) (by omega)) rfl ?_
    | refine ok_rdFi hS (by omega) (hG 26 (by omega) (by omega)) rfl (fun _ _ _ => ?_)
    | refine ok_rdFz hS (by omega) (hG 26 (by omega) (by omega)) rfl (fun _ => ?_)
    | refine ok_rdFl hS (by omega) (hG 26 (by omega) (by omega)) rfl (fun _ => ?_)
    | refine ok_n0 hS (by omega) (hG 27 (by omega) (by omega)) ?_
    | refine ok_n1 hS (by omega) (hG 27 (by omega) (by omega)) (fun _ _ _ => ?_)
    | refine ok_n2 hS (by omega) (hG 27 (by omega) (by omega)) (fun _ _ _ => ?_)
    | refine ok_n24 hS (by omega) (hG 27 (by omega) (by omega)) (fun _ _ _ => ?_)
    | refine ok_n41 hS (by omega) (hG 27 (by omega) (by omega)) (fun _ _ _ => ?_)
    | refine ok_n46 hS (by omega) (hG 27 (by omega) (by omega)) (fun _ _ _ => ?_)
    | refine ok_n3 hS (by omega) (hG 27 (by omega) (by omega)) (by omega) (fun _ _ _ => ?_)
    | refine ok_n25 hS (by omega) (hG 27 (by omega) (by omega)) (by omega) (fun _ _ _ => ?_)
    | refine ok_nA hS (by omega) (hG 27 (by omega) (by omega)) (by omega) (fun _ => ?_)
    | refine ok_rdA hS (by omega) (hG _ (by omega) (by omega)) tR_id (by omega) (by omega) (by omega) (fun _ _ _ => ?_)
    | refine ok_rdW hS (by omega) (hG _ (by omega) (by omega)) (by omega) (by omega) (by omega) (fun _ => ?_)
    | refine ok_wrA hS (by omega) (hG 27 (by omega) (by omega)) (by omega) (by omega) (by omega) (fun L _ hL => nw_set hn (by omega) hL) (fun _ hS => ?_)
    | refine ok_wrA hS (by omega) (hG _ (by omega) (by omega)) (by omega) (by omega) (by omega) (fun L _ hL => tR_set (by omega) L hL) (fun _ hS => ?_)
    | refine ok_wrA hS (by omega) (hG _ (by omega) (by omega)) (by omega) (by omega) (by omega) (fun _ _ _ => trivial) (fun _ hS => ?_)
    | refine ok_wrF hS (by omega) (hG 26 (by omega) (by omega)) rfl (⟨_, rfl⟩ : fZ _) (fun _ hS => ?_)
    | refine ok_wrF hS (by omega) (hG 26 (by omega) (by omega)) rfl (⟨_, rfl⟩ : fL _) (fun _ hS => ?_)
    | refine ok_wrFE hS (by omega) (hG 26 (by omega) (by omega)) rfl (by omega) (fun _ hS _ => ?_)
    | (refine ok_if (fun hc => ?_) (fun hc => ?_) <;> try simp (disch := omega) only [wIn] at hc))
