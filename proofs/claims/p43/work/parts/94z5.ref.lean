variable {G : xT} {N : Nat} {n tl : Int} {a b : Bool}
theorem tf_X6_isRank {G : xT} {N : Nat} {n tl : Int} {a b : Bool}  (hN : 45 ≤ N) (hn : 2 ≤ n ∧ n ≤ 7) (hG : ∀ q, 26 ≤ q → q < 45 → G q = R6 n tl a b q) (hf : 1 ≤ fac n ∧ fac n ≤ 5040) {k : Nat} {S : xS} {i0 : Int} (hS : Hp G N S) (hp : -2147483648 ≤ i0 ∧ i0 < 2147483648 ∧ 12 ≤ (k : Int)) : Ok (f_X6_isRank k S 26 i0) (fun r S' => S' = S ∧ ((r = 1 ∧ 0 ≤ i0 ∧ i0 < fac n) ∨ r = 0)) := by
  unfold f_X6_isRank
  repeat' (first
    | (refine ok_dead ?_; omega)
    | exact ok_some ⟨rfl, by first | trivial | omega⟩
    | (rw [wIn (n := fac n - 1) (by omega) (by omega)]; refine ok_in (by omega) (by omega) (by omega) (by omega) (fun hc => ?_) (fun hc => ?_))
    | (rw [wIn (n := n) (by omega) (by omega)]; refine ok_in (by omega) (by omega) (by omega) (by omega) (fun hc => ?_) (fun hc => ?_))
    | (rw [wIn (n := i0) (by omega) (by omega)]; refine ok_bd2 (tf_X6_tell hN hG hS (by omega)) (fun _ _ hQ => ?_); obtain ⟨hS, hQ⟩ := hQ)
    | rw [wIn (n := n - 1) (by omega) (by omega)]
    | refine ok_in (by omega) (by omega) (by omega) (by omega) (fun hc => ?_) (fun hc => ?_)
    | refine ok_ways6 hN hn hG hS (by omega) ?_
    | refine ok_n6 (by omega) (hG 26 (by omega) (by omega)) (hG 27 (by omega) (by omega)) hS ?_
    | refine ok_fac (by omega) (by omega) ?_
    | refine ok_is hS (by omega) (hG 26 (by omega) (by omega)) ?_
    | refine ok_rdFp hS (by omega) (hG 26 (by omega) (by omega)) rfl ?_
    | refine ok_rdFi hS (by omega) (hG 26 (by omega) (by omega)) rfl (fun _ _ _ => ?_)
    | refine ok_rdFz hS (by omega) (hG 26 (by omega) (by omega)) rfl (fun _ => ?_)
    | refine ok_rdFl hS (by omega) (hG 26 (by omega) (by omega)) rfl (fun _ => ?_)
    | refine ok_n0 hS (by omega) (hG 27 (by omega) (by omega)) ?_
    | refine ok_n1 hS (by omega) (hG 27 (by omega) (by omega)) (fun _ _ _ => ?_)
    | refine ok_n2 hS (by omega) (hG 27 (by omega) (by omega)) (fun _ _ _ => ?_)
    | refine ok_n24 hS (by omega) (hG 27 (by omega) (by omega)) (fun _ _ _ => ?_)
    | refine ok_n41 hS (by omega) (hG 27 (by omega) (by omega)) (fun _ _ _ => ?_)
    | refine ok_n46 hS (by omega) (hG 27 (by omega) (by omega)) (fun _ _ _ => ?_)
    | refine ok_n3 hS (by omega) (hG 27 (by omega) (by omega)) (by omega) (fun _ _ _ => ?_)
    | refine ok_n25 hS (by omega) (hG 27 (by omega) (by omega)) (by omega) (fun _ _ _ => ?_)
    | refine ok_nA hS (by omega) (hG 27 (by omega) (by omega)) (by omega) (fun _ => ?_)
    | refine ok_rdA hS (by omega) (hG _ (by omega) (by omega)) tR_id (by omega) (by omega) (by omega) (fun _ _ _ => ?_)
    | refine ok_rdW hS (by omega) (hG _ (by omega) (by omega)) (by omega) (by omega) (by omega) (fun _ => ?_)
    | refine ok_wrA hS (by omega) (hG 27 (by omega) (by omega)) (by omega) (by omega) (by omega) (fun L _ hL => nw_set hn (by omega) hL) (fun _ hS => ?_)
    | refine ok_wrA hS (by omega) (hG _ (by omega) (by omega)) (by omega) (by omega) (by omega) (fun L _ hL => tR_set (by omega) L hL) (fun _ hS => ?_)
    | refine ok_wrA hS (by omega) (hG _ (by omega) (by omega)) (by omega) (by omega) (by omega) (fun _ _ _ => trivial) (fun _ hS => ?_)
    | refine ok_wrF hS (by omega) (hG 26 (by omega) (by omega)) rfl (⟨_, rfl⟩ : fZ _) (fun _ hS => ?_)
    | refine ok_wrF hS (by omega) (hG 26 (by omega) (by omega)) rfl (⟨_, rfl⟩ : fL _) (fun _ hS => ?_)
    | refine ok_wrFE hS (by omega) (hG 26 (by omega) (by omega)) rfl (by omega) (fun _ hS _ => ?_)
    | (refine ok_if (fun hc => ?_) (fun hc => ?_) <;> try simp (disch := omega) only [wIn] at hc))
def lt4 (n : Int) (S : xS) : Prop := ∃ L c, S[27]? = some (.inl (0, L)) ∧ L.length = 57 ∧ nw n L ∧ L[41]? = some c ∧ 0 ≤ c ∧ c < 4
theorem ok_mv4 {S : xS} {A B : Option (Int × xS)} {Q : Int → xS → Prop} (hS : Hp G N S) (hq : 27 < N) (hG : G 27 = tA 0 57 (nw n)) (h8 : Ok A Q) (hlt : lt4 n S → Ok B Q) : Ok ((rdA 0 S 27 41).bind fun x => if wI x = wI 4 then A else B) Q := by
  obtain ⟨c, e, hc⟩ := hp_get hS hq
  rw [hG] at hc
  obtain ⟨L, rfl, hL, hp⟩ := hc
  obtain ⟨v, hv⟩ : ∃ v, L[41]? = some v := ⟨_, List.getElem?_eq_getElem (by omega)⟩
  have hr := hp.2.2.2.2.2.2.2.1 v hv
  rw [rdA_at e (by omega) (by omega), show (41 : Int).toNat = 41 from rfl, hv]
  show Ok (if wI v = wI 4 then A else B) Q
  rw [wIn (n := v) (by omega) (by omega), wIn (n := 4) (by omega) (by omega)]
  exact ok_if (fun _ => h8) (fun h => hlt ⟨L, v, e, hL, hp, hv, hr.1, by omega⟩)
theorem ok_move (hn : 2 ≤ n ∧ n ≤ 7) {tl : Int} {mo : xV → Prop} {S : xS} {i0 : Int} {f : xS → Option (Int × xS)} {Q : Int → xS → Prop} (hN : 45 ≤ N) (hS : Hp G N S) (h26 : G 26 = o6 tl mo) (hG : G 27 = tA 0 57 (nw n)) (h : lt4 n S) (hi : 0 ≤ i0 ∧ i0 < fac n) (hf : ∀ S', Hp G N S' → Ok (f S') Q) : Ok ((rdFp 5 0 S 26).bind fun q12 => (rdFp 5 0 S 26).bind fun q14 => (rdA 0 S q14 41).bind fun x15 => (wrA 0 S q12 (42 + x15) i0).bind fun S18 => (rdFp 5 0 S18 26).bind fun q20 => (rdA 0 S18 q20 41).bind fun x21 => (wrA 0 S18 q20 41 (x21 + 1)).bind f) Q := by
  obtain ⟨L, c, e, hL, hp, hc, c0⟩ := h
  have hr9 := hp.2.2.2.2.2.2.2.2.1
  refine ok_rdFp hS (by omega) h26 rfl (ok_rdFp hS (by omega) h26 rfl ?_)
  rw [rdA_at e (by omega) (by omega), show (41 : Int).toNat = 41 from rfl, hc]
  show Ok ((wrA 0 S 27 (42 + c) i0).bind _) Q
  rw [wrA_of e (by omega) (by omega) (by omega)]
  have hw : nw n (L.set (42 + c).toNat i0) := nw_put hn hp (by omega) (by omega) (by omega) (by omega) (fun _ => by omega) (fun _ => by omega) (fun _ => by omega) (fun _ _ => by omega) (fun _ => by omega)
  have hl : (L.set (42 + c).toNat i0).length = 57 := by rw [List.length_set]; exact hL
  have hS' : Hp G N (S.set 27 (.inl (0, L.set (42 + c).toNat i0))) := hp_set hS (by rw [hG]; exact ⟨_, rfl, hl, hw⟩)
  have e' : (S.set 27 (.inl (0, L.set (42 + c).toNat i0)))[27]? = some (.inl (0, L.set (42 + c).toNat i0)) := set_at e
  show Ok ((rdFp 5 0 (S.set 27 (.inl (0, L.set (42 + c).toNat i0))) 26).bind _) Q
  refine ok_rdFp hS' (by omega) h26 rfl ?_
  rw [rdA_at e' (by omega) (by omega), show (41 : Int).toNat = 41 from rfl, List.getElem?_set_ne (by omega), hc]
  show Ok ((wrA 0 (S.set 27 (.inl (0, L.set (42 + c).toNat i0))) 27 41 (c + 1)).bind f) Q
  rw [wrA_of e' (by omega) (by omega) (by rw [hl]; decide)]
  refine hf _ (hp_set hS' ?_)
  rw [hG]
  refine ⟨_, rfl, by rw [List.length_set]; exact hl, nw_c41 hn hw (by omega) (fun k w k1 ek => ?_)⟩
  rcases set_get ek with ⟨_, rfl⟩ | ⟨p, ek⟩
  · exact hi
  · exact hr9 k c w hc (by omega) ek
theorem tf_X6_move {G : xT} {N : Nat} {n tl : Int} {a b : Bool}  (hN : 45 ≤ N) (hn : 2 ≤ n ∧ n ≤ 7) (hG : ∀ q, 26 ≤ q → q < 45 → G q = R6 n tl a b q) (hf : 1 ≤ fac n ∧ fac n ≤ 5040) {k : Nat} {S : xS} {i0 : Int} (hS : Hp G N S) (hp : -2147483648 ≤ i0 ∧ i0 < 2147483648 ∧ 20 ≤ (k : Int)) : Ok (f_X6_move k S 26 i0) (fun r S' => Hp G N S' ∧ True) := by
  unfold f_X6_move
  repeat' (first
    | (refine ok_dead ?_; omega)
    | exact ok_some ⟨hS, by first | trivial | omega⟩
    | (refine ok_bd2 (tf_X6_isRank hN hn hG hf hS (by first | trivial | omega)) (fun _ _ hQ => ?_); obtain ⟨rfl, hQ⟩ := hQ)
    | (refine ok_bd2 (tf_X6_bad hN hn hG hS (by first | trivial | omega)) (fun _ _ hQ => ?_); obtain ⟨hS, hQ⟩ := hQ)
    | (refine ok_bd2 (tf_X6_full hN hn hG hS (by first | trivial | omega)) (fun _ _ hQ => ?_); obtain ⟨hS, hQ⟩ := hQ)
    | refine ok_move hn hN hS (hG 26 (by omega) (by omega)) (hG 27 (by omega) (by omega)) h4 (by omega) (fun _ hS => ?_)
    | refine ok_mv4 hS (by omega) (hG 27 (by omega) (by omega)) ?_ (fun h4 => ?_)
    | (rw [wIn (n := fac n - 1) (by omega) (by omega)]; refine ok_in (by omega) (by omega) (by omega) (by omega) (fun hc => ?_) (fun hc => ?_))
    | (rw [wIn (n := n) (by omega) (by omega)]; refine ok_in (by omega) (by omega) (by omega) (by omega) (fun hc => ?_) (fun hc => ?_))
    | (rw [wIn (n := i0) (by omega) (by omega)]; refine ok_bd2 (tf_X6_tell hN hG hS (by omega)) (fun _ _ hQ => ?_); obtain ⟨hS, hQ⟩ := hQ)
    | rw [wIn (n := n - 1) (by omega) (by omega)]
    | refine ok_in (by omega) (by omega) (by omega) (by omega) (fun hc => ?_) (fun hc => ?_)
    | refine ok_ways6 hN hn hG hS (by omega) ?_
    | refine ok_n6 (by omega) (hG 26 (by omega) (by omega)) (hG 27 (by omega) (by omega)) hS ?_
    | refine ok_fac (by omega) (by omega) ?_
    | refine ok_is hS (by omega) (hG 26 (by omega) (by omega)) ?_
    | refine ok_rdFp hS (by omega) (hG 26 (by omega) (by omega)) rfl ?_
    | refine ok_rdFi hS (by omega) (hG 26 (by omega) (by omega)) rfl (fun _ _ _ => ?_)
    | refine ok_rdFz hS (by omega) (hG 26 (by omega) (by omega)) rfl (fun _ => ?_)
    | refine ok_rdFl hS (by omega) (hG 26 (by omega) (by omega)) rfl (fun _ => ?_)
    | refine ok_n0 hS (by omega) (hG 27 (by omega) (by omega)) ?_
    | refine ok_n1 hS (by omega) (hG 27 (by omega) (by omega)) (fun _ _ _ => ?_)
    | refine ok_n2 hS (by omega) (hG 27 (by omega) (by omega)) (fun _ _ _ => ?_)
    | refine ok_n24 hS (by omega) (hG 27 (by omega) (by omega)) (fun _ _ _ => ?_)
    | refine ok_n41 hS (by omega) (hG 27 (by omega) (by omega)) (fun _ _ _ => ?_)
    | refine ok_n46 hS (by omega) (hG 27 (by omega) (by omega)) (fun _ _ _ => ?_)
    | refine ok_n3 hS (by omega) (hG 27 (by omega) (by omega)) (by omega) (fun _ _ _ => ?_)
    | refine ok_n25 hS (by omega) (hG 27 (by omega) (by omega)) (by omega) (fun _ _ _ => ?_)
    | refine ok_nA hS (by omega) (hG 27 (by omega) (by omega)) (by omega) (fun _ => ?_)
    | refine ok_rdA hS (by omega) (hG _ (by omega) (by omega)) tR_id (by omega) (by omega) (by omega) (fun _ _ _ => ?_)
    | refine ok_rdW hS (by omega) (hG _ (by omega) (by omega)) (by omega) (by omega) (by omega) (fun _ => ?_)
    | refine ok_wrA hS (by omega) (hG 27 (by omega) (by omega)) (by omega) (by omega) (by omega) (fun L _ hL => nw_set hn (by omega) hL) (fun _ hS => ?_)
    | refine ok_wrA hS (by omega) (hG _ (by omega) (by omega)) (by omega) (by omega) (by omega) (fun L _ hL => tR_set (by omega) L hL) (fun _ hS => ?_)
    | refine ok_wrA hS (by omega) (hG _ (by omega) (by omega)) (by omega) (by omega) (by omega) (fun _ _ _ => trivial) (fun _ hS => ?_)
    | refine ok_wrF hS (by omega) (hG 26 (by omega) (by omega)) rfl (⟨_, rfl⟩ : fZ _) (fun _ hS => ?_)
    | refine ok_wrF hS (by omega) (hG 26 (by omega) (by omega)) rfl (⟨_, rfl⟩ : fL _) (fun _ hS => ?_)
    | refine ok_wrFE hS (by omega) (hG 26 (by omega) (by omega)) rfl (by omega) (fun _ hS _ => ?_)
    | (refine ok_if (fun hc => ?_) (fun hc => ?_) <;> try simp (disch := omega) only [wIn] at hc))
