variable {G : xT} {N : Nat} {n tl : Int} {a b : Bool}
/-- what a report tells may be anything: only who tells is bound -/
theorem nw_even (hn : 2 ≤ n ∧ n ≤ 7) {L : List Int} {i : Nat} {x : Int} (h : nw n L) (i0 : 25 ≤ i) (i1 : i < 41) (i2 : i % 2 = 0) : nw n (L.set i x) := by
  obtain ⟨h0, h1, h2, h3, ⟨h4, h5⟩, h6, h7, h8, h9, h10, h11⟩ := h
  refine ⟨?_, ?_, ?_, ?_, ⟨?_, ?_⟩, ?_, ?_, ?_, ?_, ?_, ?_⟩
  · rw [List.getElem?_set_ne (by omega)]; exact h0
  · rw [List.getElem?_set_ne (by omega)]; exact h1
  · rw [List.getElem?_set_ne (by omega)]; exact h2
  · intro j v j1 j2 e
    rw [List.getElem?_set_ne (by omega)] at e
    exact h3 j v j1 j2 e
  · intro i' j' i1 j1 e
    rw [List.getElem?_set_ne (by omega), List.getElem?_set_ne (by omega)] at e
    exact h4 i' j' i1 j1 e
  · intro i' v i1 e
    rw [List.getElem?_set_ne (by omega)] at e
    exact h5 i' v i1 e
  · rw [List.getElem?_set_ne (by omega)]; exact h6
  · intro k v k1 e
    rw [List.getElem?_set_ne (by omega)] at e
    exact h7 k v k1 e
  · rw [List.getElem?_set_ne (by omega)]; exact h8
  · intro k m v e1 k1 e
    rw [List.getElem?_set_ne (by omega)] at e1
    rw [List.getElem?_set_ne (by omega)] at e
    exact h9 k m v e1 k1 e
  · rw [List.getElem?_set_ne (by omega)]; exact h10
  · intro k m v e1 k1 e
    rw [List.getElem?_set_ne (by omega)] at e1
    rw [List.getElem?_set_ne (by omega)] at e
    exact h11 k m v e1 k1 e
theorem set_at {S : xS} {q : Nat} {c d : xC} (h : S[q]? = some c) : (S.set q d)[q]? = some d := by
  rw [List.getElem?_set_self (List.getElem?_eq_some_iff.mp h).1]
theorem lr_eq {k : Nat} {S : xS} {L : List Int} {c i0 i1 : Int} (hL : S[27]? = some (.inl (0, L))) (hl : L.length = 57) (hc : L[24]? = some c) (c0 : 0 ≤ c ∧ c < 8) : f_X6_layReport k S 27 i0 i1 = some (0, S.set 27 (.inl (0, ((L.set (25 + 2 * c).toNat i0).set (25 + 2 * c + 1).toNat i1).set 24 (c + 1)))) := by
  unfold f_X6_layReport
  rw [rdA_at hL (by omega) (by omega), show (24 : Int).toNat = 24 from rfl, hc]
  show ((wrA 0 S 27 (25 + (2 * c)) i0).bind _) = _
  rw [wrA_of hL (by omega) (by omega) (by omega)]
  have h1 : (S.set 27 (.inl (0, L.set (25 + 2 * c).toNat i0)))[27]? = some (.inl (0, L.set (25 + 2 * c).toNat i0)) := set_at hL
  show ((rdA 0 (S.set 27 (.inl (0, L.set (25 + 2 * c).toNat i0))) 27 24).bind _) = _
  rw [rdA_at h1 (by omega) (by omega), show (24 : Int).toNat = 24 from rfl, List.getElem?_set_ne (by omega), hc]
  show ((wrA 0 (S.set 27 (.inl (0, L.set (25 + 2 * c).toNat i0))) 27 ((25 + (2 * c)) + 1) i1).bind _) = _
  rw [wrA_of h1 (by omega) (by omega) (by rw [List.length_set]; omega)]
  have h2 : ((S.set 27 (.inl (0, L.set (25 + 2 * c).toNat i0))).set 27 (.inl (0, (L.set (25 + 2 * c).toNat i0).set (25 + 2 * c + 1).toNat i1)))[27]? = some (.inl (0, (L.set (25 + 2 * c).toNat i0).set (25 + 2 * c + 1).toNat i1)) := set_at h1
  show ((rdA 0 ((S.set 27 (.inl (0, L.set (25 + 2 * c).toNat i0))).set 27 (.inl (0, (L.set (25 + 2 * c).toNat i0).set (25 + 2 * c + 1).toNat i1))) 27 24).bind _) = _
  rw [rdA_at h2 (by omega) (by omega), show (24 : Int).toNat = 24 from rfl, List.getElem?_set_ne (by omega), List.getElem?_set_ne (by omega), hc]
  show ((wrA 0 ((S.set 27 (.inl (0, L.set (25 + 2 * c).toNat i0))).set 27 (.inl (0, (L.set (25 + 2 * c).toNat i0).set (25 + 2 * c + 1).toNat i1))) 27 24 (c + 1)).bind _) = _
  rw [wrA_of h2 (by omega) (by omega) (by rw [List.length_set, List.length_set]; omega), List.set_set, List.set_set]
  rfl
/-- the row `now` of this store, its count of reports below eight -/
def lt8 (n : Int) (S : xS) : Prop := ∃ L c, S[27]? = some (.inl (0, L)) ∧ L.length = 57 ∧ nw n L ∧ L[24]? = some c ∧ 0 ≤ c ∧ c < 8
theorem ok_rep {S : xS} {A B : Option (Int × xS)} {Q : Int → xS → Prop} (hS : Hp G N S) (hq : 27 < N) (hG : G 27 = tA 0 57 (nw n)) (h8 : Ok A Q) (hlt : lt8 n S → Ok B Q) : Ok ((rdA 0 S 27 24).bind fun x => if wI x = wI 8 then A else B) Q := by
  obtain ⟨c, e, hc⟩ := hp_get hS hq
  rw [hG] at hc
  obtain ⟨L, rfl, hL, hp⟩ := hc
  obtain ⟨v, hv⟩ : ∃ v, L[24]? = some v := ⟨_, List.getElem?_eq_getElem (by omega)⟩
  have hr := hp.2.2.2.2.2.1 v hv
  rw [rdA_at e (by omega) (by omega), show (24 : Int).toNat = 24 from rfl, hv]
  show Ok (if wI v = wI 8 then A else B) Q
  rw [wIn (n := v) (by omega) (by omega), wIn (n := 8) (by omega) (by omega)]
  exact ok_if (fun _ => h8) (fun h => hlt ⟨L, v, e, hL, hp, hv, hr.1, by omega⟩)
theorem ok_lr (hn : 2 ≤ n ∧ n ≤ 7) {k : Nat} {S : xS} {i0 i1 : Int} {f : Int → xS → Option (Int × xS)} {Q : Int → xS → Prop} (hS : Hp G N S) (hG : G 27 = tA 0 57 (nw n)) (h : lt8 n S) (hi : 0 ≤ i0 ∧ i0 ≤ 6 ∧ 0 ≤ i1 ∧ i1 ≤ 7) (hf : ∀ S', Hp G N S' → Ok (f 0 S') Q) : Ok (bd2 (f_X6_layReport k S 27 i0 i1) f) Q := by
  obtain ⟨L, c, e, hL, hp, hc, c0⟩ := h
  rw [bd2_some (lr_eq e hL hc c0)]
  refine hf _ (hp_set hS ?_)
  rw [hG]
  refine ⟨_, rfl, by rw [List.length_set, List.length_set, List.length_set]; exact hL, ?_⟩
  refine nw_put hn (nw_even hn (nw_put hn hp (by omega) (by omega) (by omega) (by omega) (fun _ => by omega) (fun _ => by omega) (fun _ => by omega) (fun _ _ => by omega) (fun _ => by omega)) (by omega) (by omega) (by omega)) (by omega) (by omega) (by omega) (by omega) (fun _ => by omega) (fun _ => by omega) (fun _ => by omega) (fun _ _ => by omega) (fun _ => by omega)
theorem tg_X6_report {G : xT} {N : Nat} {n tl : Int} {a b : Bool}  (hN : 45 ≤ N) (hn : 2 ≤ n ∧ n ≤ 7) (hG : ∀ q, 26 ≤ q → q < 45 → G q = R6 n tl a b q) (hf : 1 ≤ fac n ∧ fac n ≤ 5040) : ∀ (k lb : Nat) (S : xS) (i0 : Int) (i1 : Int), Hp G N S → ((lb = 0 ∧ -2147483648 ≤ i0 ∧ i0 < 2147483648 ∧ -2147483648 ≤ i1 ∧ i1 < 2147483648 ∧ 6 ≤ (k : Int)) ∨ (lb = 1 ∧ 3 ≤ (k : Int))) → Ok (g_X6_report k lb S 26 i0 i1) (fun r S' => Hp G N S' ∧ True) := by
  intro k
  induction k with
  | zero => intro lb S i0 i1 hS hp; exfalso; omega
  | succ k ih =>
    intro lb S i0 i1 hS hp
    rcases hp with ⟨rfl, hp⟩ | ⟨rfl, hp⟩
    · show Ok (b_X6_report_0 (g_X6_report k) k S 26 i0 i1) _
      unfold b_X6_report_0
      repeat' (first
        | (refine ok_dead ?_; omega)
        | exact ok_some ⟨hS, by first | trivial | omega⟩
        | exact ih 1 _ _ _ hS (Or.inr (⟨rfl, by omega⟩))
        | (refine ok_bd2 (tf_X6_isBox hN hn hG hS (by first | trivial | omega)) (fun _ _ hQ => ?_); obtain ⟨rfl, hQ⟩ := hQ)
        | (refine ok_bd2 (tf_X6_full hN hn hG hS (by first | trivial | omega)) (fun _ _ hQ => ?_); obtain ⟨hS, hQ⟩ := hQ)
        | refine ok_lr hn hS (hG 27 (by omega) (by omega)) h8 (by omega) (fun _ hS => ?_)
        | refine ok_rep hS (by omega) (hG 27 (by omega) (by omega)) ?_ (fun h8 => ?_)
        | (rw [wIn (n := n) (by omega) (by omega)]; refine ok_in (by omega) (by omega) (by omega) (by omega) (fun hc => ?_) (fun hc => ?_))
        | (rw [wIn (n := i0) (by omega) (by omega)]; refine ok_bd2 (tf_X6_tell hN hG hS (by omega)) (fun _ _ hQ => ?_); obtain ⟨hS, hQ⟩ := hQ)
        | rw [wIn (n := n - 1) (by omega) (by omega)]
        | refine ok_in (by omega) (by omega) (by omega) (by omega) (fun hc => ?_) (fun hc => ?_)
        | refine ok_ways6 hN hn hG hS (by omega) ?_
        | refine ok_n6 (by omega) (hG 26 (by omega) (by omega)) (hG 27 (by omega) (by omega)) hS ?_
        | refine ok_fac (by omega) (by omega) ?_
        | refine ok_is hS (by omega) (hG 26 (by omega) (by omega)) ?_
        | refine ok_rdFp hS (by omega) (hG 26 (by omega) (by omega)) rfl ?_
        | refine ok_rdFi hS (by omega) (hG 26 (by omega) (by omega)) rfl (fun _ _ _ => ?_)
        | refine ok_rdFz hS (by omega) (hG 26 (by omega) (by omega)) rfl (fun _ => ?_)
        | refine ok_rdFl hS (by omega) (hG 26 (by omega) (by omega)) rfl (fun _ => ?_)
        | refine ok_n0 hS (by omega) (hG 27 (by omega) (by omega)) ?_
        | refine ok_n1 hS (by omega) (hG 27 (by omega) (by omega)) (fun _ _ _ => ?_)
        | refine ok_n2 hS (by omega) (hG 27 (by omega) (by omega)) (fun _ _ _ => ?_)
        | refine ok_n24 hS (by omega) (hG 27 (by omega) (by omega)) (fun _ _ _ => ?_)
        | refine ok_n41 hS (by omega) (hG 27 (by omega) (by omega)) (fun _ _ _ => ?_)
        | refine ok_n46 hS (by omega) (hG 27 (by omega) (by omega)) (fun _ _ _ => ?_)
        | refine ok_n3 hS (by omega) (hG 27 (by omega) (by omega)) (by omega) (fun _ _ _ => ?_)
        | refine ok_n25 hS (by omega) (hG 27 (by omega) (by omega)) (by omega) (fun _ _ _ => ?_)
        | refine ok_nA hS (by omega) (hG 27 (by omega) (by omega)) (by omega) (fun _ => ?_)
        | refine ok_rdA hS (by omega) (hG _ (by omega) (by omega)) tR_id (by omega) (by omega) (by omega) (fun _ _ _ => ?_)
        | refine ok_rdW hS (by omega) (hG _ (by omega) (by omega)) (by omega) (by omega) (by omega) (fun _ => ?_)
        | refine ok_wrA hS (by omega) (hG 27 (by omega) (by omega)) (by omega) (by omega) (by omega) (fun L _ hL => nw_set hn (by omega) hL) (fun _ hS => ?_)
        | refine ok_wrA hS (by omega) (hG _ (by omega) (by omega)) (by omega) (by omega) (by omega) (fun L _ hL => tR_set (by omega) L hL) (fun _ hS => ?_)
        | refine ok_wrA hS (by omega) (hG _ (by omega) (by omega)) (by omega) (by omega) (by omega) (fun _ _ _ => trivial) (fun _ hS => ?_)
        | refine ok_wrF hS (by omega) (hG 26 (by omega) (by omega)) rfl (⟨_, rfl⟩ : fZ _) (fun _ hS => ?_)
        | refine ok_wrF hS (by omega) (hG 26 (by omega) (by omega)) rfl (⟨_, rfl⟩ : fL _) (fun _ hS => ?_)
        | refine ok_wrFE hS (by omega) (hG 26 (by omega) (by omega)) rfl (by omega) (fun _ hS _ => ?_)
        | (refine ok_if (fun hc => ?_) (fun hc => ?_) <;> try simp (disch := omega) only [wIn] at hc))
    · show Ok (b_X6_report_1 (g_X6_report k) k S 26 i0 i1) _
      unfold b_X6_report_1
      repeat' (first
        | (refine ok_dead ?_; omega)
        | exact ok_some ⟨hS, by first | trivial | omega⟩
        | (refine ok_bd2 (tf_X6_bad hN hn hG hS (by first | trivial | omega)) (fun _ _ hQ => ?_); obtain ⟨hS, hQ⟩ := hQ)
        | refine ok_lr hn hS (hG 27 (by omega) (by omega)) h8 (by omega) (fun _ hS => ?_)
        | refine ok_rep hS (by omega) (hG 27 (by omega) (by omega)) ?_ (fun h8 => ?_)
        | (rw [wIn (n := n) (by omega) (by omega)]; refine ok_in (by omega) (by omega) (by omega) (by omega) (fun hc => ?_) (fun hc => ?_))
        | (rw [wIn (n := i0) (by omega) (by omega)]; refine ok_bd2 (tf_X6_tell hN hG hS (by omega)) (fun _ _ hQ => ?_); obtain ⟨hS, hQ⟩ := hQ)
        | rw [wIn (n := n - 1) (by omega) (by omega)]
        | refine ok_in (by omega) (by omega) (by omega) (by omega) (fun hc => ?_) (fun hc => ?_)
        | refine ok_ways6 hN hn hG hS (by omega) ?_
        | refine ok_n6 (by omega) (hG 26 (by omega) (by omega)) (hG 27 (by omega) (by omega)) hS ?_
        | refine ok_fac (by omega) (by omega) ?_
        | refine ok_is hS (by omega) (hG 26 (by omega) (by omega)) ?_
        | refine ok_rdFp hS (by omega) (hG 26 (by omega) (by omega)) rfl ?_
        | refine ok_rdFi hS (by omega) (hG 26 (by omega) (by omega)) rfl (fun _ _ _ => ?_)
        | refine ok_rdFz hS (by omega) (hG 26 (by omega) (by omega)) rfl (fun _ => ?_)
        | refine ok_rdFl hS (by omega) (hG 26 (by omega) (by omega)) rfl (fun _ => ?_)
        | refine ok_n0 hS (by omega) (hG 27 (by omega) (by omega)) ?_
        | refine ok_n1 hS (by omega) (hG 27 (by omega) (by omega)) (fun _ _ _ => ?_)
        | refine ok_n2 hS (by omega) (hG 27 (by omega) (by omega)) (fun _ _ _ => ?_)
        | refine ok_n24 hS (by omega) (hG 27 (by omega) (by omega)) (fun _ _ _ => ?_)
        | refine ok_n41 hS (by omega) (hG 27 (by omega) (by omega)) (fun _ _ _ => ?_)
        | refine ok_n46 hS (by omega) (hG 27 (by omega) (by omega)) (fun _ _ _ => ?_)
        | refine ok_n3 hS (by omega) (hG 27 (by omega) (by omega)) (by omega) (fun _ _ _ => ?_)
        | refine ok_n25 hS (by omega) (hG 27 (by omega) (by omega)) (by omega) (fun _ _ _ => ?_)
        | refine ok_nA hS (by omega) (hG 27 (by omega) (by omega)) (by omega) (fun _ => ?_)
        | refine ok_rdA hS (by omega) (hG _ (by omega) (by omega)) tR_id (by omega) (by omega) (by omega) (fun _ _ _ => ?_)
        | refine ok_rdW hS (by omega) (hG _ (by omega) (by omega)) (by omega) (by omega) (by omega) (fun _ => ?_)
        | refine ok_wrA hS (by omega) (hG 27 (by omega) (by omega)) (by omega) (by omega) (by omega) (fun L _ hL => nw_set hn (by omega) hL) (fun _ hS => ?_)
        | refine ok_wrA hS (by omega) (hG _ (by omega) (by omega)) (by omega) (by omega) (by omega) (fun L _ hL => tR_set (by omega) L hL) (fun _ hS => ?_)
        | refine ok_wrA hS (by omega) (hG _ (by omega) (by omega)) (by omega) (by omega) (by omega) (fun _ _ _ => trivial) (fun _ hS => ?_)
        | refine ok_wrF hS (by omega) (hG 26 (by omega) (by omega)) rfl (⟨_, rfl⟩ : fZ _) (fun _ hS => ?_)
        | refine ok_wrF hS (by omega) (hG 26 (by omega) (by omega)) rfl (⟨_, rfl⟩ : fL _) (fun _ hS => ?_)
        | refine ok_wrFE hS (by omega) (hG 26 (by omega) (by omega)) rfl (by omega) (fun _ hS _ => ?_)
        | (refine ok_if (fun hc => ?_) (fun hc => ?_) <;> try simp (disch := omega) only [wIn] at hc))
theorem tf_X6_report {G : xT} {N : Nat} {n tl : Int} {a b : Bool}  (hN : 45 ≤ N) (hn : 2 ≤ n ∧ n ≤ 7) (hG : ∀ q, 26 ≤ q → q < 45 → G q = R6 n tl a b q) (hf : 1 ≤ fac n ∧ fac n ≤ 5040) {k : Nat} {S : xS} {i0 : Int} {i1 : Int} (hS : Hp G N S) (hp : -2147483648 ≤ i0 ∧ i0 < 2147483648 ∧ -2147483648 ≤ i1 ∧ i1 < 2147483648 ∧ 6 ≤ (k : Int)) : Ok (f_X6_report k S 26 i0 i1) (fun r S' => Hp G N S' ∧ True) :=
  tg_X6_report hN hn hG hf k 0 S i0 i1 hS (Or.inl ⟨rfl, hp⟩)
