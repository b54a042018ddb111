variable {G : xT} {N : Nat} {n tl : Int} {a b : Bool}
theorem set_get {L : List Int} {i j : Nat} {x v : Int} (e : (L.set i x)[j]? = some v) : (i = j ∧ v = x) ∨ (i ≠ j ∧ L[j]? = some v) := by
  by_cases h : i = j
  · subst h
    rw [List.getElem?_set_self'] at e
    cases hx : L[i]? with
    | none => rw [hx] at e; cases e
    | some w => rw [hx] at e; cases e; exact Or.inl ⟨rfl, rfl⟩
  · rw [List.getElem?_set_ne h] at e
    exact Or.inr ⟨h, e⟩
/-- one cell of `now` written, not a slip, not a count of moves or of the past -/
theorem nw_put (hn : 2 ≤ n ∧ n ≤ 7) {L : List Int} {i : Nat} {x : Int} (h : nw n L) (i0 : i ≠ 0) (i3 : i < 3 ∨ 10 ≤ i) (i41 : i ≠ 41) (i46 : i ≠ 46) (c1 : i = 1 → 1 ≤ x ∧ x ≤ n) (c2 : i = 2 → 0 ≤ x ∧ x ≤ 6) (c24 : i = 24 → 0 ≤ x ∧ x ≤ 8) (c25 : 25 ≤ i → i < 41 → 0 ≤ x ∧ x ≤ 6) (c42 : 42 ≤ i → 0 ≤ x ∧ x < fac n) : nw n (L.set i x) := by
  obtain ⟨h0, h1, h2, h3, ⟨h4, h5⟩, h6, h7, h8, h9, h10, h11⟩ := h
  refine ⟨?_, ?_, ?_, ?_, ⟨?_, ?_⟩, ?_, ?_, ?_, ?_, ?_, ?_⟩
  · rw [List.getElem?_set_ne (by omega)]; exact h0
  · intro v e
    rcases set_get e with ⟨p, rfl⟩ | ⟨p, e⟩
    · exact c1 p
    · exact h1 v e
  · intro v e
    rcases set_get e with ⟨p, rfl⟩ | ⟨p, e⟩
    · exact c2 p
    · exact h2 v e
  · intro j v j1 j2 e
    rw [List.getElem?_set_ne (by omega)] at e
    exact h3 j v j1 j2 e
  · intro i' j' i1 j1 e
    by_cases hl : i' < 7 ∧ j' < 7
    · rw [List.getElem?_set_ne (by omega), List.getElem?_set_ne (by omega)] at e
      exact h4 i' j' i1 j1 e
    · exfalso; omega
  · intro i' v i1 e
    rw [List.getElem?_set_ne (by omega)] at e
    exact h5 i' v i1 e
  · intro v e
    rcases set_get e with ⟨p, rfl⟩ | ⟨p, e⟩
    · exact c24 p
    · exact h6 v e
  · intro k v k1 e
    rcases set_get e with ⟨p, rfl⟩ | ⟨p, e⟩
    · exact c25 (by omega) (by omega)
    · exact h7 k v k1 e
  · rw [List.getElem?_set_ne (by omega)]; exact h8
  · intro k m v e1 k1 e
    rw [List.getElem?_set_ne (by omega)] at e1
    rcases set_get e with ⟨p, rfl⟩ | ⟨p, e⟩
    · exact c42 (by omega)
    · exact h9 k m v e1 k1 e
  · rw [List.getElem?_set_ne (by omega)]; exact h10
  · intro k m v e1 k1 e
    rw [List.getElem?_set_ne (by omega)] at e1
    rcases set_get e with ⟨p, rfl⟩ | ⟨p, e⟩
    · exact c42 (by omega)
    · exact h11 k m v e1 k1 e
theorem tg_X6_put {G : xT} {N : Nat} {n tl : Int} {a b : Bool}  (hN : 45 ≤ N) (hn : 2 ≤ n ∧ n ≤ 7) (hG : ∀ q, 26 ≤ q → q < 45 → G q = R6 n tl a b q) (hf : 1 ≤ fac n ∧ fac n ≤ 5040) : ∀ (k lb : Nat) (S : xS) (i0 : Int) (i1 : Int) (i2 : Int), Hp G N S → ((lb = 0 ∧ -2147483648 ≤ i0 ∧ i0 < 2147483648 ∧ -2147483648 ≤ i1 ∧ i1 < 2147483648 ∧ 6 ≤ (k : Int)) ∨ (lb = 1 ∧ 3 ≤ (k : Int)) ∨ (lb = 2 ∧ (i2 = 0 ∨ (i2 = 1 ∧ ((i0 = 0 ∧ 1 ≤ i1 ∧ i1 ≤ n) ∨ (i0 = 1 ∧ 0 ≤ i1 ∧ i1 ≤ 6)))) ∧ 2 ≤ (k : Int))) → Ok (g_X6_put k lb S 26 i0 i1 i2) (fun r S' => Hp G N S' ∧ True) := by
  intro k
  induction k with
  | zero => intro lb S i0 i1 i2 hS hp; exfalso; omega
  | succ k ih =>
    intro lb S i0 i1 i2 hS hp
    rcases hp with ⟨rfl, hp⟩ | ⟨rfl, hp⟩ | ⟨rfl, hp⟩
    · show Ok (b_X6_put_0 (g_X6_put k) k S 26 i0 i1 i2) _
      unfold b_X6_put_0
      repeat' (first
        | (refine ok_dead ?_; omega)
        | exact ok_some ⟨hS, by first | trivial | omega⟩
        | exact ih 1 _ _ _ _ hS (Or.inr (Or.inl ⟨rfl, by omega⟩))
        | exact ih 2 _ _ _ _ hS (Or.inr (Or.inr (⟨rfl, by omega⟩)))
        | (rw [wIn (n := n) (by omega) (by omega)]; refine ok_in (by omega) (by omega) (by omega) (by omega) (fun hc => ?_) (fun hc => ?_))
        | (rw [wIn (n := i0) (by omega) (by omega)]; refine ok_bd2 (tf_X6_tell hN hG hS (by omega)) (fun _ _ hQ => ?_); obtain ⟨hS, hQ⟩ := hQ)
        | rw [wIn (n := n - 1) (by omega) (by omega)]
        | refine ok_in (by omega) (by omega) (by omega) (by omega) (fun hc => ?_) (fun hc => ?_)
        | refine ok_ways6 hN hn hG hS (by omega) ?_
        | refine ok_n6 (by omega) (hG 26 (by omega) (by omega)) (hG 27 (by omega) (by omega)) hS ?_
        | refine ok_fac (by omega) (by omega) ?_
        | refine ok_is hS (by omega) (hG 26 (by omega) (by omega)) ?_
        | refine ok_rdFp hS (by omega) (hG 26 (by omega) (by omega)) rfl ?_
        | refine ok_rdFi hS (by omega) (hG 26 (by omega) (by omega)) rfl (fun _ _ _ => ?_)
        | refine ok_rdFz hS (by omega) (hG 26 (by omega) (by omega)) rfl (fun _ => ?_)
        | refine ok_rdFl hS (by omega) (hG 26 (by omega) (by omega)) rfl (fun _ => ?_)
        | refine ok_n0 hS (by omega) (hG 27 (by omega) (by omega)) ?_
        | refine ok_n1 hS (by omega) (hG 27 (by omega) (by omega)) (fun _ _ _ => ?_)
        | refine ok_n2 hS (by omega) (hG 27 (by omega) (by omega)) (fun _ _ _ => ?_)
        | refine ok_n24 hS (by omega) (hG 27 (by omega) (by omega)) (fun _ _ _ => ?_)
        | refine ok_n41 hS (by omega) (hG 27 (by omega) (by omega)) (fun _ _ _ => ?_)
        | refine ok_n46 hS (by omega) (hG 27 (by omega) (by omega)) (fun _ _ _ => ?_)
        | refine ok_n3 hS (by omega) (hG 27 (by omega) (by omega)) (by omega) (fun _ _ _ => ?_)
        | refine ok_n25 hS (by omega) (hG 27 (by omega) (by omega)) (by omega) (fun _ _ _ => ?_)
        | refine ok_nA hS (by omega) (hG 27 (by omega) (by omega)) (by omega) (fun _ => ?_)
        | refine ok_rdA hS (by omega) (hG _ (by omega) (by omega)) tR_id (by omega) (by omega) (by omega) (fun _ _ _ => ?_)
        | refine ok_rdW hS (by omega) (hG _ (by omega) (by omega)) (by omega) (by omega) (by omega) (fun _ => ?_)
        | refine ok_wrA hS (by omega) (hG 27 (by omega) (by omega)) (by omega) (by omega) (by omega) (fun L _ hL => nw_set hn (by omega) hL) (fun _ hS => ?_)
        | refine ok_wrA hS (by omega) (hG 27 (by omega) (by omega)) (by omega) (by omega) (by omega) (fun L _ hL => nw_put hn hL (by omega) (by omega) (by omega) (by omega) (fun _ => by omega) (fun _ => by omega) (fun _ => by omega) (fun _ _ => by omega) (fun _ => by omega)) (fun _ hS => ?_)
        | refine ok_wrA hS (by omega) (hG _ (by omega) (by omega)) (by omega) (by omega) (by omega) (fun L _ hL => tR_set (by omega) L hL) (fun _ hS => ?_)
        | refine ok_wrA hS (by omega) (hG _ (by omega) (by omega)) (by omega) (by omega) (by omega) (fun _ _ _ => trivial) (fun _ hS => ?_)
        | refine ok_wrF hS (by omega) (hG 26 (by omega) (by omega)) rfl (⟨_, rfl⟩ : fZ _) (fun _ hS => ?_)
        | refine ok_wrF hS (by omega) (hG 26 (by omega) (by omega)) rfl (⟨_, rfl⟩ : fL _) (fun _ hS => ?_)
        | refine ok_wrFE hS (by omega) (hG 26 (by omega) (by omega)) rfl (by omega) (fun _ hS _ => ?_)
        | (refine ok_if (fun hc => ?_) (fun hc => ?_) <;> try simp (disch := omega) only [wIn] at hc))
    · show Ok (b_X6_put_1 (g_X6_put k) k S 26 i0 i1 i2) _
      unfold b_X6_put_1
      repeat' (first
        | (refine ok_dead ?_; omega)
        | exact ok_some ⟨hS, by first | trivial | omega⟩
        | exact ih 2 _ _ _ _ hS (Or.inr (Or.inr (⟨rfl, by omega⟩)))
        | (rw [wIn (n := n) (by omega) (by omega)]; refine ok_in (by omega) (by omega) (by omega) (by omega) (fun hc => ?_) (fun hc => ?_))
        | (rw [wIn (n := i0) (by omega) (by omega)]; refine ok_bd2 (tf_X6_tell hN hG hS (by omega)) (fun _ _ hQ => ?_); obtain ⟨hS, hQ⟩ := hQ)
        | rw [wIn (n := n - 1) (by omega) (by omega)]
        | refine ok_in (by omega) (by omega) (by omega) (by omega) (fun hc => ?_) (fun hc => ?_)
        | refine ok_ways6 hN hn hG hS (by omega) ?_
        | refine ok_n6 (by omega) (hG 26 (by omega) (by omega)) (hG 27 (by omega) (by omega)) hS ?_
        | refine ok_fac (by omega) (by omega) ?_
        | refine ok_is hS (by omega) (hG 26 (by omega) (by omega)) ?_
        | refine ok_rdFp hS (by omega) (hG 26 (by omega) (by omega)) rfl ?_
        | refine ok_rdFi hS (by omega) (hG 26 (by omega) (by omega)) rfl (fun _ _ _ => ?_)
        | refine ok_rdFz hS (by omega) (hG 26 (by omega) (by omega)) rfl (fun _ => ?_)
        | refine ok_rdFl hS (by omega) (hG 26 (by omega) (by omega)) rfl (fun _ => ?_)
        | refine ok_n0 hS (by omega) (hG 27 (by omega) (by omega)) ?_
        | refine ok_n1 hS (by omega) (hG 27 (by omega) (by omega)) (fun _ _ _ => ?_)
        | refine ok_n2 hS (by omega) (hG 27 (by omega) (by omega)) (fun _ _ _ => ?_)
        | refine ok_n24 hS (by omega) (hG 27 (by omega) (by omega)) (fun _ _ _ => ?_)
        | refine ok_n41 hS (by omega) (hG 27 (by omega) (by omega)) (fun _ _ _ => ?_)
        | refine ok_n46 hS (by omega) (hG 27 (by omega) (by omega)) (fun _ _ _ => ?_)
        | refine ok_n3 hS (by omega) (hG 27 (by omega) (by omega)) (by omega) (fun _ _ _ => ?_)
        | refine ok_n25 hS (by omega) (hG 27 (by omega) (by omega)) (by omega) (fun _ _ _ => ?_)
        | refine ok_nA hS (by omega) (hG 27 (by omega) (by omega)) (by omega) (fun _ => ?_)
        | refine ok_rdA hS (by omega) (hG _ (by omega) (by omega)) tR_id (by omega) (by omega) (by omega) (fun _ _ _ => ?_)
        | refine ok_rdW hS (by omega) (hG _ (by omega) (by omega)) (by omega) (by omega) (by omega) (fun _ => ?_)
        | refine ok_wrA hS (by omega) (hG 27 (by omega) (by omega)) (by omega) (by omega) (by omega) (fun L _ hL => nw_set hn (by omega) hL) (fun _ hS => ?_)
        | refine ok_wrA hS (by omega) (hG 27 (by omega) (by omega)) (by omega) (by omega) (by omega) (fun L _ hL => nw_put hn hL (by omega) (by omega) (by omega) (by omega) (fun _ => by omega) (fun _ => by omega) (fun _ => by omega) (fun _ _ => by omega) (fun _ => by omega)) (fun _ hS => ?_)
        | refine ok_wrA hS (by omega) (hG _ (by omega) (by omega)) (by omega) (by omega) (by omega) (fun L _ hL => tR_set (by omega) L hL) (fun _ hS => ?_)
        | refine ok_wrA hS (by omega) (hG _ (by omega) (by omega)) (by omega) (by omega) (by omega) (fun _ _ _ => trivial) (fun _ hS => ?_)
        | refine ok_wrF hS (by omega) (hG 26 (by omega) (by omega)) rfl (⟨_, rfl⟩ : fZ _) (fun _ hS => ?_)
        | refine ok_wrF hS (by omega) (hG 26 (by omega) (by omega)) rfl (⟨_, rfl⟩ : fL _) (fun _ hS => ?_)
        | refine ok_wrFE hS (by omega) (hG 26 (by omega) (by omega)) rfl (by omega) (fun _ hS _ => ?_)
        | (refine ok_if (fun hc => ?_) (fun hc => ?_) <;> try simp (disch := omega) only [wIn] at hc))
    · show Ok (b_X6_put_2 (g_X6_put k) k S 26 i0 i1 i2) _
      unfold b_X6_put_2
      repeat' (first
        | (refine ok_dead ?_; omega)
        | exact ok_some ⟨hS, by first | trivial | omega⟩
        | (refine ok_bd2 (tf_X6_bad hN hn hG hS (by first | trivial | omega)) (fun _ _ hQ => ?_); obtain ⟨hS, hQ⟩ := hQ)
        | (rw [wIn (n := n) (by omega) (by omega)]; refine ok_in (by omega) (by omega) (by omega) (by omega) (fun hc => ?_) (fun hc => ?_))
        | (rw [wIn (n := i0) (by omega) (by omega)]; refine ok_bd2 (tf_X6_tell hN hG hS (by omega)) (fun _ _ hQ => ?_); obtain ⟨hS, hQ⟩ := hQ)
        | rw [wIn (n := n - 1) (by omega) (by omega)]
        | refine ok_in (by omega) (by omega) (by omega) (by omega) (fun hc => ?_) (fun hc => ?_)
        | refine ok_ways6 hN hn hG hS (by omega) ?_
        | refine ok_n6 (by omega) (hG 26 (by omega) (by omega)) (hG 27 (by omega) (by omega)) hS ?_
        | refine ok_fac (by omega) (by omega) ?_
        | refine ok_is hS (by omega) (hG 26 (by omega) (by omega)) ?_
        | refine ok_rdFp hS (by omega) (hG 26 (by omega) (by omega)) rfl ?_
        | refine ok_rdFi hS (by omega) (hG 26 (by omega) (by omega)) rfl (fun _ _ _ => ?_)
        | refine ok_rdFz hS (by omega) (hG 26 (by omega) (by omega)) rfl (fun _ => ?_)
        | refine ok_rdFl hS (by omega) (hG 26 (by omega) (by omega)) rfl (fun _ => ?_)
        | refine ok_n0 hS (by omega) (hG 27 (by omega) (by omega)) ?_
        | refine ok_n1 hS (by omega) (hG 27 (by omega) (by omega)) (fun _ _ _ => ?_)
        | refine ok_n2 hS (by omega) (hG 27 (by omega) (by omega)) (fun _ _ _ => ?_)
        | refine ok_n24 hS (by omega) (hG 27 (by omega) (by omega)) (fun _ _ _ => ?_)
        | refine ok_n41 hS (by omega) (hG 27 (by omega) (by omega)) (fun _ _ _ => ?_)
        | refine ok_n46 hS (by omega) (hG 27 (by omega) (by omega)) (fun _ _ _ => ?_)
        | refine ok_n3 hS (by omega) (hG 27 (by omega) (by omega)) (by omega) (fun _ _ _ => ?_)
        | refine ok_n25 hS (by omega) (hG 27 (by omega) (by omega)) (by omega) (fun _ _ _ => ?_)
        | refine ok_nA hS (by omega) (hG 27 (by omega) (by omega)) (by omega) (fun _ => ?_)
        | refine ok_rdA hS (by omega) (hG _ (by omega) (by omega)) tR_id (by omega) (by omega) (by omega) (fun _ _ _ => ?_)
        | refine ok_rdW hS (by omega) (hG _ (by omega) (by omega)) (by omega) (by omega) (by omega) (fun _ => ?_)
        | refine ok_wrA hS (by omega) (hG 27 (by omega) (by omega)) (by omega) (by omega) (by omega) (fun L _ hL => nw_set hn (by omega) hL) (fun _ hS => ?_)
        | refine ok_wrA hS (by omega) (hG 27 (by omega) (by omega)) (by omega) (by omega) (by omega) (fun L _ hL => nw_put hn hL (by omega) (by omega) (by omega) (by omega) (fun _ => by omega) (fun _ => by omega) (fun _ => by omega) (fun _ _ => by omega) (fun _ => by omega)) (fun _ hS => ?_)
        | refine ok_wrA hS (by omega) (hG _ (by omega) (by omega)) (by omega) (by omega) (by omega) (fun L _ hL => tR_set (by omega) L hL) (fun _ hS => ?_)
        | refine ok_wrA hS (by omega) (hG _ (by omega) (by omega)) (by omega) (by omega) (by omega) (fun _ _ _ => trivial) (fun _ hS => ?_)
        | refine ok_wrF hS (by omega) (hG 26 (by omega) (by omega)) rfl (⟨_, rfl⟩ : fZ _) (fun _ hS => ?_)
        | refine ok_wrF hS (by omega) (hG 26 (by omega) (by omega)) rfl (⟨_, rfl⟩ : fL _) (fun _ hS => ?_)
        | refine ok_wrFE hS (by omega) (hG 26 (by omega) (by omega)) rfl (by omega) (fun _ hS _ => ?_)
        | (refine ok_if (fun hc => ?_) (fun hc => ?_) <;> try simp (disch := omega) only [wIn] at hc))
theorem tf_X6_put {G : xT} {N : Nat} {n tl : Int} {a b : Bool}  (hN : 45 ≤ N) (hn : 2 ≤ n ∧ n ≤ 7) (hG : ∀ q, 26 ≤ q → q < 45 → G q = R6 n tl a b q) (hf : 1 ≤ fac n ∧ fac n ≤ 5040) {k : Nat} {S : xS} {i0 : Int} {i1 : Int} (hS : Hp G N S) (hp : -2147483648 ≤ i0 ∧ i0 < 2147483648 ∧ -2147483648 ≤ i1 ∧ i1 < 2147483648 ∧ 6 ≤ (k : Int)) : Ok (f_X6_put k S 26 i0 i1) (fun r S' => Hp G N S' ∧ True) :=
  tg_X6_put hN hn hG hf k 0 S i0 i1 0 hS (Or.inl ⟨rfl, hp⟩)
theorem tg_X6_forget {G : xT} {N : Nat} {n tl : Int} {a b : Bool}  (hN : 45 ≤ N) (hn : 2 ≤ n ∧ n ≤ 7) (hG : ∀ q, 26 ≤ q → q < 45 → G q = R6 n tl a b q) (hf : 1 ≤ fac n ∧ fac n ≤ 5040) : ∀ (k lb : Nat) (S : xS) (i0 : Int) (i1 : Int) (i2 : Int), Hp G N S → ((lb = 0 ∧ -2147483648 ≤ i0 ∧ i0 < 2147483648 ∧ 100 ≤ (k : Int)) ∨ (lb = 1 ∧ 13 ≤ (k : Int)) ∨ (lb = 2 ∧ 0 ≤ i2 ∧ i2 ≤ 7 ∧ 10 - i2 ≤ (k : Int)) ∨ (lb = 3 ∧ 2 ≤ (k : Int))) → Ok (g_X6_forget k lb S 26 i0 i1 i2) (fun r S' => Hp G N S' ∧ True) := by
  intro k
  induction k with
  | zero => intro lb S i0 i1 i2 hS hp; exfalso; omega
  | succ k ih =>
    intro lb S i0 i1 i2 hS hp
    rcases hp with ⟨rfl, hp⟩ | ⟨rfl, hp⟩ | ⟨rfl, hp⟩ | ⟨rfl, hp⟩
    · show Ok (b_X6_forget_0 (g_X6_forget k) k S 26 i0 i1 i2) _
      unfold b_X6_forget_0
      repeat' (first
        | (refine ok_dead ?_; omega)
        | exact ok_some ⟨hS, by first | trivial | omega⟩
        | exact ih 1 _ _ _ _ hS (Or.inr (Or.inl ⟨rfl, by omega⟩))
        | (refine ok_bd2 (tf_X6_bad hN hn hG hS (by first | trivial | omega)) (fun _ _ hQ => ?_); obtain ⟨hS, hQ⟩ := hQ)
        | (refine ok_bd2 (tf_X6_known hN hn hG hS (by first | trivial | omega)) (fun _ _ hQ => ?_); obtain ⟨rfl, hQ⟩ := hQ)
        | (rw [wIn (n := n) (by omega) (by omega)]; refine ok_in (by omega) (by omega) (by omega) (by omega) (fun hc => ?_) (fun hc => ?_))
        | (rw [wIn (n := i0) (by omega) (by omega)]; refine ok_bd2 (tf_X6_tell hN hG hS (by omega)) (fun _ _ hQ => ?_); obtain ⟨hS, hQ⟩ := hQ)
        | rw [wIn (n := n - 1) (by omega) (by omega)]
        | refine ok_in (by omega) (by omega) (by omega) (by omega) (fun hc => ?_) (fun hc => ?_)
        | refine ok_ways6 hN hn hG hS (by omega) ?_
        | refine ok_n6 (by omega) (hG 26 (by omega) (by omega)) (hG 27 (by omega) (by omega)) hS ?_
        | refine ok_fac (by omega) (by omega) ?_
        | refine ok_is hS (by omega) (hG 26 (by omega) (by omega)) ?_
        | refine ok_rdFp hS (by omega) (hG 26 (by omega) (by omega)) rfl ?_
        | refine ok_rdFi hS (by omega) (hG 26 (by omega) (by omega)) rfl (fun _ _ _ => ?_)
        | refine ok_rdFz hS (by omega) (hG 26 (by omega) (by omega)) rfl (fun _ => ?_)
        | refine ok_rdFl hS (by omega) (hG 26 (by omega) (by omega)) rfl (fun _ => ?_)
        | refine ok_n0 hS (by omega) (hG 27 (by omega) (by omega)) ?_
        | refine ok_n1 hS (by omega) (hG 27 (by omega) (by omega)) (fun _ _ _ => ?_)
        | refine ok_n2 hS (by omega) (hG 27 (by omega) (by omega)) (fun _ _ _ => ?_)
        | refine ok_n24 hS (by omega) (hG 27 (by omega) (by omega)) (fun _ _ _ => ?_)
        | refine ok_n41 hS (by omega) (hG 27 (by omega) (by omega)) (fun _ _ _ => ?_)
        | refine ok_n46 hS (by omega) (hG 27 (by omega) (by omega)) (fun _ _ _ => ?_)
        | refine ok_n3 hS (by omega) (hG 27 (by omega) (by omega)) (by omega) (fun _ _ _ => ?_)
        | refine ok_n25 hS (by omega) (hG 27 (by omega) (by omega)) (by omega) (fun _ _ _ => ?_)
        | refine ok_nA hS (by omega) (hG 27 (by omega) (by omega)) (by omega) (fun _ => ?_)
        | refine ok_rdA hS (by omega) (hG _ (by omega) (by omega)) tR_id (by omega) (by omega) (by omega) (fun _ _ _ => ?_)
        | refine ok_rdW hS (by omega) (hG _ (by omega) (by omega)) (by omega) (by omega) (by omega) (fun _ => ?_)
        | refine ok_wrA hS (by omega) (hG 27 (by omega) (by omega)) (by omega) (by omega) (by omega) (fun L _ hL => nw_set hn (by omega) hL) (fun _ hS => ?_)
        | refine ok_wrA hS (by omega) (hG 27 (by omega) (by omega)) (by omega) (by omega) (by omega) (fun L _ hL => nw_put hn hL (by omega) (by omega) (by omega) (by omega) (fun _ => by omega) (fun _ => by omega) (fun _ => by omega) (fun _ _ => by omega) (fun _ => by omega)) (fun _ hS => ?_)
        | refine ok_wrA hS (by omega) (hG _ (by omega) (by omega)) (by omega) (by omega) (by omega) (fun L _ hL => tR_set (by omega) L hL) (fun _ hS => ?_)
        | refine ok_wrA hS (by omega) (hG _ (by omega) (by omega)) (by omega) (by omega) (by omega) (fun _ _ _ => trivial) (fun _ hS => ?_)
        | refine ok_wrF hS (by omega) (hG 26 (by omega) (by omega)) rfl (⟨_, rfl⟩ : fZ _) (fun _ hS => ?_)
        | refine ok_wrF hS (by omega) (hG 26 (by omega) (by omega)) rfl (⟨_, rfl⟩ : fL _) (fun _ hS => ?_)
        | refine ok_wrFE hS (by omega) (hG 26 (by omega) (by omega)) rfl (by omega) (fun _ hS _ => ?_)
        | (refine ok_if (fun hc => ?_) (fun hc => ?_) <;> try simp (disch := omega) only [wIn] at hc))
    · show Ok (b_X6_forget_1 (g_X6_forget k) k S 26 i0 i1 i2) _
      unfold b_X6_forget_1
      repeat' (first
        | (refine ok_dead ?_; omega)
        | exact ok_some ⟨hS, by first | trivial | omega⟩
        | exact ih 2 _ _ _ _ hS (Or.inr (Or.inr (Or.inl ⟨rfl, by omega⟩)))
        | (rw [wIn (n := n) (by omega) (by omega)]; refine ok_in (by omega) (by omega) (by omega) (by omega) (fun hc => ?_) (fun hc => ?_))
        | (rw [wIn (n := i0) (by omega) (by omega)]; refine ok_bd2 (tf_X6_tell hN hG hS (by omega)) (fun _ _ hQ => ?_); obtain ⟨hS, hQ⟩ := hQ)
        | rw [wIn (n := n - 1) (by omega) (by omega)]
        | refine ok_in (by omega) (by omega) (by omega) (by omega) (fun hc => ?_) (fun hc => ?_)
        | refine ok_ways6 hN hn hG hS (by omega) ?_
        | refine ok_n6 (by omega) (hG 26 (by omega) (by omega)) (hG 27 (by omega) (by omega)) hS ?_
        | refine ok_fac (by omega) (by omega) ?_
        | refine ok_is hS (by omega) (hG 26 (by omega) (by omega)) ?_
        | refine ok_rdFp hS (by omega) (hG 26 (by omega) (by omega)) rfl ?_
        | refine ok_rdFi hS (by omega) (hG 26 (by omega) (by omega)) rfl (fun _ _ _ => ?_)
        | refine ok_rdFz hS (by omega) (hG 26 (by omega) (by omega)) rfl (fun _ => ?_)
        | refine ok_rdFl hS (by omega) (hG 26 (by omega) (by omega)) rfl (fun _ => ?_)
        | refine ok_n0 hS (by omega) (hG 27 (by omega) (by omega)) ?_
        | refine ok_n1 hS (by omega) (hG 27 (by omega) (by omega)) (fun _ _ _ => ?_)
        | refine ok_n2 hS (by omega) (hG 27 (by omega) (by omega)) (fun _ _ _ => ?_)
        | refine ok_n24 hS (by omega) (hG 27 (by omega) (by omega)) (fun _ _ _ => ?_)
        | refine ok_n41 hS (by omega) (hG 27 (by omega) (by omega)) (fun _ _ _ => ?_)
        | refine ok_n46 hS (by omega) (hG 27 (by omega) (by omega)) (fun _ _ _ => ?_)
        | refine ok_n3 hS (by omega) (hG 27 (by omega) (by omega)) (by omega) (fun _ _ _ => ?_)
        | refine ok_n25 hS (by omega) (hG 27 (by omega) (by omega)) (by omega) (fun _ _ _ => ?_)
        | refine ok_nA hS (by omega) (hG 27 (by omega) (by omega)) (by omega) (fun _ => ?_)
        | refine ok_rdA hS (by omega) (hG _ (by omega) (by omega)) tR_id (by omega) (by omega) (by omega) (fun _ _ _ => ?_)
        | refine ok_rdW hS (by omega) (hG _ (by omega) (by omega)) (by omega) (by omega) (by omega) (fun _ => ?_)
        | refine ok_wrA hS (by omega) (hG 27 (by omega) (by omega)) (by omega) (by omega) (by omega) (fun L _ hL => nw_set hn (by omega) hL) (fun _ hS => ?_)
        | refine ok_wrA hS (by omega) (hG 27 (by omega) (by omega)) (by omega) (by omega) (by omega) (fun L _ hL => nw_put hn hL (by omega) (by omega) (by omega) (by omega) (fun _ => by omega) (fun _ => by omega) (fun _ => by omega) (fun _ _ => by omega) (fun _ => by omega)) (fun _ hS => ?_)
        | refine ok_wrA hS (by omega) (hG _ (by omega) (by omega)) (by omega) (by omega) (by omega) (fun L _ hL => tR_set (by omega) L hL) (fun _ hS => ?_)
        | refine ok_wrA hS (by omega) (hG _ (by omega) (by omega)) (by omega) (by omega) (by omega) (fun _ _ _ => trivial) (fun _ hS => ?_)
        | refine ok_wrF hS (by omega) (hG 26 (by omega) (by omega)) rfl (⟨_, rfl⟩ : fZ _) (fun _ hS => ?_)
        | refine ok_wrF hS (by omega) (hG 26 (by omega) (by omega)) rfl (⟨_, rfl⟩ : fL _) (fun _ hS => ?_)
        | refine ok_wrFE hS (by omega) (hG 26 (by omega) (by omega)) rfl (by omega) (fun _ hS _ => ?_)
        | (refine ok_if (fun hc => ?_) (fun hc => ?_) <;> try simp (disch := omega) only [wIn] at hc))
    · show Ok (b_X6_forget_2 (g_X6_forget k) k S 26 i0 i1 i2) _
      unfold b_X6_forget_2
      repeat' (first
        | (refine ok_dead ?_; omega)
        | exact ok_some ⟨hS, by first | trivial | omega⟩
        | exact ih 2 _ _ _ _ hS (Or.inr (Or.inr (Or.inl ⟨rfl, by omega⟩)))
        | exact ih 3 _ _ _ _ hS (Or.inr (Or.inr (Or.inr (⟨rfl, by omega⟩))))
        | (rw [wIn (n := n) (by omega) (by omega)]; refine ok_in (by omega) (by omega) (by omega) (by omega) (fun hc => ?_) (fun hc => ?_))
        | (rw [wIn (n := i0) (by omega) (by omega)]; refine ok_bd2 (tf_X6_tell hN hG hS (by omega)) (fun _ _ hQ => ?_); obtain ⟨hS, hQ⟩ := hQ)
        | rw [wIn (n := n - 1) (by omega) (by omega)]
        | refine ok_in (by omega) (by omega) (by omega) (by omega) (fun hc => ?_) (fun hc => ?_)
        | refine ok_ways6 hN hn hG hS (by omega) ?_
        | refine ok_n6 (by omega) (hG 26 (by omega) (by omega)) (hG 27 (by omega) (by omega)) hS ?_
        | refine ok_fac (by omega) (by omega) ?_
        | refine ok_is hS (by omega) (hG 26 (by omega) (by omega)) ?_
        | refine ok_rdFp hS (by omega) (hG 26 (by omega) (by omega)) rfl ?_
        | refine ok_rdFi hS (by omega) (hG 26 (by omega) (by omega)) rfl (fun _ _ _ => ?_)
        | refine ok_rdFz hS (by omega) (hG 26 (by omega) (by omega)) rfl (fun _ => ?_)
        | refine ok_rdFl hS (by omega) (hG 26 (by omega) (by omega)) rfl (fun _ => ?_)
        | refine ok_n0 hS (by omega) (hG 27 (by omega) (by omega)) ?_
        | refine ok_n1 hS (by omega) (hG 27 (by omega) (by omega)) (fun _ _ _ => ?_)
        | refine ok_n2 hS (by omega) (hG 27 (by omega) (by omega)) (fun _ _ _ => ?_)
        | refine ok_n24 hS (by omega) (hG 27 (by omega) (by omega)) (fun _ _ _ => ?_)
        | refine ok_n41 hS (by omega) (hG 27 (by omega) (by omega)) (fun _ _ _ => ?_)
        | refine ok_n46 hS (by omega) (hG 27 (by omega) (by omega)) (fun _ _ _ => ?_)
        | refine ok_n3 hS (by omega) (hG 27 (by omega) (by omega)) (by omega) (fun _ _ _ => ?_)
        | refine ok_n25 hS (by omega) (hG 27 (by omega) (by omega)) (by omega) (fun _ _ _ => ?_)
        | refine ok_nA hS (by omega) (hG 27 (by omega) (by omega)) (by omega) (fun _ => ?_)
        | refine ok_rdA hS (by omega) (hG _ (by omega) (by omega)) tR_id (by omega) (by omega) (by omega) (fun _ _ _ => ?_)
        | refine ok_rdW hS (by omega) (hG _ (by omega) (by omega)) (by omega) (by omega) (by omega) (fun _ => ?_)
        | refine ok_wrA hS (by omega) (hG 27 (by omega) (by omega)) (by omega) (by omega) (by omega) (fun L _ hL => nw_set hn (by omega) hL) (fun _ hS => ?_)
        | refine ok_wrA hS (by omega) (hG 27 (by omega) (by omega)) (by omega) (by omega) (by omega) (fun L _ hL => nw_put hn hL (by omega) (by omega) (by omega) (by omega) (fun _ => by omega) (fun _ => by omega) (fun _ => by omega) (fun _ _ => by omega) (fun _ => by omega)) (fun _ hS => ?_)
        | refine ok_wrA hS (by omega) (hG _ (by omega) (by omega)) (by omega) (by omega) (by omega) (fun L _ hL => tR_set (by omega) L hL) (fun _ hS => ?_)
        | refine ok_wrA hS (by omega) (hG _ (by omega) (by omega)) (by omega) (by omega) (by omega) (fun _ _ _ => trivial) (fun _ hS => ?_)
        | refine ok_wrF hS (by omega) (hG 26 (by omega) (by omega)) rfl (⟨_, rfl⟩ : fZ _) (fun _ hS => ?_)
        | refine ok_wrF hS (by omega) (hG 26 (by omega) (by omega)) rfl (⟨_, rfl⟩ : fL _) (fun _ hS => ?_)
        | refine ok_wrFE hS (by omega) (hG 26 (by omega) (by omega)) rfl (by omega) (fun _ hS _ => ?_)
        | (refine ok_if (fun hc => ?_) (fun hc => ?_) <;> try simp (disch := omega) only [wIn] at hc))
    · show Ok (b_X6_forget_3 (g_X6_forget k) k S 26 i0 i1 i2) _
      unfold b_X6_forget_3
      repeat' (first
        | (refine ok_dead ?_; omega)
        | exact ok_some ⟨hS, by first | trivial | omega⟩
        | (rw [wIn (n := n) (by omega) (by omega)]; refine ok_in (by omega) (by omega) (by omega) (by omega) (fun hc => ?_) (fun hc => ?_))
        | (rw [wIn (n := i0) (by omega) (by omega)]; refine ok_bd2 (tf_X6_tell hN hG hS (by omega)) (fun _ _ hQ => ?_); obtain ⟨hS, hQ⟩ := hQ)
        | rw [wIn (n := n - 1) (by omega) (by omega)]
        | refine ok_in (by omega) (by omega) (by omega) (by omega) (fun hc => ?_) (fun hc => ?_)
        | refine ok_ways6 hN hn hG hS (by omega) ?_
        | refine ok_n6 (by omega) (hG 26 (by omega) (by omega)) (hG 27 (by omega) (by omega)) hS ?_
        | refine ok_fac (by omega) (by omega) ?_
        | refine ok_is hS (by omega) (hG 26 (by omega) (by omega)) ?_
        | refine ok_rdFp hS (by omega) (hG 26 (by omega) (by omega)) rfl ?_
        | refine ok_rdFi hS (by omega) (hG 26 (by omega) (by omega)) rfl (fun _ _ _ => ?_)
        | refine ok_rdFz hS (by omega) (hG 26 (by omega) (by omega)) rfl (fun _ => ?_)
        | refine ok_rdFl hS (by omega) (hG 26 (by omega) (by omega)) rfl (fun _ => ?_)
        | refine ok_n0 hS (by omega) (hG 27 (by omega) (by omega)) ?_
        | refine ok_n1 hS (by omega) (hG 27 (by omega) (by omega)) (fun _ _ _ => ?_)
        | refine ok_n2 hS (by omega) (hG 27 (by omega) (by omega)) (fun _ _ _ => ?_)
        | refine ok_n24 hS (by omega) (hG 27 (by omega) (by omega)) (fun _ _ _ => ?_)
        | refine ok_n41 hS (by omega) (hG 27 (by omega) (by omega)) (fun _ _ _ => ?_)
        | refine ok_n46 hS (by omega) (hG 27 (by omega) (by omega)) (fun _ _ _ => ?_)
        | refine ok_n3 hS (by omega) (hG 27 (by omega) (by omega)) (by omega) (fun _ _ _ => ?_)
        | refine ok_n25 hS (by omega) (hG 27 (by omega) (by omega)) (by omega) (fun _ _ _ => ?_)
        | refine ok_nA hS (by omega) (hG 27 (by omega) (by omega)) (by omega) (fun _ => ?_)
        | refine ok_rdA hS (by omega) (hG _ (by omega) (by omega)) tR_id (by omega) (by omega) (by omega) (fun _ _ _ => ?_)
        | refine ok_rdW hS (by omega) (hG _ (by omega) (by omega)) (by omega) (by omega) (by omega) (fun _ => ?_)
        | refine ok_wrA hS (by omega) (hG 27 (by omega) (by omega)) (by omega) (by omega) (by omega) (fun L _ hL => nw_set hn (by omega) hL) (fun _ hS => ?_)
        | refine ok_wrA hS (by omega) (hG 27 (by omega) (by omega)) (by omega) (by omega) (by omega) (fun L _ hL => nw_put hn hL (by omega) (by omega) (by omega) (by omega) (fun _ => by omega) (fun _ => by omega) (fun _ => by omega) (fun _ _ => by omega) (fun _ => by omega)) (fun _ hS => ?_)
        | refine ok_wrA hS (by omega) (hG _ (by omega) (by omega)) (by omega) (by omega) (by omega) (fun L _ hL => tR_set (by omega) L hL) (fun _ hS => ?_)
        | refine ok_wrA hS (by omega) (hG _ (by omega) (by omega)) (by omega) (by omega) (by omega) (fun _ _ _ => trivial) (fun _ hS => ?_)
        | refine ok_wrF hS (by omega) (hG 26 (by omega) (by omega)) rfl (⟨_, rfl⟩ : fZ _) (fun _ hS => ?_)
        | refine ok_wrF hS (by omega) (hG 26 (by omega) (by omega)) rfl (⟨_, rfl⟩ : fL _) (fun _ hS => ?_)
        | refine ok_wrFE hS (by omega) (hG 26 (by omega) (by omega)) rfl (by omega) (fun _ hS _ => ?_)
        | (refine ok_if (fun hc => ?_) (fun hc => ?_) <;> try simp (disch := omega) only [wIn] at hc))
theorem tf_X6_forget {G : xT} {N : Nat} {n tl : Int} {a b : Bool}  (hN : 45 ≤ N) (hn : 2 ≤ n ∧ n ≤ 7) (hG : ∀ q, 26 ≤ q → q < 45 → G q = R6 n tl a b q) (hf : 1 ≤ fac n ∧ fac n ≤ 5040) {k : Nat} {S : xS} {i0 : Int} (hS : Hp G N S) (hp : -2147483648 ≤ i0 ∧ i0 < 2147483648 ∧ 100 ≤ (k : Int)) : Ok (f_X6_forget k S 26 i0) (fun r S' => Hp G N S' ∧ True) :=
  tg_X6_forget hN hn hG hf k 0 S i0 0 0 hS (Or.inl ⟨rfl, hp⟩)
