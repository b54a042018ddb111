variable {G : xT} {N : Nat} {n tl : Int} {a b : Bool}
theorem tg2_X6_layHand (hN : 45 ≤ N) (hn : 2 ≤ n ∧ n ≤ 7) (hG : ∀ q, 26 ≤ q → q < 45 → G q = R6 n tl a b q) : ∀ (k : Nat) (S : xS) (i0 i1 : Int), Hp G N S → (0 ≤ i0 ∧ i0 < 2147483648 ∧ 0 ≤ i1 ∧ i1 ≤ 6 ∧ i1 + 2 ≤ (k : Int)) → Ok (g_X6_layHand k 2 S 26 i0 i1) (fun _ S' => Hp G N S' ∧ True) := by
  intro k
  induction k with
  | zero => intro S i0 i1 hS hp; exfalso; omega
  | succ k ih =>
    intro S i0 i1 hS hp
    show Ok (b_X6_layHand_2 (g_X6_layHand k) k S 26 i0 i1) _
    unfold b_X6_layHand_2
    refine ok_if (fun hc => ?_) (fun hc => ?_)
    · exact ok_some ⟨hS, trivial⟩
    · rw [wIn (n := i1) (by omega) (by omega)] at hc
      refine ok_neg (by decide) ?_
      have hx := t_sx (x := i0) (by omega)
      show Ok (if wL 65536 = 0 then none else if wL (wI (i1 + 1)) = 0 then none else if isO 5 S 26 = true then bd2 (f_X6_swapHand k S 26 i1 ((wL ((wL ((wL ((i0 * 1103515245) + 12345)).tmod (wL 2147483648))).tdiv (wL 65536))).tmod (wL (wI (i1 + 1))))) fun z16 S14 => g_X6_layHand k 2 S14 26 ((wL ((i0 * 1103515245) + 12345)).tmod (wL 2147483648)) (i1 + (-1)) else none) _
      generalize (wL ((i0 * 1103515245) + 12345)).tmod (wL 2147483648) = v at hx ⊢
      refine ok_neg (by decide) (ok_neg (by rw [wIn (n := i1 + 1) (by omega) (by omega), wL_id (by omega) (by omega)]; omega) ?_)
      have hj := t_sd (v := v) (b := i1) hx (by omega)
      rw [if_pos (is6 hN (hG 26 (by omega) (by omega)) hS)]
      refine ok_bd2 (tf_X6_swapHand hN hn hG hS ⟨by omega, by omega, hj.1, hj.2⟩) (fun _ _ hQ => ?_)
      obtain ⟨hS, -⟩ := hQ
      exact ih _ _ _ hS (by omega)
theorem tg1_X6_layHand (hN : 45 ≤ N) (hn : 2 ≤ n ∧ n ≤ 7) (hG : ∀ q, 26 ≤ q → q < 45 → G q = R6 n tl a b q) : ∀ (k : Nat) (S : xS) (i0 i1 : Int), Hp G N S → (0 ≤ i0 ∧ i0 < 2147483648 ∧ 0 ≤ i1 ∧ i1 ≤ n ∧ n - i1 + 20 ≤ (k : Int)) → Ok (g_X6_layHand k 1 S 26 i0 i1) (fun _ S' => Hp G N S' ∧ True) := by
  intro k
  induction k with
  | zero => intro S i0 i1 hS hp; exfalso; omega
  | succ k ih =>
    intro S i0 i1 hS hp
    show Ok (b_X6_layHand_1 (g_X6_layHand k) k S 26 i0 i1) _
    unfold b_X6_layHand_1
    rw [if_pos (is6 hN (hG 26 (by omega) (by omega)) hS)]
    refine ok_n6 (by omega) (hG 26 (by omega) (by omega)) (hG 27 (by omega) (by omega)) hS ?_
    rw [wIn (n := n) (by omega) (by omega), wIn (n := i1) (by omega) (by omega)]
    refine ok_if (fun hc => ?_) (fun hc => ?_)
    · rw [if_pos (is6 hN (hG 26 (by omega) (by omega)) hS)]
      refine ok_n6 (by omega) (hG 26 (by omega) (by omega)) (hG 27 (by omega) (by omega)) hS ?_
      show Ok (g_X6_layHand k 2 S 26 i0 (n - 1)) _
      exact tg2_X6_layHand hN hn hG k S i0 (n - 1) hS (by omega)
    · refine ok_rdFp hS (by omega) (hG 26 (by omega) (by omega)) rfl ?_
      refine ok_wrA hS (by omega) (hG 31 (by omega) (by omega)) (by omega) (by omega) (by omega) (fun L _ hL => tR_set (by omega) L hL) (fun _ hS => ?_)
      show Ok (g_X6_layHand k 1 _ 26 i0 (i1 + 1)) _
      exact ih _ _ _ hS (by omega)
theorem tf_X6_layHand (hN : 45 ≤ N) (hn : 2 ≤ n ∧ n ≤ 7) (hG : ∀ q, 26 ≤ q → q < 45 → G q = R6 n tl a b q) {k : Nat} {S : xS} {i0 : Int} (hS : Hp G N S) (hp : 0 ≤ i0 ∧ i0 < 2147483648 ∧ 40 ≤ (k : Int)) : Ok (f_X6_layHand k S 26 i0) (fun _ S' => Hp G N S' ∧ True) := by
  obtain ⟨k, rfl⟩ : ∃ k', k = k' + 1 := ⟨k - 1, by omega⟩
  show Ok (g_X6_layHand k 1 S 26 i0 0) _
  exact tg1_X6_layHand hN hn hG k S i0 0 hS (by omega)
theorem tf_X6_laid {G : xT} {N : Nat} {n tl : Int} {a b : Bool}  (hN : 45 ≤ N) (hn : 2 ≤ n ∧ n ≤ 7) (hG : ∀ q, 26 ≤ q → q < 45 → G q = R6 n tl a b q) (hf : 1 ≤ fac n ∧ fac n ≤ 5040) {k : Nat} {S : xS} {i0 : Int} (hS : Hp G N S) (hp : -2147483648 ≤ i0 ∧ i0 < 2147483648 ∧ 140 ≤ (k : Int)) : Ok (f_X6_laid k S 26 i0) (fun r S' => Hp G N S' ∧ True) := by
  unfold f_X6_laid
  repeat' (first
    | (refine ok_dead ?_; omega)
    | exact ok_some ⟨hS, by first | trivial | omega⟩
    | (refine ok_bd2 (tf_X6_isSeed hN hn hG hS (by first | trivial | omega)) (fun _ _ hQ => ?_); obtain ⟨rfl, hQ⟩ := hQ)
    | (refine ok_bd2 (tf_X6_bad hN hn hG hS (by first | trivial | omega)) (fun _ _ hQ => ?_); obtain ⟨hS, hQ⟩ := hQ)
    | (refine ok_bd2 (tf_X6_layHand hN hn hG hS (by first | trivial | omega)) (fun _ _ hQ => ?_); obtain ⟨hS, hQ⟩ := hQ)
    | (refine ok_bd2 (tf_X6_rankOf hN hn (hG 26 (by omega) (by omega)) (hG 27 (by omega) (by omega)) (hG 31 (by omega) (by omega)) hS (by first | trivial | omega)) (fun _ _ hQ => ?_); obtain ⟨rfl, hQ⟩ := hQ)
    | (rw [wIn (n := i0) (by omega) (by omega)]; refine ok_bd2 (tf_X6_layHand hN hn hG hS (by omega)) (fun _ _ hQ => ?_); obtain ⟨hS, hQ⟩ := hQ)
    | (rw [wIn (n := i0) (by omega) (by omega), wIn (n := i3) (by omega) (by omega)]; refine ok_bd2 (tf_X6_layHand hN hn hG hS (by omega)) (fun _ _ hQ => ?_); obtain ⟨hS, hQ⟩ := hQ)
    | rw [wIn (n := n - 1) (by omega) (by omega)]
    | refine ok_in (by omega) (by omega) (by omega) (by omega) (fun hc => ?_) (fun hc => ?_)
    | refine ok_ways6 hN hn hG hS (by omega) ?_
    | refine ok_n6 (by omega) (hG 26 (by omega) (by omega)) (hG 27 (by omega) (by omega)) hS ?_
    | refine ok_fac (by omega) (by omega) ?_
    | refine ok_is hS (by omega) (hG 26 (by omega) (by omega)) ?_
    | refine ok_rdFp hS (by omega) (hG 26 (by omega) (by omega)) rfl ?_
    | refine ok_rdFi hS (by omega) (hG 26 (by omega) (by omega)) rfl (fun _ _ _ => ?_)
    | refine ok_rdFz hS (by omega) (hG 26 (by omega) (by omega)) rfl (fun _ => ?_)
    | refine ok_rdFl hS (by omega) (hG 26 (by omega) (by omega)) rfl (fun _ => ?_)
    | refine ok_n0 hS (by omega) (hG 27 (by omega) (by omega)) ?_
    | refine ok_n1 hS (by omega) (hG 27 (by omega) (by omega)) (fun _ _ _ => ?_)
    | refine ok_n2 hS (by omega) (hG 27 (by omega) (by omega)) (fun _ _ _ => ?_)
    | refine ok_n24 hS (by omega) (hG 27 (by omega) (by omega)) (fun _ _ _ => ?_)
    | refine ok_n41 hS (by omega) (hG 27 (by omega) (by omega)) (fun _ _ _ => ?_)
    | refine ok_n46 hS (by omega) (hG 27 (by omega) (by omega)) (fun _ _ _ => ?_)
    | refine ok_n3 hS (by omega) (hG 27 (by omega) (by omega)) (by omega) (fun _ _ _ => ?_)
    | refine ok_n25 hS (by omega) (hG 27 (by omega) (by omega)) (by omega) (fun _ _ _ => ?_)
    | refine ok_nA hS (by omega) (hG 27 (by omega) (by omega)) (by omega) (fun _ => ?_)
    | refine ok_rdA hS (by omega) (hG _ (by omega) (by omega)) tR_id (by omega) (by omega) (by omega) (fun _ _ _ => ?_)
    | refine ok_rdW hS (by omega) (hG _ (by omega) (by omega)) (by omega) (by omega) (by omega) (fun _ => ?_)
    | refine ok_wrA hS (by omega) (hG 27 (by omega) (by omega)) (by omega) (by omega) (by omega) (fun L _ hL => nw_set hn (by omega) hL) (fun _ hS => ?_)
    | refine ok_wrA hS (by omega) (hG _ (by omega) (by omega)) (by omega) (by omega) (by omega) (fun L _ hL => tR_set (by omega) L hL) (fun _ hS => ?_)
    | refine ok_wrA hS (by omega) (hG _ (by omega) (by omega)) (by omega) (by omega) (by omega) (fun _ _ _ => trivial) (fun _ hS => ?_)
    | refine ok_wrF hS (by omega) (hG 26 (by omega) (by omega)) rfl (⟨_, rfl⟩ : fZ _) (fun _ hS => ?_)
    | refine ok_wrF hS (by omega) (hG 26 (by omega) (by omega)) rfl (⟨_, rfl⟩ : fL _) (fun _ hS => ?_)
    | refine ok_wrFE hS (by omega) (hG 26 (by omega) (by omega)) rfl (by omega) (fun _ hS _ => ?_)
    | (refine ok_if (fun hc => ?_) (fun hc => ?_) <;> try simp (disch := omega) only [wIn] at hc))
theorem tg_X6_lucky {G : xT} {N : Nat} {n tl : Int} {a b : Bool}  (hN : 45 ≤ N) (hn : 2 ≤ n ∧ n ≤ 7) (hG : ∀ q, 26 ≤ q → q < 45 → G q = R6 n tl a b q) (hf : 1 ≤ fac n ∧ fac n ≤ 5040) : ∀ (k lb : Nat) (S : xS) (i0 : Int) (i1 : Int) (i2 : Int) (i3 : Int) (i4 : Int), Hp G N S → ((lb = 0 ∧ -2147483648 ≤ i0 ∧ i0 < 2147483648 ∧ -2147483648 ≤ i1 ∧ i1 < 2147483648 ∧ 400 ≤ (k : Int)) ∨ (lb = 1 ∧ 1 ≤ (k : Int)) ∨ (lb = 2 ∧ 0 ≤ i0 ∧ i0 ≤ 999999 ∧ 0 ≤ i1 ∧ i1 ≤ 60 ∧ 0 ≤ i3 ∧ i3 ≤ i1 ∧ 2 * (60 - i3) + 200 ≤ (k : Int)) ∨ (lb = 3 ∧ 0 ≤ i0 ∧ i0 ≤ 999999 ∧ 0 ≤ i1 ∧ i1 ≤ 60 ∧ 0 ≤ i2 ∧ i2 < i1 ∧ 2 * (60 - i2) + 199 ≤ (k : Int))) → Ok (g_X6_lucky k lb S 26 i0 i1 i2 i3 i4) (fun r S' => Hp G N S' ∧ True) := by
  intro k
  induction k with
  | zero => intro lb S i0 i1 i2 i3 i4 hS hp; exfalso; omega
  | succ k ih =>
    intro lb S i0 i1 i2 i3 i4 hS hp
    rcases hp with ⟨rfl, hp⟩ | ⟨rfl, hp⟩ | ⟨rfl, hp⟩ | ⟨rfl, hp⟩
    · show Ok (b_X6_lucky_0 (g_X6_lucky k) k S 26 i0 i1 i2 i3 i4) _
      unfold b_X6_lucky_0
      repeat' (first
        | (refine ok_dead ?_; omega)
        | exact ok_some ⟨hS, by first | trivial | omega⟩
        | exact ih 1 _ _ _ _ _ _ hS (Or.inr (Or.inl ⟨rfl, by omega⟩))
        | exact ih 2 _ _ _ _ _ _ hS (Or.inr (Or.inr (Or.inl ⟨rfl, by omega⟩)))
        | (refine ok_bd2 (tf_X6_isSeed hN hn hG hS (by first | trivial | omega)) (fun _ _ hQ => ?_); obtain ⟨rfl, hQ⟩ := hQ)
        | (rw [wIn (n := i0) (by omega) (by omega)]; refine ok_bd2 (tf_X6_layHand hN hn hG hS (by omega)) (fun _ _ hQ => ?_); obtain ⟨hS, hQ⟩ := hQ)
        | (rw [wIn (n := i0) (by omega) (by omega), wIn (n := i3) (by omega) (by omega)]; refine ok_bd2 (tf_X6_layHand hN hn hG hS (by omega)) (fun _ _ hQ => ?_); obtain ⟨hS, hQ⟩ := hQ)
        | rw [wIn (n := n - 1) (by omega) (by omega)]
        | refine ok_in (by omega) (by omega) (by omega) (by omega) (fun hc => ?_) (fun hc => ?_)
        | refine ok_ways6 hN hn hG hS (by omega) ?_
        | refine ok_n6 (by omega) (hG 26 (by omega) (by omega)) (hG 27 (by omega) (by omega)) hS ?_
        | refine ok_fac (by omega) (by omega) ?_
        | refine ok_is hS (by omega) (hG 26 (by omega) (by omega)) ?_
        | refine ok_rdFp hS (by omega) (hG 26 (by omega) (by omega)) rfl ?_
        | refine ok_rdFi hS (by omega) (hG 26 (by omega) (by omega)) rfl (fun _ _ _ => ?_)
        | refine ok_rdFz hS (by omega) (hG 26 (by omega) (by omega)) rfl (fun _ => ?_)
        | refine ok_rdFl hS (by omega) (hG 26 (by omega) (by omega)) rfl (fun _ => ?_)
        | refine ok_n0 hS (by omega) (hG 27 (by omega) (by omega)) ?_
        | refine ok_n1 hS (by omega) (hG 27 (by omega) (by omega)) (fun _ _ _ => ?_)
        | refine ok_n2 hS (by omega) (hG 27 (by omega) (by omega)) (fun _ _ _ => ?_)
        | refine ok_n24 hS (by omega) (hG 27 (by omega) (by omega)) (fun _ _ _ => ?_)
        | refine ok_n41 hS (by omega) (hG 27 (by omega) (by omega)) (fun _ _ _ => ?_)
        | refine ok_n46 hS (by omega) (hG 27 (by omega) (by omega)) (fun _ _ _ => ?_)
        | refine ok_n3 hS (by omega) (hG 27 (by omega) (by omega)) (by omega) (fun _ _ _ => ?_)
        | refine ok_n25 hS (by omega) (hG 27 (by omega) (by omega)) (by omega) (fun _ _ _ => ?_)
        | refine ok_nA hS (by omega) (hG 27 (by omega) (by omega)) (by omega) (fun _ => ?_)
        | refine ok_rdA hS (by omega) (hG _ (by omega) (by omega)) tR_id (by omega) (by omega) (by omega) (fun _ _ _ => ?_)
        | refine ok_rdW hS (by omega) (hG _ (by omega) (by omega)) (by omega) (by omega) (by omega) (fun _ => ?_)
        | refine ok_wrA hS (by omega) (hG 27 (by omega) (by omega)) (by omega) (by omega) (by omega) (fun L _ hL => nw_set hn (by omega) hL) (fun _ hS => ?_)
        | refine ok_wrA hS (by omega) (hG _ (by omega) (by omega)) (by omega) (by omega) (by omega) (fun L _ hL => tR_set (by omega) L hL) (fun _ hS => ?_)
        | refine ok_wrA hS (by omega) (hG _ (by omega) (by omega)) (by omega) (by omega) (by omega) (fun _ _ _ => trivial) (fun _ hS => ?_)
        | refine ok_wrF hS (by omega) (hG 26 (by omega) (by omega)) rfl (⟨_, rfl⟩ : fZ _) (fun _ hS => ?_)
        | refine ok_wrF hS (by omega) (hG 26 (by omega) (by omega)) rfl (⟨_, rfl⟩ : fL _) (fun _ hS => ?_)
        | refine ok_wrFE hS (by omega) (hG 26 (by omega) (by omega)) rfl (by omega) (fun _ hS _ => ?_)
        | (refine ok_if (fun hc => ?_) (fun hc => ?_) <;> try simp (disch := omega) only [wIn] at hc))
    · show Ok (b_X6_lucky_1 (g_X6_lucky k) k S 26 i0 i1 i2 i3 i4) _
      unfold b_X6_lucky_1
      repeat' (first
        | (refine ok_dead ?_; omega)
        | exact ok_some ⟨hS, by first | trivial | omega⟩
        | (refine ok_bd2 (tf_X6_bad hN hn hG hS (by first | trivial | omega)) (fun _ _ hQ => ?_); obtain ⟨hS, hQ⟩ := hQ)
        | (rw [wIn (n := i0) (by omega) (by omega)]; refine ok_bd2 (tf_X6_layHand hN hn hG hS (by omega)) (fun _ _ hQ => ?_); obtain ⟨hS, hQ⟩ := hQ)
        | (rw [wIn (n := i0) (by omega) (by omega), wIn (n := i3) (by omega) (by omega)]; refine ok_bd2 (tf_X6_layHand hN hn hG hS (by omega)) (fun _ _ hQ => ?_); obtain ⟨hS, hQ⟩ := hQ)
        | rw [wIn (n := n - 1) (by omega) (by omega)]
        | refine ok_in (by omega) (by omega) (by omega) (by omega) (fun hc => ?_) (fun hc => ?_)
        | refine ok_ways6 hN hn hG hS (by omega) ?_
        | refine ok_n6 (by omega) (hG 26 (by omega) (by omega)) (hG 27 (by omega) (by omega)) hS ?_
        | refine ok_fac (by omega) (by omega) ?_
        | refine ok_is hS (by omega) (hG 26 (by omega) (by omega)) ?_
        | refine ok_rdFp hS (by omega) (hG 26 (by omega) (by omega)) rfl ?_
        | refine ok_rdFi hS (by omega) (hG 26 (by omega) (by omega)) rfl (fun _ _ _ => ?_)
        | refine ok_rdFz hS (by omega) (hG 26 (by omega) (by omega)) rfl (fun _ => ?_)
        | refine ok_rdFl hS (by omega) (hG 26 (by omega) (by omega)) rfl (fun _ => ?_)
        | refine ok_n0 hS (by omega) (hG 27 (by omega) (by omega)) ?_
        | refine ok_n1 hS (by omega) (hG 27 (by omega) (by omega)) (fun _ _ _ => ?_)
        | refine ok_n2 hS (by omega) (hG 27 (by omega) (by omega)) (fun _ _ _ => ?_)
        | refine ok_n24 hS (by omega) (hG 27 (by omega) (by omega)) (fun _ _ _ => ?_)
        | refine ok_n41 hS (by omega) (hG 27 (by omega) (by omega)) (fun _ _ _ => ?_)
        | refine ok_n46 hS (by omega) (hG 27 (by omega) (by omega)) (fun _ _ _ => ?_)
        | refine ok_n3 hS (by omega) (hG 27 (by omega) (by omega)) (by omega) (fun _ _ _ => ?_)
        | refine ok_n25 hS (by omega) (hG 27 (by omega) (by omega)) (by omega) (fun _ _ _ => ?_)
        | refine ok_nA hS (by omega) (hG 27 (by omega) (by omega)) (by omega) (fun _ => ?_)
        | refine ok_rdA hS (by omega) (hG _ (by omega) (by omega)) tR_id (by omega) (by omega) (by omega) (fun _ _ _ => ?_)
        | refine ok_rdW hS (by omega) (hG _ (by omega) (by omega)) (by omega) (by omega) (by omega) (fun _ => ?_)
        | refine ok_wrA hS (by omega) (hG 27 (by omega) (by omega)) (by omega) (by omega) (by omega) (fun L _ hL => nw_set hn (by omega) hL) (fun _ hS => ?_)
        | refine ok_wrA hS (by omega) (hG _ (by omega) (by omega)) (by omega) (by omega) (by omega) (fun L _ hL => tR_set (by omega) L hL) (fun _ hS => ?_)
        | refine ok_wrA hS (by omega) (hG _ (by omega) (by omega)) (by omega) (by omega) (by omega) (fun _ _ _ => trivial) (fun _ hS => ?_)
        | refine ok_wrF hS (by omega) (hG 26 (by omega) (by omega)) rfl (⟨_, rfl⟩ : fZ _) (fun _ hS => ?_)
        | refine ok_wrF hS (by omega) (hG 26 (by omega) (by omega)) rfl (⟨_, rfl⟩ : fL _) (fun _ hS => ?_)
        | refine ok_wrFE hS (by omega) (hG 26 (by omega) (by omega)) rfl (by omega) (fun _ hS _ => ?_)
        | (refine ok_if (fun hc => ?_) (fun hc => ?_) <;> try simp (disch := omega) only [wIn] at hc))
    · show Ok (b_X6_lucky_2 (g_X6_lucky k) k S 26 i0 i1 i2 i3 i4) _
      unfold b_X6_lucky_2
      repeat' (first
        | (refine ok_dead ?_; omega)
        | exact ok_some ⟨hS, by first | trivial | omega⟩
        | exact ih 3 _ _ _ _ _ _ hS (Or.inr (Or.inr (Or.inr (⟨rfl, by omega⟩))))
        | (refine ok_bd2 (tf_X6_layHand hN hn hG hS (by first | trivial | omega)) (fun _ _ hQ => ?_); obtain ⟨hS, hQ⟩ := hQ)
        | (refine ok_bd2 (tf_X6_findsHand hN hn hG hf hS (by first | trivial | omega)) (fun _ _ hQ => ?_); obtain ⟨hS, hQ⟩ := hQ)
        | (refine ok_bd2 (tf_X6_all hN hn hG hf hS (by first | trivial | omega)) (fun _ _ hQ => ?_); obtain ⟨rfl, hQ⟩ := hQ)
        | (rw [wIn (n := i0) (by omega) (by omega)]; refine ok_bd2 (tf_X6_layHand hN hn hG hS (by omega)) (fun _ _ hQ => ?_); obtain ⟨hS, hQ⟩ := hQ)
        | (rw [wIn (n := i0) (by omega) (by omega), wIn (n := i3) (by omega) (by omega)]; refine ok_bd2 (tf_X6_layHand hN hn hG hS (by omega)) (fun _ _ hQ => ?_); obtain ⟨hS, hQ⟩ := hQ)
        | rw [wIn (n := n - 1) (by omega) (by omega)]
        | refine ok_in (by omega) (by omega) (by omega) (by omega) (fun hc => ?_) (fun hc => ?_)
        | refine ok_ways6 hN hn hG hS (by omega) ?_
        | refine ok_n6 (by omega) (hG 26 (by omega) (by omega)) (hG 27 (by omega) (by omega)) hS ?_
        | refine ok_fac (by omega) (by omega) ?_
        | refine ok_is hS (by omega) (hG 26 (by omega) (by omega)) ?_
        | refine ok_rdFp hS (by omega) (hG 26 (by omega) (by omega)) rfl ?_
        | refine ok_rdFi hS (by omega) (hG 26 (by omega) (by omega)) rfl (fun _ _ _ => ?_)
        | refine ok_rdFz hS (by omega) (hG 26 (by omega) (by omega)) rfl (fun _ => ?_)
        | refine ok_rdFl hS (by omega) (hG 26 (by omega) (by omega)) rfl (fun _ => ?_)
        | refine ok_n0 hS (by omega) (hG 27 (by omega) (by omega)) ?_
        | refine ok_n1 hS (by omega) (hG 27 (by omega) (by omega)) (fun _ _ _ => ?_)
        | refine ok_n2 hS (by omega) (hG 27 (by omega) (by omega)) (fun _ _ _ => ?_)
        | refine ok_n24 hS (by omega) (hG 27 (by omega) (by omega)) (fun _ _ _ => ?_)
        | refine ok_n41 hS (by omega) (hG 27 (by omega) (by omega)) (fun _ _ _ => ?_)
        | refine ok_n46 hS (by omega) (hG 27 (by omega) (by omega)) (fun _ _ _ => ?_)
        | refine ok_n3 hS (by omega) (hG 27 (by omega) (by omega)) (by omega) (fun _ _ _ => ?_)
        | refine ok_n25 hS (by omega) (hG 27 (by omega) (by omega)) (by omega) (fun _ _ _ => ?_)
        | refine ok_nA hS (by omega) (hG 27 (by omega) (by omega)) (by omega) (fun _ => ?_)
        | refine ok_rdA hS (by omega) (hG _ (by omega) (by omega)) tR_id (by omega) (by omega) (by omega) (fun _ _ _ => ?_)
        | refine ok_rdW hS (by omega) (hG _ (by omega) (by omega)) (by omega) (by omega) (by omega) (fun _ => ?_)
        | refine ok_wrA hS (by omega) (hG 27 (by omega) (by omega)) (by omega) (by omega) (by omega) (fun L _ hL => nw_set hn (by omega) hL) (fun _ hS => ?_)
        | refine ok_wrA hS (by omega) (hG _ (by omega) (by omega)) (by omega) (by omega) (by omega) (fun L _ hL => tR_set (by omega) L hL) (fun _ hS => ?_)
        | refine ok_wrA hS (by omega) (hG _ (by omega) (by omega)) (by omega) (by omega) (by omega) (fun _ _ _ => trivial) (fun _ hS => ?_)
        | refine ok_wrF hS (by omega) (hG 26 (by omega) (by omega)) rfl (⟨_, rfl⟩ : fZ _) (fun _ hS => ?_)
        | refine ok_wrF hS (by omega) (hG 26 (by omega) (by omega)) rfl (⟨_, rfl⟩ : fL _) (fun _ hS => ?_)
        | refine ok_wrFE hS (by omega) (hG 26 (by omega) (by omega)) rfl (by omega) (fun _ hS _ => ?_)
        | (refine ok_if (fun hc => ?_) (fun hc => ?_) <;> try simp (disch := omega) only [wIn] at hc))
    · show Ok (b_X6_lucky_3 (g_X6_lucky k) k S 26 i0 i1 i2 i3 i4) _
      unfold b_X6_lucky_3
      repeat' (first
        | (refine ok_dead ?_; omega)
        | exact ok_some ⟨hS, by first | trivial | omega⟩
        | exact ih 2 _ _ _ _ _ _ hS (Or.inr (Or.inr (Or.inl ⟨rfl, by omega⟩)))
        | (rw [wIn (n := i0) (by omega) (by omega)]; refine ok_bd2 (tf_X6_layHand hN hn hG hS (by omega)) (fun _ _ hQ => ?_); obtain ⟨hS, hQ⟩ := hQ)
        | (rw [wIn (n := i0) (by omega) (by omega), wIn (n := i3) (by omega) (by omega)]; refine ok_bd2 (tf_X6_layHand hN hn hG hS (by omega)) (fun _ _ hQ => ?_); obtain ⟨hS, hQ⟩ := hQ)
        | rw [wIn (n := n - 1) (by omega) (by omega)]
        | refine ok_in (by omega) (by omega) (by omega) (by omega) (fun hc => ?_) (fun hc => ?_)
        | refine ok_ways6 hN hn hG hS (by omega) ?_
        | refine ok_n6 (by omega) (hG 26 (by omega) (by omega)) (hG 27 (by omega) (by omega)) hS ?_
        | refine ok_fac (by omega) (by omega) ?_
        | refine ok_is hS (by omega) (hG 26 (by omega) (by omega)) ?_
        | refine ok_rdFp hS (by omega) (hG 26 (by omega) (by omega)) rfl ?_
        | refine ok_rdFi hS (by omega) (hG 26 (by omega) (by omega)) rfl (fun _ _ _ => ?_)
        | refine ok_rdFz hS (by omega) (hG 26 (by omega) (by omega)) rfl (fun _ => ?_)
        | refine ok_rdFl hS (by omega) (hG 26 (by omega) (by omega)) rfl (fun _ => ?_)
        | refine ok_n0 hS (by omega) (hG 27 (by omega) (by omega)) ?_
        | refine ok_n1 hS (by omega) (hG 27 (by omega) (by omega)) (fun _ _ _ => ?_)
        | refine ok_n2 hS (by omega) (hG 27 (by omega) (by omega)) (fun _ _ _ => ?_)
        | refine ok_n24 hS (by omega) (hG 27 (by omega) (by omega)) (fun _ _ _ => ?_)
        | refine ok_n41 hS (by omega) (hG 27 (by omega) (by omega)) (fun _ _ _ => ?_)
        | refine ok_n46 hS (by omega) (hG 27 (by omega) (by omega)) (fun _ _ _ => ?_)
        | refine ok_n3 hS (by omega) (hG 27 (by omega) (by omega)) (by omega) (fun _ _ _ => ?_)
        | refine ok_n25 hS (by omega) (hG 27 (by omega) (by omega)) (by omega) (fun _ _ _ => ?_)
        | refine ok_nA hS (by omega) (hG 27 (by omega) (by omega)) (by omega) (fun _ => ?_)
        | refine ok_rdA hS (by omega) (hG _ (by omega) (by omega)) tR_id (by omega) (by omega) (by omega) (fun _ _ _ => ?_)
        | refine ok_rdW hS (by omega) (hG _ (by omega) (by omega)) (by omega) (by omega) (by omega) (fun _ => ?_)
        | refine ok_wrA hS (by omega) (hG 27 (by omega) (by omega)) (by omega) (by omega) (by omega) (fun L _ hL => nw_set hn (by omega) hL) (fun _ hS => ?_)
        | refine ok_wrA hS (by omega) (hG _ (by omega) (by omega)) (by omega) (by omega) (by omega) (fun L _ hL => tR_set (by omega) L hL) (fun _ hS => ?_)
        | refine ok_wrA hS (by omega) (hG _ (by omega) (by omega)) (by omega) (by omega) (by omega) (fun _ _ _ => trivial) (fun _ hS => ?_)
        | refine ok_wrF hS (by omega) (hG 26 (by omega) (by omega)) rfl (⟨_, rfl⟩ : fZ _) (fun _ hS => ?_)
        | refine ok_wrF hS (by omega) (hG 26 (by omega) (by omega)) rfl (⟨_, rfl⟩ : fL _) (fun _ hS => ?_)
        | refine ok_wrFE hS (by omega) (hG 26 (by omega) (by omega)) rfl (by omega) (fun _ hS _ => ?_)
        | (refine ok_if (fun hc => ?_) (fun hc => ?_) <;> try simp (disch := omega) only [wIn] at hc))
theorem tf_X6_lucky {G : xT} {N : Nat} {n tl : Int} {a b : Bool}  (hN : 45 ≤ N) (hn : 2 ≤ n ∧ n ≤ 7) (hG : ∀ q, 26 ≤ q → q < 45 → G q = R6 n tl a b q) (hf : 1 ≤ fac n ∧ fac n ≤ 5040) {k : Nat} {S : xS} {i0 : Int} {i1 : Int} (hS : Hp G N S) (hp : -2147483648 ≤ i0 ∧ i0 < 2147483648 ∧ -2147483648 ≤ i1 ∧ i1 < 2147483648 ∧ 400 ≤ (k : Int)) : Ok (f_X6_lucky k S 26 i0 i1) (fun r S' => Hp G N S' ∧ True) :=
  tg_X6_lucky hN hn hG hf k 0 S i0 i1 0 0 0 hS (Or.inl ⟨rfl, hp⟩)
