variable {G : xT} {N : Nat} {n tl : Int} {a b : Bool}
def bS1 (l : Int) : Bool := decide (0 ≤ xShr l 1 ∧ xShr l 1 < 128 ∧ (l ≤ 0 ∨ xShr l 1 < l) ∧ 0 ≤ xOr l 0 ∧ xOr l 0 < 128)
theorem bS1_all : ∀ l : Nat, l < 128 → bS1 (l : Int) = true := by decide +kernel
theorem bS1_s {l : Int} (hl : 0 ≤ l ∧ l < 128) : 0 ≤ xShr l 1 ∧ xShr l 1 < 128 ∧ (l ≤ 0 ∨ xShr l 1 < l) ∧ 0 ≤ xOr l 0 ∧ xOr l 0 < 128 := by
  have h := bS1_all l.toNat (by omega)
  rw [show ((l.toNat : Nat) : Int) = l by omega] at h
  exact of_decide_eq_true h
theorem tg_X6_fh7 {G : xT} {N : Nat} {n tl : Int} {a b : Bool}  (hN : 45 ≤ N) (hn : 2 ≤ n ∧ n ≤ 7) (hG : ∀ q, 26 ≤ q → q < 45 → G q = R6 n tl a b q) (hf : 1 ≤ fac n ∧ fac n ≤ 5040) : ∀ (k lb : Nat) (S : xS) (i0 : Int) (i1 : Int) (i2 : Int), Hp G N S → ((lb = 0 ∧ 2 * n + 50 ≤ (k : Int)) ∨ (lb = 1 ∧ 0 ≤ i0 ∧ i0 < 128 ∧ 0 ≤ i1 ∧ i1 ≤ n ∧ 2 * (n - i1) + 47 ≤ (k : Int)) ∨ (lb = 2 ∧ 0 ≤ i0 ∧ i0 < n ∧ 0 ≤ xOr i1 i2 ∧ xOr i1 i2 < 128 ∧ 2 * (n - i0) + 46 ≤ (k : Int))) → Ok (g_X6_findsHand k lb S 26 i0 i1 i2) (fun r S' => Hp G N S' ∧ (0 ≤ r ∧ r < 128)) := by
  intro k
  induction k with
  | zero => intro lb S i0 i1 i2 hS hp; exfalso; omega
  | succ k ih =>
    intro lb S i0 i1 i2 hS hp
    rcases hp with ⟨rfl, hp⟩ | ⟨rfl, hp⟩ | ⟨rfl, hp⟩
    · show Ok (b_X6_findsHand_0 (g_X6_findsHand k) k S 26 i0 i1 i2) _
      unfold b_X6_findsHand_0
      repeat' (first
        | (refine ok_dead ?_; omega)
        | exact ok_some ⟨hS, by first | trivial | omega⟩
        | exact ih 1 _ _ _ _ hS (Or.inr (Or.inl ⟨rfl, by omega⟩))
        | rw [wIn (n := n - 1) (by omega) (by omega)]
        | refine ok_in (by omega) (by omega) (by omega) (by omega) (fun hc => ?_) (fun hc => ?_)
        | refine ok_ways6 hN hn hG hS (by omega) ?_
        | refine ok_n6 (by omega) (hG 26 (by omega) (by omega)) (hG 27 (by omega) (by omega)) hS ?_
        | refine ok_fac (by omega) (by omega) ?_
        | refine ok_is hS (by omega) (hG 26 (by omega) (by omega)) ?_
        | refine ok_rdFp hS (by omega) (hG 26 (by omega) (by omega)) rfl ?_
        | refine ok_rdFi hS (by omega) (hG 26 (by omega) (by omega)) rfl (fun _ _ _ => ?_)
        | refine ok_rdFz hS (by omega) (hG 26 (by omega) (by omega)) rfl (fun _ => ?_)
        | refine ok_rdFl hS (by omega) (hG 26 (by omega) (by omega)) rfl (fun _ => ?_)
        | refine ok_n0 hS (by omega) (hG 27 (by omega) (by omega)) ?_
        | refine ok_n1 hS (by omega) (hG 27 (by omega) (by omega)) (fun _ _ _ => ?_)
        | refine ok_n2 hS (by omega) (hG 27 (by omega) (by omega)) (fun _ _ _ => ?_)
        | refine ok_n24 hS (by omega) (hG 27 (by omega) (by omega)) (fun _ _ _ => ?_)
        | refine ok_n41 hS (by omega) (hG 27 (by omega) (by omega)) (fun _ _ _ => ?_)
        | refine ok_n46 hS (by omega) (hG 27 (by omega) (by omega)) (fun _ _ _ => ?_)
        | refine ok_n3 hS (by omega) (hG 27 (by omega) (by omega)) (by omega) (fun _ _ _ => ?_)
        | refine ok_n25 hS (by omega) (hG 27 (by omega) (by omega)) (by omega) (fun _ _ _ => ?_)
        | refine ok_nA hS (by omega) (hG 27 (by omega) (by omega)) (by omega) (fun _ => ?_)
        | refine ok_rdA hS (by omega) (hG _ (by omega) (by omega)) tR_id (by omega) (by omega) (by omega) (fun _ _ _ => ?_)
        | refine ok_rdW hS (by omega) (hG _ (by omega) (by omega)) (by omega) (by omega) (by omega) (fun _ => ?_)
        | refine ok_wrA hS (by omega) (hG 27 (by omega) (by omega)) (by omega) (by omega) (by omega) (fun L _ hL => nw_set hn (by omega) hL) (fun _ hS => ?_)
        | refine ok_wrA hS (by omega) (hG _ (by omega) (by omega)) (by omega) (by omega) (by omega) (fun L _ hL => tR_set (by omega) L hL) (fun _ hS => ?_)
        | refine ok_wrA hS (by omega) (hG _ (by omega) (by omega)) (by omega) (by omega) (by omega) (fun _ _ _ => trivial) (fun _ hS => ?_)
        | refine ok_wrF hS (by omega) (hG 26 (by omega) (by omega)) rfl (⟨_, rfl⟩ : fZ _) (fun _ hS => ?_)
        | refine ok_wrF hS (by omega) (hG 26 (by omega) (by omega)) rfl (⟨_, rfl⟩ : fL _) (fun _ hS => ?_)
        | refine ok_wrFE hS (by omega) (hG 26 (by omega) (by omega)) rfl (by omega) (fun _ hS _ => ?_)
        | (refine ok_if (fun hc => ?_) (fun hc => ?_) <;> try simp (disch := omega) only [wIn] at hc))
    · show Ok (b_X6_findsHand_1 (g_X6_findsHand k) k S 26 i0 i1 i2) _
      have hx1 : i1 < n → 0 ≤ xOr i0 (xShl 1 i1) ∧ xOr i0 (xShl 1 i1) < 128 := fun h => ⟨(bF5_s (l := i0) (v := i1) (by omega) (by omega)).1, (bF5_s (l := i0) (v := i1) (by omega) (by omega)).2.1⟩
      have hx2 := bS1_s (l := i0) (by omega)
      unfold b_X6_findsHand_1
      repeat' (first
        | (refine ok_dead ?_; omega)
        | exact ok_some ⟨hS, by first | trivial | omega⟩
        | exact ih 2 _ _ _ _ hS (Or.inr (Or.inr (⟨rfl, by omega⟩)))
        | (refine ok_bd2 (tf_X6_seek hN hn hG hS (by first | trivial | omega)) (fun _ _ hQ => ?_); obtain ⟨hS, hQ⟩ := hQ)
        | rw [wIn (n := n - 1) (by omega) (by omega)]
        | refine ok_in (by omega) (by omega) (by omega) (by omega) (fun hc => ?_) (fun hc => ?_)
        | refine ok_ways6 hN hn hG hS (by omega) ?_
        | refine ok_n6 (by omega) (hG 26 (by omega) (by omega)) (hG 27 (by omega) (by omega)) hS ?_
        | refine ok_fac (by omega) (by omega) ?_
        | refine ok_is hS (by omega) (hG 26 (by omega) (by omega)) ?_
        | refine ok_rdFp hS (by omega) (hG 26 (by omega) (by omega)) rfl ?_
        | refine ok_rdFi hS (by omega) (hG 26 (by omega) (by omega)) rfl (fun _ _ _ => ?_)
        | refine ok_rdFz hS (by omega) (hG 26 (by omega) (by omega)) rfl (fun _ => ?_)
        | refine ok_rdFl hS (by omega) (hG 26 (by omega) (by omega)) rfl (fun _ => ?_)
        | refine ok_n0 hS (by omega) (hG 27 (by omega) (by omega)) ?_
        | refine ok_n1 hS (by omega) (hG 27 (by omega) (by omega)) (fun _ _ _ => ?_)
        | refine ok_n2 hS (by omega) (hG 27 (by omega) (by omega)) (fun _ _ _ => ?_)
        | refine ok_n24 hS (by omega) (hG 27 (by omega) (by omega)) (fun _ _ _ => ?_)
        | refine ok_n41 hS (by omega) (hG 27 (by omega) (by omega)) (fun _ _ _ => ?_)
        | refine ok_n46 hS (by omega) (hG 27 (by omega) (by omega)) (fun _ _ _ => ?_)
        | refine ok_n3 hS (by omega) (hG 27 (by omega) (by omega)) (by omega) (fun _ _ _ => ?_)
        | refine ok_n25 hS (by omega) (hG 27 (by omega) (by omega)) (by omega) (fun _ _ _ => ?_)
        | refine ok_nA hS (by omega) (hG 27 (by omega) (by omega)) (by omega) (fun _ => ?_)
        | refine ok_rdA hS (by omega) (hG _ (by omega) (by omega)) tR_id (by omega) (by omega) (by omega) (fun _ _ _ => ?_)
        | refine ok_rdW hS (by omega) (hG _ (by omega) (by omega)) (by omega) (by omega) (by omega) (fun _ => ?_)
        | refine ok_wrA hS (by omega) (hG 27 (by omega) (by omega)) (by omega) (by omega) (by omega) (fun L _ hL => nw_set hn (by omega) hL) (fun _ hS => ?_)
        | refine ok_wrA hS (by omega) (hG _ (by omega) (by omega)) (by omega) (by omega) (by omega) (fun L _ hL => tR_set (by omega) L hL) (fun _ hS => ?_)
        | refine ok_wrA hS (by omega) (hG _ (by omega) (by omega)) (by omega) (by omega) (by omega) (fun _ _ _ => trivial) (fun _ hS => ?_)
        | refine ok_wrF hS (by omega) (hG 26 (by omega) (by omega)) rfl (⟨_, rfl⟩ : fZ _) (fun _ hS => ?_)
        | refine ok_wrF hS (by omega) (hG 26 (by omega) (by omega)) rfl (⟨_, rfl⟩ : fL _) (fun _ hS => ?_)
        | refine ok_wrFE hS (by omega) (hG 26 (by omega) (by omega)) rfl (by omega) (fun _ hS _ => ?_)
        | (refine ok_if (fun hc => ?_) (fun hc => ?_) <;> try simp (disch := omega) only [wIn] at hc))
    · show Ok (b_X6_findsHand_2 (g_X6_findsHand k) k S 26 i0 i1 i2) _
      unfold b_X6_findsHand_2
      repeat' (first
        | (refine ok_dead ?_; omega)
        | exact ok_some ⟨hS, by first | trivial | omega⟩
        | exact ih 1 _ _ _ _ hS (Or.inr (Or.inl ⟨rfl, by omega⟩))
        | rw [wIn (n := n - 1) (by omega) (by omega)]
        | refine ok_in (by omega) (by omega) (by omega) (by omega) (fun hc => ?_) (fun hc => ?_)
        | refine ok_ways6 hN hn hG hS (by omega) ?_
        | refine ok_n6 (by omega) (hG 26 (by omega) (by omega)) (hG 27 (by omega) (by omega)) hS ?_
        | refine ok_fac (by omega) (by omega) ?_
        | refine ok_is hS (by omega) (hG 26 (by omega) (by omega)) ?_
        | refine ok_rdFp hS (by omega) (hG 26 (by omega) (by omega)) rfl ?_
        | refine ok_rdFi hS (by omega) (hG 26 (by omega) (by omega)) rfl (fun _ _ _ => ?_)
        | refine ok_rdFz hS (by omega) (hG 26 (by omega) (by omega)) rfl (fun _ => ?_)
        | refine ok_rdFl hS (by omega) (hG 26 (by omega) (by omega)) rfl (fun _ => ?_)
        | refine ok_n0 hS (by omega) (hG 27 (by omega) (by omega)) ?_
        | refine ok_n1 hS (by omega) (hG 27 (by omega) (by omega)) (fun _ _ _ => ?_)
        | refine ok_n2 hS (by omega) (hG 27 (by omega) (by omega)) (fun _ _ _ => ?_)
        | refine ok_n24 hS (by omega) (hG 27 (by omega) (by omega)) (fun _ _ _ => ?_)
        | refine ok_n41 hS (by omega) (hG 27 (by omega) (by omega)) (fun _ _ _ => ?_)
        | refine ok_n46 hS (by omega) (hG 27 (by omega) (by omega)) (fun _ _ _ => ?_)
        | refine ok_n3 hS (by omega) (hG 27 (by omega) (by omega)) (by omega) (fun _ _ _ => ?_)
        | refine ok_n25 hS (by omega) (hG 27 (by omega) (by omega)) (by omega) (fun _ _ _ => ?_)
        | refine ok_nA hS (by omega) (hG 27 (by omega) (by omega)) (by omega) (fun _ => ?_)
        | refine ok_rdA hS (by omega) (hG _ (by omega) (by omega)) tR_id (by omega) (by omega) (by omega) (fun _ _ _ => ?_)
        | refine ok_rdW hS (by omega) (hG _ (by omega) (by omega)) (by omega) (by omega) (by omega) (fun _ => ?_)
        | refine ok_wrA hS (by omega) (hG 27 (by omega) (by omega)) (by omega) (by omega) (by omega) (fun L _ hL => nw_set hn (by omega) hL) (fun _ hS => ?_)
        | refine ok_wrA hS (by omega) (hG _ (by omega) (by omega)) (by omega) (by omega) (by omega) (fun L _ hL => tR_set (by omega) L hL) (fun _ hS => ?_)
        | refine ok_wrA hS (by omega) (hG _ (by omega) (by omega)) (by omega) (by omega) (by omega) (fun _ _ _ => trivial) (fun _ hS => ?_)
        | refine ok_wrF hS (by omega) (hG 26 (by omega) (by omega)) rfl (⟨_, rfl⟩ : fZ _) (fun _ hS => ?_)
        | refine ok_wrF hS (by omega) (hG 26 (by omega) (by omega)) rfl (⟨_, rfl⟩ : fL _) (fun _ hS => ?_)
        | refine ok_wrFE hS (by omega) (hG 26 (by omega) (by omega)) rfl (by omega) (fun _ hS _ => ?_)
        | (refine ok_if (fun hc => ?_) (fun hc => ?_) <;> try simp (disch := omega) only [wIn] at hc))
theorem tf_X6_fh7 {G : xT} {N : Nat} {n tl : Int} {a b : Bool}  (hN : 45 ≤ N) (hn : 2 ≤ n ∧ n ≤ 7) (hG : ∀ q, 26 ≤ q → q < 45 → G q = R6 n tl a b q) (hf : 1 ≤ fac n ∧ fac n ≤ 5040) {k : Nat} {S : xS} (hS : Hp G N S) (hp : 2 * n + 50 ≤ (k : Int)) : Ok (f_X6_findsHand k S 26) (fun r S' => Hp G N S' ∧ (0 ≤ r ∧ r < 128)) :=
  tg_X6_fh7 hN hn hG hf k 0 S 0 0 0 hS (Or.inl ⟨rfl, hp⟩)
theorem tg_X6_bits {G : xT} {N : Nat} {n tl : Int} {a b : Bool}  (hN : 45 ≤ N) (hn : 2 ≤ n ∧ n ≤ 7) (hG : ∀ q, 26 ≤ q → q < 45 → G q = R6 n tl a b q) (hf : 1 ≤ fac n ∧ fac n ≤ 5040) : ∀ (k lb : Nat) (S : xS) (i0 : Int) (i1 : Int), Hp G N S → ((lb = 0 ∧ 0 ≤ i0 ∧ i0 < 128 ∧ 135 ≤ (k : Int)) ∨ (lb = 1 ∧ 0 ≤ i1 ∧ i1 < 128 ∧ i1 + 2 ≤ (k : Int))) → Ok (g_X6_bits k lb S i0 i1) (fun r S' => S' = S ∧ True) := by
  intro k
  induction k with
  | zero => intro lb S i0 i1 hS hp; exfalso; omega
  | succ k ih =>
    intro lb S i0 i1 hS hp
    rcases hp with ⟨rfl, hp⟩ | ⟨rfl, hp⟩
    · show Ok (b_X6_bits_0 (g_X6_bits k) k S i0 i1) _
      unfold b_X6_bits_0
      repeat' (first
        | (refine ok_dead ?_; omega)
        | exact ok_some ⟨rfl, by first | trivial | omega⟩
        | exact ih 1 _ _ _ hS (Or.inr (⟨rfl, by omega⟩))
        | rw [wIn (n := n - 1) (by omega) (by omega)]
        | refine ok_in (by omega) (by omega) (by omega) (by omega) (fun hc => ?_) (fun hc => ?_)
        | refine ok_ways6 hN hn hG hS (by omega) ?_
        | refine ok_n6 (by omega) (hG 26 (by omega) (by omega)) (hG 27 (by omega) (by omega)) hS ?_
        | refine ok_fac (by omega) (by omega) ?_
        | refine ok_is hS (by omega) (hG 26 (by omega) (by omega)) ?_
        | refine ok_rdFp hS (by omega) (hG 26 (by omega) (by omega)) rfl ?_
        | refine ok_rdFi hS (by omega) (hG 26 (by omega) (by omega)) rfl (fun _ _ _ => ?_)
        | refine ok_rdFz hS (by omega) (hG 26 (by omega) (by omega)) rfl (fun _ => ?_)
        | refine ok_rdFl hS (by omega) (hG 26 (by omega) (by omega)) rfl (fun _ => ?_)
        | refine ok_n0 hS (by omega) (hG 27 (by omega) (by omega)) ?_
        | refine ok_n1 hS (by omega) (hG 27 (by omega) (by omega)) (fun _ _ _ => ?_)
        | refine ok_n2 hS (by omega) (hG 27 (by omega) (by omega)) (fun _ _ _ => ?_)
        | refine ok_n24 hS (by omega) (hG 27 (by omega) (by omega)) (fun _ _ _ => ?_)
        | refine ok_n41 hS (by omega) (hG 27 (by omega) (by omega)) (fun _ _ _ => ?_)
        | refine ok_n46 hS (by omega) (hG 27 (by omega) (by omega)) (fun _ _ _ => ?_)
        | refine ok_n3 hS (by omega) (hG 27 (by omega) (by omega)) (by omega) (fun _ _ _ => ?_)
        | refine ok_n25 hS (by omega) (hG 27 (by omega) (by omega)) (by omega) (fun _ _ _ => ?_)
        | refine ok_nA hS (by omega) (hG 27 (by omega) (by omega)) (by omega) (fun _ => ?_)
        | refine ok_rdA hS (by omega) (hG _ (by omega) (by omega)) tR_id (by omega) (by omega) (by omega) (fun _ _ _ => ?_)
        | refine ok_rdW hS (by omega) (hG _ (by omega) (by omega)) (by omega) (by omega) (by omega) (fun _ => ?_)
        | refine ok_wrA hS (by omega) (hG 27 (by omega) (by omega)) (by omega) (by omega) (by omega) (fun L _ hL => nw_set hn (by omega) hL) (fun _ hS => ?_)
        | refine ok_wrA hS (by omega) (hG _ (by omega) (by omega)) (by omega) (by omega) (by omega) (fun L _ hL => tR_set (by omega) L hL) (fun _ hS => ?_)
        | refine ok_wrA hS (by omega) (hG _ (by omega) (by omega)) (by omega) (by omega) (by omega) (fun _ _ _ => trivial) (fun _ hS => ?_)
        | refine ok_wrF hS (by omega) (hG 26 (by omega) (by omega)) rfl (⟨_, rfl⟩ : fZ _) (fun _ hS => ?_)
        | refine ok_wrF hS (by omega) (hG 26 (by omega) (by omega)) rfl (⟨_, rfl⟩ : fL _) (fun _ hS => ?_)
        | refine ok_wrFE hS (by omega) (hG 26 (by omega) (by omega)) rfl (by omega) (fun _ hS _ => ?_)
        | (refine ok_if (fun hc => ?_) (fun hc => ?_) <;> try simp (disch := omega) only [wIn] at hc))
    · show Ok (b_X6_bits_1 (g_X6_bits k) k S i0 i1) _
      have hx2 := bS1_s (l := i1) (by omega)
      unfold b_X6_bits_1
      repeat' (first
        | (refine ok_dead ?_; omega)
        | exact ok_some ⟨rfl, by first | trivial | omega⟩
        | exact ih 1 _ _ _ hS (Or.inr (⟨rfl, by omega⟩))
        | rw [wIn (n := n - 1) (by omega) (by omega)]
        | refine ok_in (by omega) (by omega) (by omega) (by omega) (fun hc => ?_) (fun hc => ?_)
        | refine ok_ways6 hN hn hG hS (by omega) ?_
        | refine ok_n6 (by omega) (hG 26 (by omega) (by omega)) (hG 27 (by omega) (by omega)) hS ?_
        | refine ok_fac (by omega) (by omega) ?_
        | refine ok_is hS (by omega) (hG 26 (by omega) (by omega)) ?_
        | refine ok_rdFp hS (by omega) (hG 26 (by omega) (by omega)) rfl ?_
        | refine ok_rdFi hS (by omega) (hG 26 (by omega) (by omega)) rfl (fun _ _ _ => ?_)
        | refine ok_rdFz hS (by omega) (hG 26 (by omega) (by omega)) rfl (fun _ => ?_)
        | refine ok_rdFl hS (by omega) (hG 26 (by omega) (by omega)) rfl (fun _ => ?_)
        | refine ok_n0 hS (by omega) (hG 27 (by omega) (by omega)) ?_
        | refine ok_n1 hS (by omega) (hG 27 (by omega) (by omega)) (fun _ _ _ => ?_)
        | refine ok_n2 hS (by omega) (hG 27 (by omega) (by omega)) (fun _ _ _ => ?_)
        | refine ok_n24 hS (by omega) (hG 27 (by omega) (by omega)) (fun _ _ _ => ?_)
        | refine ok_n41 hS (by omega) (hG 27 (by omega) (by omega)) (fun _ _ _ => ?_)
        | refine ok_n46 hS (by omega) (hG 27 (by omega) (by omega)) (fun _ _ _ => ?_)
        | refine ok_n3 hS (by omega) (hG 27 (by omega) (by omega)) (by omega) (fun _ _ _ => ?_)
        | refine ok_n25 hS (by omega) (hG 27 (by omega) (by omega)) (by omega) (fun _ _ _ => ?_)
        | refine ok_nA hS (by omega) (hG 27 (by omega) (by omega)) (by omega) (fun _ => ?_)
        | refine ok_rdA hS (by omega) (hG _ (by omega) (by omega)) tR_id (by omega) (by omega) (by omega) (fun _ _ _ => ?_)
        | refine ok_rdW hS (by omega) (hG _ (by omega) (by omega)) (by omega) (by omega) (by omega) (fun _ => ?_)
        | refine ok_wrA hS (by omega) (hG 27 (by omega) (by omega)) (by omega) (by omega) (by omega) (fun L _ hL => nw_set hn (by omega) hL) (fun _ hS => ?_)
        | refine ok_wrA hS (by omega) (hG _ (by omega) (by omega)) (by omega) (by omega) (by omega) (fun L _ hL => tR_set (by omega) L hL) (fun _ hS => ?_)
        | refine ok_wrA hS (by omega) (hG _ (by omega) (by omega)) (by omega) (by omega) (by omega) (fun _ _ _ => trivial) (fun _ hS => ?_)
        | refine ok_wrF hS (by omega) (hG 26 (by omega) (by omega)) rfl (⟨_, rfl⟩ : fZ _) (fun _ hS => ?_)
        | refine ok_wrF hS (by omega) (hG 26 (by omega) (by omega)) rfl (⟨_, rfl⟩ : fL _) (fun _ hS => ?_)
        | refine ok_wrFE hS (by omega) (hG 26 (by omega) (by omega)) rfl (by omega) (fun _ hS _ => ?_)
        | (refine ok_if (fun hc => ?_) (fun hc => ?_) <;> try simp (disch := omega) only [wIn] at hc))
theorem tf_X6_bits {G : xT} {N : Nat} {n tl : Int} {a b : Bool}  (hN : 45 ≤ N) (hn : 2 ≤ n ∧ n ≤ 7) (hG : ∀ q, 26 ≤ q → q < 45 → G q = R6 n tl a b q) (hf : 1 ≤ fac n ∧ fac n ≤ 5040) {k : Nat} {S : xS} {i0 : Int} (hS : Hp G N S) (hp : 0 ≤ i0 ∧ i0 < 128 ∧ 135 ≤ (k : Int)) : Ok (f_X6_bits k S i0) (fun r S' => S' = S ∧ True) :=
  tg_X6_bits hN hn hG hf k 0 S i0 0 hS (Or.inl ⟨rfl, hp⟩)
theorem tg_X6_worst {G : xT} {N : Nat} {n tl : Int} {a b : Bool}  (hN : 45 ≤ N) (hn : 2 ≤ n ∧ n ≤ 7) (hG : ∀ q, 26 ≤ q → q < 45 → G q = R6 n tl a b q) (hf : 1 ≤ fac n ∧ fac n ≤ 5040) : ∀ (k lb : Nat) (S : xS) (i0 : Int) (i1 : Int) (i2 : Int) (i3 : Int) (i4 : Int), Hp G N S → ((lb = 0 ∧ -2147483648 ≤ i0 ∧ i0 < 2147483648 ∧ 21000 ≤ (k : Int)) ∨ (lb = 1 ∧ 0 ≤ i3 ∧ i3 ≤ fac n ∧ 4 * (5040 - i3) + 500 ≤ (k : Int)) ∨ (lb = 2 ∧ 0 ≤ i3 ∧ i3 < fac n ∧ 4 * (5040 - i3) + 499 ≤ (k : Int)) ∨ (lb = 3 ∧ 0 ≤ i2 ∧ i2 < fac n ∧ 4 * (5040 - i2) + 498 ≤ (k : Int)) ∨ (lb = 4 ∧ 0 ≤ i2 ∧ i2 < fac n ∧ 4 * (5040 - i2) + 497 ≤ (k : Int))) → Ok (g_X6_worst k lb S 26 i0 i1 i2 i3 i4) (fun r S' => Hp G N S' ∧ True) := by
  intro k
  induction k with
  | zero => intro lb S i0 i1 i2 i3 i4 hS hp; exfalso; omega
  | succ k ih =>
    intro lb S i0 i1 i2 i3 i4 hS hp
    rcases hp with ⟨rfl, hp⟩ | ⟨rfl, hp⟩ | ⟨rfl, hp⟩ | ⟨rfl, hp⟩ | ⟨rfl, hp⟩
    · show Ok (b_X6_worst_0 (g_X6_worst k) k S 26 i0 i1 i2 i3 i4) _
      unfold b_X6_worst_0
      repeat' (first
        | (refine ok_dead ?_; omega)
        | exact ok_some ⟨hS, by first | trivial | omega⟩
        | exact ih 1 _ _ _ _ _ _ hS (Or.inr (Or.inl ⟨rfl, by omega⟩))
        | (refine ok_bd2 (tf_X6_bad hN hn hG hS (by first | trivial | omega)) (fun _ _ hQ => ?_); obtain ⟨hS, hQ⟩ := hQ)
        | (refine ok_bd2 (tf_X6_fh7 hN hn hG hf hS (by omega)) (fun _ _ hQ => ?_); obtain ⟨hS, hQ⟩ := hQ)
        | rw [wIn (n := n - 1) (by omega) (by omega)]
        | refine ok_in (by omega) (by omega) (by omega) (by omega) (fun hc => ?_) (fun hc => ?_)
        | refine ok_ways6 hN hn hG hS (by omega) ?_
        | refine ok_n6 (by omega) (hG 26 (by omega) (by omega)) (hG 27 (by omega) (by omega)) hS ?_
        | refine ok_fac (by omega) (by omega) ?_
        | refine ok_is hS (by omega) (hG 26 (by omega) (by omega)) ?_
        | refine ok_rdFp hS (by omega) (hG 26 (by omega) (by omega)) rfl ?_
        | refine ok_rdFi hS (by omega) (hG 26 (by omega) (by omega)) rfl (fun _ _ _ => ?_)
        | refine ok_rdFz hS (by omega) (hG 26 (by omega) (by omega)) rfl (fun _ => ?_)
        | refine ok_rdFl hS (by omega) (hG 26 (by omega) (by omega)) rfl (fun _ => ?_)
        | refine ok_n0 hS (by omega) (hG 27 (by omega) (by omega)) ?_
        | refine ok_n1 hS (by omega) (hG 27 (by omega) (by omega)) (fun _ _ _ => ?_)
        | refine ok_n2 hS (by omega) (hG 27 (by omega) (by omega)) (fun _ _ _ => ?_)
        | refine ok_n24 hS (by omega) (hG 27 (by omega) (by omega)) (fun _ _ _ => ?_)
        | refine ok_n41 hS (by omega) (hG 27 (by omega) (by omega)) (fun _ _ _ => ?_)
        | refine ok_n46 hS (by omega) (hG 27 (by omega) (by omega)) (fun _ _ _ => ?_)
        | refine ok_n3 hS (by omega) (hG 27 (by omega) (by omega)) (by omega) (fun _ _ _ => ?_)
        | refine ok_n25 hS (by omega) (hG 27 (by omega) (by omega)) (by omega) (fun _ _ _ => ?_)
        | refine ok_nA hS (by omega) (hG 27 (by omega) (by omega)) (by omega) (fun _ => ?_)
        | refine ok_rdA hS (by omega) (hG _ (by omega) (by omega)) tR_id (by omega) (by omega) (by omega) (fun _ _ _ => ?_)
        | refine ok_rdW hS (by omega) (hG _ (by omega) (by omega)) (by omega) (by omega) (by omega) (fun _ => ?_)
        | refine ok_wrA hS (by omega) (hG 27 (by omega) (by omega)) (by omega) (by omega) (by omega) (fun L _ hL => nw_set hn (by omega) hL) (fun _ hS => ?_)
        | refine ok_wrA hS (by omega) (hG _ (by omega) (by omega)) (by omega) (by omega) (by omega) (fun L _ hL => tR_set (by omega) L hL) (fun _ hS => ?_)
        | refine ok_wrA hS (by omega) (hG _ (by omega) (by omega)) (by omega) (by omega) (by omega) (fun _ _ _ => trivial) (fun _ hS => ?_)
        | refine ok_wrF hS (by omega) (hG 26 (by omega) (by omega)) rfl (⟨_, rfl⟩ : fZ _) (fun _ hS => ?_)
        | refine ok_wrF hS (by omega) (hG 26 (by omega) (by omega)) rfl (⟨_, rfl⟩ : fL _) (fun _ hS => ?_)
        | refine ok_wrFE hS (by omega) (hG 26 (by omega) (by omega)) rfl (by omega) (fun _ hS _ => ?_)
        | (refine ok_if (fun hc => ?_) (fun hc => ?_) <;> try simp (disch := omega) only [wIn] at hc))
    · show Ok (b_X6_worst_1 (g_X6_worst k) k S 26 i0 i1 i2 i3 i4) _
      unfold b_X6_worst_1
      repeat' (first
        | (refine ok_dead ?_; omega)
        | exact ok_some ⟨hS, by first | trivial | omega⟩
        | exact ih 2 _ _ _ _ _ _ hS (Or.inr (Or.inr (Or.inl ⟨rfl, by omega⟩)))
        | (refine ok_bd2 (tf_X6_no hN hn hG hS (by first | trivial | omega)) (fun _ _ hQ => ?_); obtain ⟨hS, hQ⟩ := hQ)
        | (refine ok_bd2 (tf_X6_takeRank hN hn hG hS (by first | trivial | omega)) (fun _ _ hQ => ?_); obtain ⟨hS, hQ⟩ := hQ)
        | (refine ok_bd2 (tf_X6_isSo hN hn hG hf hS (by first | trivial | omega)) (fun _ _ hQ => ?_); obtain ⟨hS, hQ⟩ := hQ)
        | (refine ok_bd2 (tf_X6_fh7 hN hn hG hf hS (by first | trivial | omega)) (fun _ _ hQ => ?_); obtain ⟨hS, hQ⟩ := hQ)
        | (refine ok_bd2 (tf_X6_bits hN hn hG hf hS (by first | trivial | omega)) (fun _ _ hQ => ?_); obtain ⟨rfl, hQ⟩ := hQ)
        | (refine ok_bd2 (tf_X6_fh7 hN hn hG hf hS (by omega)) (fun _ _ hQ => ?_); obtain ⟨hS, hQ⟩ := hQ)
        | rw [wIn (n := n - 1) (by omega) (by omega)]
        | refine ok_in (by omega) (by omega) (by omega) (by omega) (fun hc => ?_) (fun hc => ?_)
        | refine ok_ways6 hN hn hG hS (by omega) ?_
        | refine ok_n6 (by omega) (hG 26 (by omega) (by omega)) (hG 27 (by omega) (by omega)) hS ?_
        | refine ok_fac (by omega) (by omega) ?_
        | refine ok_is hS (by omega) (hG 26 (by omega) (by omega)) ?_
        | refine ok_rdFp hS (by omega) (hG 26 (by omega) (by omega)) rfl ?_
        | refine ok_rdFi hS (by omega) (hG 26 (by omega) (by omega)) rfl (fun _ _ _ => ?_)
        | refine ok_rdFz hS (by omega) (hG 26 (by omega) (by omega)) rfl (fun _ => ?_)
        | refine ok_rdFl hS (by omega) (hG 26 (by omega) (by omega)) rfl (fun _ => ?_)
        | refine ok_n0 hS (by omega) (hG 27 (by omega) (by omega)) ?_
        | refine ok_n1 hS (by omega) (hG 27 (by omega) (by omega)) (fun _ _ _ => ?_)
        | refine ok_n2 hS (by omega) (hG 27 (by omega) (by omega)) (fun _ _ _ => ?_)
        | refine ok_n24 hS (by omega) (hG 27 (by omega) (by omega)) (fun _ _ _ => ?_)
        | refine ok_n41 hS (by omega) (hG 27 (by omega) (by omega)) (fun _ _ _ => ?_)
        | refine ok_n46 hS (by omega) (hG 27 (by omega) (by omega)) (fun _ _ _ => ?_)
        | refine ok_n3 hS (by omega) (hG 27 (by omega) (by omega)) (by omega) (fun _ _ _ => ?_)
        | refine ok_n25 hS (by omega) (hG 27 (by omega) (by omega)) (by omega) (fun _ _ _ => ?_)
        | refine ok_nA hS (by omega) (hG 27 (by omega) (by omega)) (by omega) (fun _ => ?_)
        | refine ok_rdA hS (by omega) (hG _ (by omega) (by omega)) tR_id (by omega) (by omega) (by omega) (fun _ _ _ => ?_)
        | refine ok_rdW hS (by omega) (hG _ (by omega) (by omega)) (by omega) (by omega) (by omega) (fun _ => ?_)
        | refine ok_wrA hS (by omega) (hG 27 (by omega) (by omega)) (by omega) (by omega) (by omega) (fun L _ hL => nw_set hn (by omega) hL) (fun _ hS => ?_)
        | refine ok_wrA hS (by omega) (hG _ (by omega) (by omega)) (by omega) (by omega) (by omega) (fun L _ hL => tR_set (by omega) L hL) (fun _ hS => ?_)
        | refine ok_wrA hS (by omega) (hG _ (by omega) (by omega)) (by omega) (by omega) (by omega) (fun _ _ _ => trivial) (fun _ hS => ?_)
        | refine ok_wrF hS (by omega) (hG 26 (by omega) (by omega)) rfl (⟨_, rfl⟩ : fZ _) (fun _ hS => ?_)
        | refine ok_wrF hS (by omega) (hG 26 (by omega) (by omega)) rfl (⟨_, rfl⟩ : fL _) (fun _ hS => ?_)
        | refine ok_wrFE hS (by omega) (hG 26 (by omega) (by omega)) rfl (by omega) (fun _ hS _ => ?_)
        | (refine ok_if (fun hc => ?_) (fun hc => ?_) <;> try simp (disch := omega) only [wIn] at hc))
    · show Ok (b_X6_worst_2 (g_X6_worst k) k S 26 i0 i1 i2 i3 i4) _
      unfold b_X6_worst_2
      repeat' (first
        | (refine ok_dead ?_; omega)
        | exact ok_some ⟨hS, by first | trivial | omega⟩
        | exact ih 3 _ _ _ _ _ _ hS (Or.inr (Or.inr (Or.inr (Or.inl ⟨rfl, by omega⟩))))
        | (refine ok_bd2 (tf_X6_fh7 hN hn hG hf hS (by omega)) (fun _ _ hQ => ?_); obtain ⟨hS, hQ⟩ := hQ)
        | rw [wIn (n := n - 1) (by omega) (by omega)]
        | refine ok_in (by omega) (by omega) (by omega) (by omega) (fun hc => ?_) (fun hc => ?_)
        | refine ok_ways6 hN hn hG hS (by omega) ?_
        | refine ok_n6 (by omega) (hG 26 (by omega) (by omega)) (hG 27 (by omega) (by omega)) hS ?_
        | refine ok_fac (by omega) (by omega) ?_
        | refine ok_is hS (by omega) (hG 26 (by omega) (by omega)) ?_
        | refine ok_rdFp hS (by omega) (hG 26 (by omega) (by omega)) rfl ?_
        | refine ok_rdFi hS (by omega) (hG 26 (by omega) (by omega)) rfl (fun _ _ _ => ?_)
        | refine ok_rdFz hS (by omega) (hG 26 (by omega) (by omega)) rfl (fun _ => ?_)
        | refine ok_rdFl hS (by omega) (hG 26 (by omega) (by omega)) rfl (fun _ => ?_)
        | refine ok_n0 hS (by omega) (hG 27 (by omega) (by omega)) ?_
        | refine ok_n1 hS (by omega) (hG 27 (by omega) (by omega)) (fun _ _ _ => ?_)
        | refine ok_n2 hS (by omega) (hG 27 (by omega) (by omega)) (fun _ _ _ => ?_)
        | refine ok_n24 hS (by omega) (hG 27 (by omega) (by omega)) (fun _ _ _ => ?_)
        | refine ok_n41 hS (by omega) (hG 27 (by omega) (by omega)) (fun _ _ _ => ?_)
        | refine ok_n46 hS (by omega) (hG 27 (by omega) (by omega)) (fun _ _ _ => ?_)
        | refine ok_n3 hS (by omega) (hG 27 (by omega) (by omega)) (by omega) (fun _ _ _ => ?_)
        | refine ok_n25 hS (by omega) (hG 27 (by omega) (by omega)) (by omega) (fun _ _ _ => ?_)
        | refine ok_nA hS (by omega) (hG 27 (by omega) (by omega)) (by omega) (fun _ => ?_)
        | refine ok_rdA hS (by omega) (hG _ (by omega) (by omega)) tR_id (by omega) (by omega) (by omega) (fun _ _ _ => ?_)
        | refine ok_rdW hS (by omega) (hG _ (by omega) (by omega)) (by omega) (by omega) (by omega) (fun _ => ?_)
        | refine ok_wrA hS (by omega) (hG 27 (by omega) (by omega)) (by omega) (by omega) (by omega) (fun L _ hL => nw_set hn (by omega) hL) (fun _ hS => ?_)
        | refine ok_wrA hS (by omega) (hG _ (by omega) (by omega)) (by omega) (by omega) (by omega) (fun L _ hL => tR_set (by omega) L hL) (fun _ hS => ?_)
        | refine ok_wrA hS (by omega) (hG _ (by omega) (by omega)) (by omega) (by omega) (by omega) (fun _ _ _ => trivial) (fun _ hS => ?_)
        | refine ok_wrF hS (by omega) (hG 26 (by omega) (by omega)) rfl (⟨_, rfl⟩ : fZ _) (fun _ hS => ?_)
        | refine ok_wrF hS (by omega) (hG 26 (by omega) (by omega)) rfl (⟨_, rfl⟩ : fL _) (fun _ hS => ?_)
        | refine ok_wrFE hS (by omega) (hG 26 (by omega) (by omega)) rfl (by omega) (fun _ hS _ => ?_)
        | (refine ok_if (fun hc => ?_) (fun hc => ?_) <;> try simp (disch := omega) only [wIn] at hc))
    · show Ok (b_X6_worst_3 (g_X6_worst k) k S 26 i0 i1 i2 i3 i4) _
      unfold b_X6_worst_3
      repeat' (first
        | (refine ok_dead ?_; omega)
        | exact ok_some ⟨hS, by first | trivial | omega⟩
        | exact ih 4 _ _ _ _ _ _ hS (Or.inr (Or.inr (Or.inr (Or.inr (⟨rfl, by omega⟩)))))
        | (refine ok_bd2 (tf_X6_fh7 hN hn hG hf hS (by omega)) (fun _ _ hQ => ?_); obtain ⟨hS, hQ⟩ := hQ)
        | rw [wIn (n := n - 1) (by omega) (by omega)]
        | refine ok_in (by omega) (by omega) (by omega) (by omega) (fun hc => ?_) (fun hc => ?_)
        | refine ok_ways6 hN hn hG hS (by omega) ?_
        | refine ok_n6 (by omega) (hG 26 (by omega) (by omega)) (hG 27 (by omega) (by omega)) hS ?_
        | refine ok_fac (by omega) (by omega) ?_
        | refine ok_is hS (by omega) (hG 26 (by omega) (by omega)) ?_
        | refine ok_rdFp hS (by omega) (hG 26 (by omega) (by omega)) rfl ?_
        | refine ok_rdFi hS (by omega) (hG 26 (by omega) (by omega)) rfl (fun _ _ _ => ?_)
        | refine ok_rdFz hS (by omega) (hG 26 (by omega) (by omega)) rfl (fun _ => ?_)
        | refine ok_rdFl hS (by omega) (hG 26 (by omega) (by omega)) rfl (fun _ => ?_)
        | refine ok_n0 hS (by omega) (hG 27 (by omega) (by omega)) ?_
        | refine ok_n1 hS (by omega) (hG 27 (by omega) (by omega)) (fun _ _ _ => ?_)
        | refine ok_n2 hS (by omega) (hG 27 (by omega) (by omega)) (fun _ _ _ => ?_)
        | refine ok_n24 hS (by omega) (hG 27 (by omega) (by omega)) (fun _ _ _ => ?_)
        | refine ok_n41 hS (by omega) (hG 27 (by omega) (by omega)) (fun _ _ _ => ?_)
        | refine ok_n46 hS (by omega) (hG 27 (by omega) (by omega)) (fun _ _ _ => ?_)
        | refine ok_n3 hS (by omega) (hG 27 (by omega) (by omega)) (by omega) (fun _ _ _ => ?_)
        | refine ok_n25 hS (by omega) (hG 27 (by omega) (by omega)) (by omega) (fun _ _ _ => ?_)
        | refine ok_nA hS (by omega) (hG 27 (by omega) (by omega)) (by omega) (fun _ => ?_)
        | refine ok_rdA hS (by omega) (hG _ (by omega) (by omega)) tR_id (by omega) (by omega) (by omega) (fun _ _ _ => ?_)
        | refine ok_rdW hS (by omega) (hG _ (by omega) (by omega)) (by omega) (by omega) (by omega) (fun _ => ?_)
        | refine ok_wrA hS (by omega) (hG 27 (by omega) (by omega)) (by omega) (by omega) (by omega) (fun L _ hL => nw_set hn (by omega) hL) (fun _ hS => ?_)
        | refine ok_wrA hS (by omega) (hG _ (by omega) (by omega)) (by omega) (by omega) (by omega) (fun L _ hL => tR_set (by omega) L hL) (fun _ hS => ?_)
        | refine ok_wrA hS (by omega) (hG _ (by omega) (by omega)) (by omega) (by omega) (by omega) (fun _ _ _ => trivial) (fun _ hS => ?_)
        | refine ok_wrF hS (by omega) (hG 26 (by omega) (by omega)) rfl (⟨_, rfl⟩ : fZ _) (fun _ hS => ?_)
        | refine ok_wrF hS (by omega) (hG 26 (by omega) (by omega)) rfl (⟨_, rfl⟩ : fL _) (fun _ hS => ?_)
        | refine ok_wrFE hS (by omega) (hG 26 (by omega) (by omega)) rfl (by omega) (fun _ hS _ => ?_)
        | (refine ok_if (fun hc => ?_) (fun hc => ?_) <;> try simp (disch := omega) only [wIn] at hc))
    · show Ok (b_X6_worst_4 (g_X6_worst k) k S 26 i0 i1 i2 i3 i4) _
      unfold b_X6_worst_4
      repeat' (first
        | (refine ok_dead ?_; omega)
        | exact ok_some ⟨hS, by first | trivial | omega⟩
        | exact ih 1 _ _ _ _ _ _ hS (Or.inr (Or.inl ⟨rfl, by omega⟩))
        | (refine ok_bd2 (tf_X6_fh7 hN hn hG hf hS (by omega)) (fun _ _ hQ => ?_); obtain ⟨hS, hQ⟩ := hQ)
        | rw [wIn (n := n - 1) (by omega) (by omega)]
        | refine ok_in (by omega) (by omega) (by omega) (by omega) (fun hc => ?_) (fun hc => ?_)
        | refine ok_ways6 hN hn hG hS (by omega) ?_
        | refine ok_n6 (by omega) (hG 26 (by omega) (by omega)) (hG 27 (by omega) (by omega)) hS ?_
        | refine ok_fac (by omega) (by omega) ?_
        | refine ok_is hS (by omega) (hG 26 (by omega) (by omega)) ?_
        | refine ok_rdFp hS (by omega) (hG 26 (by omega) (by omega)) rfl ?_
        | refine ok_rdFi hS (by omega) (hG 26 (by omega) (by omega)) rfl (fun _ _ _ => ?_)
        | refine ok_rdFz hS (by omega) (hG 26 (by omega) (by omega)) rfl (fun _ => ?_)
        | refine ok_rdFl hS (by omega) (hG 26 (by omega) (by omega)) rfl (fun _ => ?_)
        | refine ok_n0 hS (by omega) (hG 27 (by omega) (by omega)) ?_
        | refine ok_n1 hS (by omega) (hG 27 (by omega) (by omega)) (fun _ _ _ => ?_)
        | refine ok_n2 hS (by omega) (hG 27 (by omega) (by omega)) (fun _ _ _ => ?_)
        | refine ok_n24 hS (by omega) (hG 27 (by omega) (by omega)) (fun _ _ _ => ?_)
        | refine ok_n41 hS (by omega) (hG 27 (by omega) (by omega)) (fun _ _ _ => ?_)
        | refine ok_n46 hS (by omega) (hG 27 (by omega) (by omega)) (fun _ _ _ => ?_)
        | refine ok_n3 hS (by omega) (hG 27 (by omega) (by omega)) (by omega) (fun _ _ _ => ?_)
        | refine ok_n25 hS (by omega) (hG 27 (by omega) (by omega)) (by omega) (fun _ _ _ => ?_)
        | refine ok_nA hS (by omega) (hG 27 (by omega) (by omega)) (by omega) (fun _ => ?_)
        | refine ok_rdA hS (by omega) (hG _ (by omega) (by omega)) tR_id (by omega) (by omega) (by omega) (fun _ _ _ => ?_)
        | refine ok_rdW hS (by omega) (hG _ (by omega) (by omega)) (by omega) (by omega) (by omega) (fun _ => ?_)
        | refine ok_wrA hS (by omega) (hG 27 (by omega) (by omega)) (by omega) (by omega) (by omega) (fun L _ hL => nw_set hn (by omega) hL) (fun _ hS => ?_)
        | refine ok_wrA hS (by omega) (hG _ (by omega) (by omega)) (by omega) (by omega) (by omega) (fun L _ hL => tR_set (by omega) L hL) (fun _ hS => ?_)
        | refine ok_wrA hS (by omega) (hG _ (by omega) (by omega)) (by omega) (by omega) (by omega) (fun _ _ _ => trivial) (fun _ hS => ?_)
        | refine ok_wrF hS (by omega) (hG 26 (by omega) (by omega)) rfl (⟨_, rfl⟩ : fZ _) (fun _ hS => ?_)
        | refine ok_wrF hS (by omega) (hG 26 (by omega) (by omega)) rfl (⟨_, rfl⟩ : fL _) (fun _ hS => ?_)
        | refine ok_wrFE hS (by omega) (hG 26 (by omega) (by omega)) rfl (by omega) (fun _ hS _ => ?_)
        | (refine ok_if (fun hc => ?_) (fun hc => ?_) <;> try simp (disch := omega) only [wIn] at hc))
theorem tf_X6_worst {G : xT} {N : Nat} {n tl : Int} {a b : Bool}  (hN : 45 ≤ N) (hn : 2 ≤ n ∧ n ≤ 7) (hG : ∀ q, 26 ≤ q → q < 45 → G q = R6 n tl a b q) (hf : 1 ≤ fac n ∧ fac n ≤ 5040) {k : Nat} {S : xS} {i0 : Int} (hS : Hp G N S) (hp : -2147483648 ≤ i0 ∧ i0 < 2147483648 ∧ 21000 ≤ (k : Int)) : Ok (f_X6_worst k S 26 i0) (fun r S' => Hp G N S' ∧ True) :=
  tg_X6_worst hN hn hG hf k 0 S i0 0 0 0 0 hS (Or.inl ⟨rfl, hp⟩)
theorem tg_X6_third {G : xT} {N : Nat} {n tl : Int} {a b : Bool}  (hN : 45 ≤ N) (hn : 2 ≤ n ∧ n ≤ 7) (hG : ∀ q, 26 ≤ q → q < 45 → G q = R6 n tl a b q) (hf : 1 ≤ fac n ∧ fac n ≤ 5040) : ∀ (k lb : Nat) (S : xS) (i0 : Int) (i1 : Int) (i2 : Int) (i3 : Int) (i4 : Int) (i5 : Int) (i6 : Int), Hp G N S → ((lb = 0 ∧ -2147483648 ≤ i0 ∧ i0 < 2147483648 ∧ 800 ≤ (k : Int)) ∨ (lb = 1 ∧ 0 ≤ i3 ∧ i3 ≤ n ∧ 40 * (n - i3) + 400 ≤ (k : Int)) ∨ (lb = 2 ∧ 0 ≤ i3 ∧ i3 < n ∧ 0 ≤ i4 ∧ i4 ≤ n ∧ 40 * (n - i3) + 4 * (n - i4) + 370 ≤ (k : Int)) ∨ (lb = 3 ∧ 0 ≤ i3 ∧ i3 < n ∧ 0 ≤ i4 ∧ i4 < n ∧ 40 * (n - i3) + 4 * (n - i4) + 369 ≤ (k : Int)) ∨ (lb = 4 ∧ 0 ≤ i2 ∧ i2 < n ∧ 0 ≤ i3 ∧ i3 < n ∧ 40 * (n - i2) + 4 * (n - i3) + 368 ≤ (k : Int)) ∨ (lb = 5 ∧ 0 ≤ i2 ∧ i2 < n ∧ 0 ≤ i3 ∧ i3 < n ∧ 40 * (n - i2) + 4 * (n - i3) + 367 ≤ (k : Int))) → Ok (g_X6_third k lb S 26 i0 i1 i2 i3 i4 i5 i6) (fun r S' => Hp G N S' ∧ True) := by
  intro k
  induction k with
  | zero => intro lb S i0 i1 i2 i3 i4 i5 i6 hS hp; exfalso; omega
  | succ k ih =>
    intro lb S i0 i1 i2 i3 i4 i5 i6 hS hp
    rcases hp with ⟨rfl, hp⟩ | ⟨rfl, hp⟩ | ⟨rfl, hp⟩ | ⟨rfl, hp⟩ | ⟨rfl, hp⟩ | ⟨rfl, hp⟩
    · show Ok (b_X6_third_0 (g_X6_third k) k S 26 i0 i1 i2 i3 i4 i5 i6) _
      unfold b_X6_third_0
      repeat' (first
        | (refine ok_dead ?_; omega)
        | exact ok_some ⟨hS, by first | trivial | omega⟩
        | exact ih 1 _ _ _ _ _ _ _ _ hS (Or.inr (Or.inl ⟨rfl, by omega⟩))
        | (refine ok_bd2 (tf_X6_bad hN hn hG hS (by first | trivial | omega)) (fun _ _ hQ => ?_); obtain ⟨hS, hQ⟩ := hQ)
        | (refine ok_bd2 (tf_X6_takeNow hN hn hG hS (by first | trivial | omega)) (fun _ _ hQ => ?_); obtain ⟨hS, hQ⟩ := hQ)
        | (refine ok_bd2 (tf_X6_fh7 hN hn hG hf hS (by first | trivial | omega)) (fun _ _ hQ => ?_); obtain ⟨hS, hQ⟩ := hQ)
        | (refine ok_bd2 (tf_X6_bits hN hn hG hf hS (by first | trivial | omega)) (fun _ _ hQ => ?_); obtain ⟨rfl, hQ⟩ := hQ)
        | (refine ok_bd2 (tf_X6_fh7 hN hn hG hf hS (by omega)) (fun _ _ hQ => ?_); obtain ⟨hS, hQ⟩ := hQ)
        | rw [wIn (n := n - 1) (by omega) (by omega)]
        | refine ok_in (by omega) (by omega) (by omega) (by omega) (fun hc => ?_) (fun hc => ?_)
        | refine ok_ways6 hN hn hG hS (by omega) ?_
        | refine ok_n6 (by omega) (hG 26 (by omega) (by omega)) (hG 27 (by omega) (by omega)) hS ?_
        | refine ok_fac (by omega) (by omega) ?_
        | refine ok_is hS (by omega) (hG 26 (by omega) (by omega)) ?_
        | refine ok_rdFp hS (by omega) (hG 26 (by omega) (by omega)) rfl ?_
        | refine ok_rdFi hS (by omega) (hG 26 (by omega) (by omega)) rfl (fun _ _ _ => ?_)
        | refine ok_rdFz hS (by omega) (hG 26 (by omega) (by omega)) rfl (fun _ => ?_)
        | refine ok_rdFl hS (by omega) (hG 26 (by omega) (by omega)) rfl (fun _ => ?_)
        | refine ok_n0 hS (by omega) (hG 27 (by omega) (by omega)) ?_
        | refine ok_n1 hS (by omega) (hG 27 (by omega) (by omega)) (fun _ _ _ => ?_)
        | refine ok_n2 hS (by omega) (hG 27 (by omega) (by omega)) (fun _ _ _ => ?_)
        | refine ok_n24 hS (by omega) (hG 27 (by omega) (by omega)) (fun _ _ _ => ?_)
        | refine ok_n41 hS (by omega) (hG 27 (by omega) (by omega)) (fun _ _ _ => ?_)
        | refine ok_n46 hS (by omega) (hG 27 (by omega) (by omega)) (fun _ _ _ => ?_)
        | refine ok_n3 hS (by omega) (hG 27 (by omega) (by omega)) (by omega) (fun _ _ _ => ?_)
        | refine ok_n25 hS (by omega) (hG 27 (by omega) (by omega)) (by omega) (fun _ _ _ => ?_)
        | refine ok_nA hS (by omega) (hG 27 (by omega) (by omega)) (by omega) (fun _ => ?_)
        | refine ok_rdA hS (by omega) (hG _ (by omega) (by omega)) tR_id (by omega) (by omega) (by omega) (fun _ _ _ => ?_)
        | refine ok_rdW hS (by omega) (hG _ (by omega) (by omega)) (by omega) (by omega) (by omega) (fun _ => ?_)
        | refine ok_wrA hS (by omega) (hG 27 (by omega) (by omega)) (by omega) (by omega) (by omega) (fun L _ hL => nw_set hn (by omega) hL) (fun _ hS => ?_)
        | refine ok_wrA hS (by omega) (hG _ (by omega) (by omega)) (by omega) (by omega) (by omega) (fun L _ hL => tR_set (by omega) L hL) (fun _ hS => ?_)
        | refine ok_wrA hS (by omega) (hG _ (by omega) (by omega)) (by omega) (by omega) (by omega) (fun _ _ _ => trivial) (fun _ hS => ?_)
        | refine ok_wrF hS (by omega) (hG 26 (by omega) (by omega)) rfl (⟨_, rfl⟩ : fZ _) (fun _ hS => ?_)
        | refine ok_wrF hS (by omega) (hG 26 (by omega) (by omega)) rfl (⟨_, rfl⟩ : fL _) (fun _ hS => ?_)
        | refine ok_wrFE hS (by omega) (hG 26 (by omega) (by omega)) rfl (by omega) (fun _ hS _ => ?_)
        | (refine ok_if (fun hc => ?_) (fun hc => ?_) <;> try simp (disch := omega) only [wIn] at hc))
    · show Ok (b_X6_third_1 (g_X6_third k) k S 26 i0 i1 i2 i3 i4 i5 i6) _
      unfold b_X6_third_1
      repeat' (first
        | (refine ok_dead ?_; omega)
        | exact ok_some ⟨hS, by first | trivial | omega⟩
        | exact ih 2 _ _ _ _ _ _ _ _ hS (Or.inr (Or.inr (Or.inl ⟨rfl, by omega⟩)))
        | (refine ok_bd2 (tf_X6_fh7 hN hn hG hf hS (by omega)) (fun _ _ hQ => ?_); obtain ⟨hS, hQ⟩ := hQ)
        | rw [wIn (n := n - 1) (by omega) (by omega)]
        | refine ok_in (by omega) (by omega) (by omega) (by omega) (fun hc => ?_) (fun hc => ?_)
        | refine ok_ways6 hN hn hG hS (by omega) ?_
        | refine ok_n6 (by omega) (hG 26 (by omega) (by omega)) (hG 27 (by omega) (by omega)) hS ?_
        | refine ok_fac (by omega) (by omega) ?_
        | refine ok_is hS (by omega) (hG 26 (by omega) (by omega)) ?_
        | refine ok_rdFp hS (by omega) (hG 26 (by omega) (by omega)) rfl ?_
        | refine ok_rdFi hS (by omega) (hG 26 (by omega) (by omega)) rfl (fun _ _ _ => ?_)
        | refine ok_rdFz hS (by omega) (hG 26 (by omega) (by omega)) rfl (fun _ => ?_)
        | refine ok_rdFl hS (by omega) (hG 26 (by omega) (by omega)) rfl (fun _ => ?_)
        | refine ok_n0 hS (by omega) (hG 27 (by omega) (by omega)) ?_
        | refine ok_n1 hS (by omega) (hG 27 (by omega) (by omega)) (fun _ _ _ => ?_)
        | refine ok_n2 hS (by omega) (hG 27 (by omega) (by omega)) (fun _ _ _ => ?_)
        | refine ok_n24 hS (by omega) (hG 27 (by omega) (by omega)) (fun _ _ _ => ?_)
        | refine ok_n41 hS (by omega) (hG 27 (by omega) (by omega)) (fun _ _ _ => ?_)
        | refine ok_n46 hS (by omega) (hG 27 (by omega) (by omega)) (fun _ _ _ => ?_)
        | refine ok_n3 hS (by omega) (hG 27 (by omega) (by omega)) (by omega) (fun _ _ _ => ?_)
        | refine ok_n25 hS (by omega) (hG 27 (by omega) (by omega)) (by omega) (fun _ _ _ => ?_)
        | refine ok_nA hS (by omega) (hG 27 (by omega) (by omega)) (by omega) (fun _ => ?_)
        | refine ok_rdA hS (by omega) (hG _ (by omega) (by omega)) tR_id (by omega) (by omega) (by omega) (fun _ _ _ => ?_)
        | refine ok_rdW hS (by omega) (hG _ (by omega) (by omega)) (by omega) (by omega) (by omega) (fun _ => ?_)
        | refine ok_wrA hS (by omega) (hG 27 (by omega) (by omega)) (by omega) (by omega) (by omega) (fun L _ hL => nw_set hn (by omega) hL) (fun _ hS => ?_)
        | refine ok_wrA hS (by omega) (hG _ (by omega) (by omega)) (by omega) (by omega) (by omega) (fun L _ hL => tR_set (by omega) L hL) (fun _ hS => ?_)
        | refine ok_wrA hS (by omega) (hG _ (by omega) (by omega)) (by omega) (by omega) (by omega) (fun _ _ _ => trivial) (fun _ hS => ?_)
        | refine ok_wrF hS (by omega) (hG 26 (by omega) (by omega)) rfl (⟨_, rfl⟩ : fZ _) (fun _ hS => ?_)
        | refine ok_wrF hS (by omega) (hG 26 (by omega) (by omega)) rfl (⟨_, rfl⟩ : fL _) (fun _ hS => ?_)
        | refine ok_wrFE hS (by omega) (hG 26 (by omega) (by omega)) rfl (by omega) (fun _ hS _ => ?_)
        | (refine ok_if (fun hc => ?_) (fun hc => ?_) <;> try simp (disch := omega) only [wIn] at hc))
    · show Ok (b_X6_third_2 (g_X6_third k) k S 26 i0 i1 i2 i3 i4 i5 i6) _
      unfold b_X6_third_2
      repeat' (first
        | (refine ok_dead ?_; omega)
        | exact ok_some ⟨hS, by first | trivial | omega⟩
        | exact ih 1 _ _ _ _ _ _ _ _ hS (Or.inr (Or.inl ⟨rfl, by omega⟩))
        | exact ih 3 _ _ _ _ _ _ _ _ hS (Or.inr (Or.inr (Or.inr (Or.inl ⟨rfl, by omega⟩))))
        | (refine ok_bd2 (tf_X6_takeNow hN hn hG hS (by first | trivial | omega)) (fun _ _ hQ => ?_); obtain ⟨hS, hQ⟩ := hQ)
        | (refine ok_bd2 (tf_X6_swapHand hN hn hG hS (by first | trivial | omega)) (fun _ _ hQ => ?_); obtain ⟨hS, hQ⟩ := hQ)
        | (refine ok_bd2 (tf_X6_fh7 hN hn hG hf hS (by first | trivial | omega)) (fun _ _ hQ => ?_); obtain ⟨hS, hQ⟩ := hQ)
        | (refine ok_bd2 (tf_X6_bits hN hn hG hf hS (by first | trivial | omega)) (fun _ _ hQ => ?_); obtain ⟨rfl, hQ⟩ := hQ)
        | (refine ok_bd2 (tf_X6_fh7 hN hn hG hf hS (by omega)) (fun _ _ hQ => ?_); obtain ⟨hS, hQ⟩ := hQ)
        | rw [wIn (n := n - 1) (by omega) (by omega)]
        | refine ok_in (by omega) (by omega) (by omega) (by omega) (fun hc => ?_) (fun hc => ?_)
        | refine ok_ways6 hN hn hG hS (by omega) ?_
        | refine ok_n6 (by omega) (hG 26 (by omega) (by omega)) (hG 27 (by omega) (by omega)) hS ?_
        | refine ok_fac (by omega) (by omega) ?_
        | refine ok_is hS (by omega) (hG 26 (by omega) (by omega)) ?_
        | refine ok_rdFp hS (by omega) (hG 26 (by omega) (by omega)) rfl ?_
        | refine ok_rdFi hS (by omega) (hG 26 (by omega) (by omega)) rfl (fun _ _ _ => ?_)
        | refine ok_rdFz hS (by omega) (hG 26 (by omega) (by omega)) rfl (fun _ => ?_)
        | refine ok_rdFl hS (by omega) (hG 26 (by omega) (by omega)) rfl (fun _ => ?_)
        | refine ok_n0 hS (by omega) (hG 27 (by omega) (by omega)) ?_
        | refine ok_n1 hS (by omega) (hG 27 (by omega) (by omega)) (fun _ _ _ => ?_)
        | refine ok_n2 hS (by omega) (hG 27 (by omega) (by omega)) (fun _ _ _ => ?_)
        | refine ok_n24 hS (by omega) (hG 27 (by omega) (by omega)) (fun _ _ _ => ?_)
        | refine ok_n41 hS (by omega) (hG 27 (by omega) (by omega)) (fun _ _ _ => ?_)
        | refine ok_n46 hS (by omega) (hG 27 (by omega) (by omega)) (fun _ _ _ => ?_)
        | refine ok_n3 hS (by omega) (hG 27 (by omega) (by omega)) (by omega) (fun _ _ _ => ?_)
        | refine ok_n25 hS (by omega) (hG 27 (by omega) (by omega)) (by omega) (fun _ _ _ => ?_)
        | refine ok_nA hS (by omega) (hG 27 (by omega) (by omega)) (by omega) (fun _ => ?_)
        | refine ok_rdA hS (by omega) (hG _ (by omega) (by omega)) tR_id (by omega) (by omega) (by omega) (fun _ _ _ => ?_)
        | refine ok_rdW hS (by omega) (hG _ (by omega) (by omega)) (by omega) (by omega) (by omega) (fun _ => ?_)
        | refine ok_wrA hS (by omega) (hG 27 (by omega) (by omega)) (by omega) (by omega) (by omega) (fun L _ hL => nw_set hn (by omega) hL) (fun _ hS => ?_)
        | refine ok_wrA hS (by omega) (hG _ (by omega) (by omega)) (by omega) (by omega) (by omega) (fun L _ hL => tR_set (by omega) L hL) (fun _ hS => ?_)
        | refine ok_wrA hS (by omega) (hG _ (by omega) (by omega)) (by omega) (by omega) (by omega) (fun _ _ _ => trivial) (fun _ hS => ?_)
        | refine ok_wrF hS (by omega) (hG 26 (by omega) (by omega)) rfl (⟨_, rfl⟩ : fZ _) (fun _ hS => ?_)
        | refine ok_wrF hS (by omega) (hG 26 (by omega) (by omega)) rfl (⟨_, rfl⟩ : fL _) (fun _ hS => ?_)
        | refine ok_wrFE hS (by omega) (hG 26 (by omega) (by omega)) rfl (by omega) (fun _ hS _ => ?_)
        | (refine ok_if (fun hc => ?_) (fun hc => ?_) <;> try simp (disch := omega) only [wIn] at hc))
    · show Ok (b_X6_third_3 (g_X6_third k) k S 26 i0 i1 i2 i3 i4 i5 i6) _
      unfold b_X6_third_3
      repeat' (first
        | (refine ok_dead ?_; omega)
        | exact ok_some ⟨hS, by first | trivial | omega⟩
        | exact ih 4 _ _ _ _ _ _ _ _ hS (Or.inr (Or.inr (Or.inr (Or.inr (Or.inl ⟨rfl, by omega⟩)))))
        | (refine ok_bd2 (tf_X6_fh7 hN hn hG hf hS (by omega)) (fun _ _ hQ => ?_); obtain ⟨hS, hQ⟩ := hQ)
        | rw [wIn (n := n - 1) (by omega) (by omega)]
        | refine ok_in (by omega) (by omega) (by omega) (by omega) (fun hc => ?_) (fun hc => ?_)
        | refine ok_ways6 hN hn hG hS (by omega) ?_
        | refine ok_n6 (by omega) (hG 26 (by omega) (by omega)) (hG 27 (by omega) (by omega)) hS ?_
        | refine ok_fac (by omega) (by omega) ?_
        | refine ok_is hS (by omega) (hG 26 (by omega) (by omega)) ?_
        | refine ok_rdFp hS (by omega) (hG 26 (by omega) (by omega)) rfl ?_
        | refine ok_rdFi hS (by omega) (hG 26 (by omega) (by omega)) rfl (fun _ _ _ => ?_)
        | refine ok_rdFz hS (by omega) (hG 26 (by omega) (by omega)) rfl (fun _ => ?_)
        | refine ok_rdFl hS (by omega) (hG 26 (by omega) (by omega)) rfl (fun _ => ?_)
        | refine ok_n0 hS (by omega) (hG 27 (by omega) (by omega)) ?_
        | refine ok_n1 hS (by omega) (hG 27 (by omega) (by omega)) (fun _ _ _ => ?_)
        | refine ok_n2 hS (by omega) (hG 27 (by omega) (by omega)) (fun _ _ _ => ?_)
        | refine ok_n24 hS (by omega) (hG 27 (by omega) (by omega)) (fun _ _ _ => ?_)
        | refine ok_n41 hS (by omega) (hG 27 (by omega) (by omega)) (fun _ _ _ => ?_)
        | refine ok_n46 hS (by omega) (hG 27 (by omega) (by omega)) (fun _ _ _ => ?_)
        | refine ok_n3 hS (by omega) (hG 27 (by omega) (by omega)) (by omega) (fun _ _ _ => ?_)
        | refine ok_n25 hS (by omega) (hG 27 (by omega) (by omega)) (by omega) (fun _ _ _ => ?_)
        | refine ok_nA hS (by omega) (hG 27 (by omega) (by omega)) (by omega) (fun _ => ?_)
        | refine ok_rdA hS (by omega) (hG _ (by omega) (by omega)) tR_id (by omega) (by omega) (by omega) (fun _ _ _ => ?_)
        | refine ok_rdW hS (by omega) (hG _ (by omega) (by omega)) (by omega) (by omega) (by omega) (fun _ => ?_)
        | refine ok_wrA hS (by omega) (hG 27 (by omega) (by omega)) (by omega) (by omega) (by omega) (fun L _ hL => nw_set hn (by omega) hL) (fun _ hS => ?_)
        | refine ok_wrA hS (by omega) (hG _ (by omega) (by omega)) (by omega) (by omega) (by omega) (fun L _ hL => tR_set (by omega) L hL) (fun _ hS => ?_)
        | refine ok_wrA hS (by omega) (hG _ (by omega) (by omega)) (by omega) (by omega) (by omega) (fun _ _ _ => trivial) (fun _ hS => ?_)
        | refine ok_wrF hS (by omega) (hG 26 (by omega) (by omega)) rfl (⟨_, rfl⟩ : fZ _) (fun _ hS => ?_)
        | refine ok_wrF hS (by omega) (hG 26 (by omega) (by omega)) rfl (⟨_, rfl⟩ : fL _) (fun _ hS => ?_)
        | refine ok_wrFE hS (by omega) (hG 26 (by omega) (by omega)) rfl (by omega) (fun _ hS _ => ?_)
        | (refine ok_if (fun hc => ?_) (fun hc => ?_) <;> try simp (disch := omega) only [wIn] at hc))
    · show Ok (b_X6_third_4 (g_X6_third k) k S 26 i0 i1 i2 i3 i4 i5 i6) _
      unfold b_X6_third_4
      repeat' (first
        | (refine ok_dead ?_; omega)
        | exact ok_some ⟨hS, by first | trivial | omega⟩
        | exact ih 5 _ _ _ _ _ _ _ _ hS (Or.inr (Or.inr (Or.inr (Or.inr (Or.inr (⟨rfl, by omega⟩))))))
        | (refine ok_bd2 (tf_X6_fh7 hN hn hG hf hS (by omega)) (fun _ _ hQ => ?_); obtain ⟨hS, hQ⟩ := hQ)
        | rw [wIn (n := n - 1) (by omega) (by omega)]
        | refine ok_in (by omega) (by omega) (by omega) (by omega) (fun hc => ?_) (fun hc => ?_)
        | refine ok_ways6 hN hn hG hS (by omega) ?_
        | refine ok_n6 (by omega) (hG 26 (by omega) (by omega)) (hG 27 (by omega) (by omega)) hS ?_
        | refine ok_fac (by omega) (by omega) ?_
        | refine ok_is hS (by omega) (hG 26 (by omega) (by omega)) ?_
        | refine ok_rdFp hS (by omega) (hG 26 (by omega) (by omega)) rfl ?_
        | refine ok_rdFi hS (by omega) (hG 26 (by omega) (by omega)) rfl (fun _ _ _ => ?_)
        | refine ok_rdFz hS (by omega) (hG 26 (by omega) (by omega)) rfl (fun _ => ?_)
        | refine ok_rdFl hS (by omega) (hG 26 (by omega) (by omega)) rfl (fun _ => ?_)
        | refine ok_n0 hS (by omega) (hG 27 (by omega) (by omega)) ?_
        | refine ok_n1 hS (by omega) (hG 27 (by omega) (by omega)) (fun _ _ _ => ?_)
        | refine ok_n2 hS (by omega) (hG 27 (by omega) (by omega)) (fun _ _ _ => ?_)
        | refine ok_n24 hS (by omega) (hG 27 (by omega) (by omega)) (fun _ _ _ => ?_)
        | refine ok_n41 hS (by omega) (hG 27 (by omega) (by omega)) (fun _ _ _ => ?_)
        | refine ok_n46 hS (by omega) (hG 27 (by omega) (by omega)) (fun _ _ _ => ?_)
        | refine ok_n3 hS (by omega) (hG 27 (by omega) (by omega)) (by omega) (fun _ _ _ => ?_)
        | refine ok_n25 hS (by omega) (hG 27 (by omega) (by omega)) (by omega) (fun _ _ _ => ?_)
        | refine ok_nA hS (by omega) (hG 27 (by omega) (by omega)) (by omega) (fun _ => ?_)
        | refine ok_rdA hS (by omega) (hG _ (by omega) (by omega)) tR_id (by omega) (by omega) (by omega) (fun _ _ _ => ?_)
        | refine ok_rdW hS (by omega) (hG _ (by omega) (by omega)) (by omega) (by omega) (by omega) (fun _ => ?_)
        | refine ok_wrA hS (by omega) (hG 27 (by omega) (by omega)) (by omega) (by omega) (by omega) (fun L _ hL => nw_set hn (by omega) hL) (fun _ hS => ?_)
        | refine ok_wrA hS (by omega) (hG _ (by omega) (by omega)) (by omega) (by omega) (by omega) (fun L _ hL => tR_set (by omega) L hL) (fun _ hS => ?_)
        | refine ok_wrA hS (by omega) (hG _ (by omega) (by omega)) (by omega) (by omega) (by omega) (fun _ _ _ => trivial) (fun _ hS => ?_)
        | refine ok_wrF hS (by omega) (hG 26 (by omega) (by omega)) rfl (⟨_, rfl⟩ : fZ _) (fun _ hS => ?_)
        | refine ok_wrF hS (by omega) (hG 26 (by omega) (by omega)) rfl (⟨_, rfl⟩ : fL _) (fun _ hS => ?_)
        | refine ok_wrFE hS (by omega) (hG 26 (by omega) (by omega)) rfl (by omega) (fun _ hS _ => ?_)
        | (refine ok_if (fun hc => ?_) (fun hc => ?_) <;> try simp (disch := omega) only [wIn] at hc))
    · show Ok (b_X6_third_5 (g_X6_third k) k S 26 i0 i1 i2 i3 i4 i5 i6) _
      unfold b_X6_third_5
      repeat' (first
        | (refine ok_dead ?_; omega)
        | exact ok_some ⟨hS, by first | trivial | omega⟩
        | exact ih 2 _ _ _ _ _ _ _ _ hS (Or.inr (Or.inr (Or.inl ⟨rfl, by omega⟩)))
        | (refine ok_bd2 (tf_X6_fh7 hN hn hG hf hS (by omega)) (fun _ _ hQ => ?_); obtain ⟨hS, hQ⟩ := hQ)
        | rw [wIn (n := n - 1) (by omega) (by omega)]
        | refine ok_in (by omega) (by omega) (by omega) (by omega) (fun hc => ?_) (fun hc => ?_)
        | refine ok_ways6 hN hn hG hS (by omega) ?_
        | refine ok_n6 (by omega) (hG 26 (by omega) (by omega)) (hG 27 (by omega) (by omega)) hS ?_
        | refine ok_fac (by omega) (by omega) ?_
        | refine ok_is hS (by omega) (hG 26 (by omega) (by omega)) ?_
        | refine ok_rdFp hS (by omega) (hG 26 (by omega) (by omega)) rfl ?_
        | refine ok_rdFi hS (by omega) (hG 26 (by omega) (by omega)) rfl (fun _ _ _ => ?_)
        | refine ok_rdFz hS (by omega) (hG 26 (by omega) (by omega)) rfl (fun _ => ?_)
        | refine ok_rdFl hS (by omega) (hG 26 (by omega) (by omega)) rfl (fun _ => ?_)
        | refine ok_n0 hS (by omega) (hG 27 (by omega) (by omega)) ?_
        | refine ok_n1 hS (by omega) (hG 27 (by omega) (by omega)) (fun _ _ _ => ?_)
        | refine ok_n2 hS (by omega) (hG 27 (by omega) (by omega)) (fun _ _ _ => ?_)
        | refine ok_n24 hS (by omega) (hG 27 (by omega) (by omega)) (fun _ _ _ => ?_)
        | refine ok_n41 hS (by omega) (hG 27 (by omega) (by omega)) (fun _ _ _ => ?_)
        | refine ok_n46 hS (by omega) (hG 27 (by omega) (by omega)) (fun _ _ _ => ?_)
        | refine ok_n3 hS (by omega) (hG 27 (by omega) (by omega)) (by omega) (fun _ _ _ => ?_)
        | refine ok_n25 hS (by omega) (hG 27 (by omega) (by omega)) (by omega) (fun _ _ _ => ?_)
        | refine ok_nA hS (by omega) (hG 27 (by omega) (by omega)) (by omega) (fun _ => ?_)
        | refine ok_rdA hS (by omega) (hG _ (by omega) (by omega)) tR_id (by omega) (by omega) (by omega) (fun _ _ _ => ?_)
        | refine ok_rdW hS (by omega) (hG _ (by omega) (by omega)) (by omega) (by omega) (by omega) (fun _ => ?_)
        | refine ok_wrA hS (by omega) (hG 27 (by omega) (by omega)) (by omega) (by omega) (by omega) (fun L _ hL => nw_set hn (by omega) hL) (fun _ hS => ?_)
        | refine ok_wrA hS (by omega) (hG _ (by omega) (by omega)) (by omega) (by omega) (by omega) (fun L _ hL => tR_set (by omega) L hL) (fun _ hS => ?_)
        | refine ok_wrA hS (by omega) (hG _ (by omega) (by omega)) (by omega) (by omega) (by omega) (fun _ _ _ => trivial) (fun _ hS => ?_)
        | refine ok_wrF hS (by omega) (hG 26 (by omega) (by omega)) rfl (⟨_, rfl⟩ : fZ _) (fun _ hS => ?_)
        | refine ok_wrF hS (by omega) (hG 26 (by omega) (by omega)) rfl (⟨_, rfl⟩ : fL _) (fun _ hS => ?_)
        | refine ok_wrFE hS (by omega) (hG 26 (by omega) (by omega)) rfl (by omega) (fun _ hS _ => ?_)
        | (refine ok_if (fun hc => ?_) (fun hc => ?_) <;> try simp (disch := omega) only [wIn] at hc))
theorem tf_X6_third {G : xT} {N : Nat} {n tl : Int} {a b : Bool}  (hN : 45 ≤ N) (hn : 2 ≤ n ∧ n ≤ 7) (hG : ∀ q, 26 ≤ q → q < 45 → G q = R6 n tl a b q) (hf : 1 ≤ fac n ∧ fac n ≤ 5040) {k : Nat} {S : xS} {i0 : Int} (hS : Hp G N S) (hp : -2147483648 ≤ i0 ∧ i0 < 2147483648 ∧ 800 ≤ (k : Int)) : Ok (f_X6_third k S 26 i0) (fun r S' => Hp G N S' ∧ True) :=
  tg_X6_third hN hn hG hf k 0 S i0 0 0 0 0 0 0 hS (Or.inl ⟨rfl, hp⟩)
