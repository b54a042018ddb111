variable {G : xT} {N : Nat} {n tl : Int} {a b : Bool}
theorem uc_0 : ∀ nn : Nat, nn < 8 → uc nn 0 0 = (nn : Int) := by decide +kernel
/-- the way of a rank -/
def wy (nn : Nat) (r : Int) : List Int := tp nn nn 0 r
theorem wy_s {nn : Nat} (hn : 2 ≤ nn ∧ nn ≤ 7) {r : Int} (hr : 0 ≤ r ∧ r < fac (nn : Int)) : (wy nn r).length = nn ∧ (∀ x ∈ wy nn r, 0 ≤ x ∧ x < nn) ∧ (∀ i j : Nat, i < nn → j < nn → (wy nn r)[i]? = (wy nn r)[j]? → i = j) := by
  obtain ⟨h1, h2, h3⟩ := tp_s (nn := nn) (by omega) nn 0 r (by omega) (Nat.le_refl _) (uc_0 nn (by omega)) hr
  exact ⟨h1, fun x hx => ⟨(h2 x hx).1, (h2 x hx).2.1⟩, h3⟩
theorem tk_eq {nn : Nat} (hN : 45 ≤ N) (hn : 2 ≤ nn ∧ nn ≤ 7) {mo : xV → Prop} (g26 : G 26 = o6 tl mo) (g27 : G 27 = tA 0 57 (nw (nn : Int))) (g31 : G 31 = tA 0 7 (tR 0 6)) {k : Nat} {S : xS} {K : List Int} {r : Int} (hS : Hp G N S) (hK : S[31]? = some (.inl (0, K))) (hKl : K.length = 7) (hr : 0 ≤ r ∧ r < fac (nn : Int)) (hk : 230 ≤ k) : f_X6_takeRank k S 26 r = some (0, S.set 31 (.inl (0, wy nn r ++ K.drop nn))) := by
  obtain ⟨k, rfl⟩ : ∃ k', k = k' + 1 := ⟨k - 1, by omega⟩
  have h := tk_all hN hn g26 g27 g31 nn k S K 0 r 0 0 0 hS hK hKl (Nat.le_refl _) (by omega) (uc_0 nn (by omega)) hr (by omega)
  rw [show (nn : Int) - (nn : Int) = 0 by omega, show nn - nn = 0 by omega, List.take_zero, List.nil_append] at h
  exact h
theorem tf_X6_takeRank (hN : 45 ≤ N) (hn : 2 ≤ n ∧ n ≤ 7) (hG : ∀ q, 26 ≤ q → q < 45 → G q = R6 n tl a b q) {k : Nat} {S : xS} {i0 : Int} (hS : Hp G N S) (hp : 0 ≤ i0 ∧ i0 < fac n ∧ 230 ≤ (k : Int)) : Ok (f_X6_takeRank k S 26 i0) (fun _ S' => Hp G N S' ∧ True) := by
  obtain ⟨nn, hnn⟩ : ∃ nn : Nat, n = (nn : Int) := ⟨n.toNat, by omega⟩
  subst hnn
  have g31 : G 31 = tA 0 7 (tR 0 6) := hG 31 (by omega) (by omega)
  obtain ⟨c, e, hc⟩ := hp_get hS (show 31 < N by omega)
  rw [g31] at hc
  obtain ⟨K, rfl, hK, hKr⟩ := hc
  obtain ⟨w1, w2, w3⟩ := wy_s (nn := nn) (by omega) (r := i0) (by omega)
  refine ⟨0, _, tk_eq hN (by omega) (hG 26 (by omega) (by omega)) (hG 27 (by omega) (by omega)) g31 hS e hK (by omega) (by omega), hp_set hS ?_, trivial⟩
  rw [g31]
  refine ⟨_, rfl, ?_, fun x hx => ?_⟩
  · rw [List.length_append, w1, List.length_drop, hK]
    omega
  · rcases List.mem_append.mp hx with hx | hx
    · have := w2 x hx
      omega
    · exact hKr x (List.mem_of_mem_drop hx)
theorem ok_ways6 (hN : 45 ≤ N) (hn : 2 ≤ n ∧ n ≤ 7) (hG : ∀ q, 26 ≤ q → q < 45 → G q = R6 n tl a b q) {k : Nat} {S : xS} (hS : Hp G N S) (hk : 9 ≤ (k : Int)) {Q : Int → xS → Prop} {f : Int → xS → Option (Int × xS)} (hf : Ok (f (fac n) S) Q) : Ok (bd2 (f_X6_ways k S 26) f) Q := by
  have e : f_X6_ways k S 26 = some (fac n, S) := by
    unfold f_X6_ways
    rw [if_pos (is6 hN (hG 26 (by omega) (by omega)) hS), bd2_some (tf_X6_n (by omega) (hG 26 (by omega) (by omega)) (hG 27 (by omega) (by omega)) hS), bd2_some (tf_X6_factorial (by omega) (by omega))]
  rw [bd2_some e]
  exact hf
theorem tf_X6_all {G : xT} {N : Nat} {n tl : Int} {a b : Bool}  (hN : 45 ≤ N) (hn : 2 ≤ n ∧ n ≤ 7) (hG : ∀ q, 26 ≤ q → q < 45 → G q = R6 n tl a b q) (hf : 1 ≤ fac n ∧ fac n ≤ 5040) {k : Nat} {S : xS} (hS : Hp G N S) (hp : True) : Ok (f_X6_all k S 26) (fun r S' => S' = S ∧ True) := by
  unfold f_X6_all
  repeat' (first
    | (refine ok_dead ?_; omega)
    | exact ok_some ⟨rfl, by first | trivial | omega⟩
    | rw [wIn (n := n - 1) (by omega) (by omega)]
    | refine ok_in (by omega) (by omega) (by omega) (by omega) (fun hc => ?_) (fun hc => ?_)
    | refine ok_ways6 hN hn hG hS (by omega) ?_
    | refine ok_n6 (by omega) (hG 26 (by omega) (by omega)) (hG 27 (by omega) (by omega)) hS ?_
    | refine ok_fac (by omega) (by omega) ?_
    | refine ok_is hS (by omega) (hG 26 (by omega) (by omega)) ?_
    | refine ok_rdFp hS (by omega) (hG 26 (by omega) (by omega)) rfl ?_
    | refine ok_rdFi hS (by omega) (hG 26 (by omega) (by omega)) rfl (fun _ _ _ => ?_)
    | refine ok_rdFz hS (by omega) (hG 26 (by omega) (by omega)) rfl (fun _ => ?_)
    | refine ok_rdFl hS (by omega) (hG 26 (by omega) (by omega)) rfl (fun _ => ?_)
    | refine ok_n0 hS (by omega) (hG 27 (by omega) (by omega)) ?_
    | refine ok_n1 hS (by omega) (hG 27 (by omega) (by omega)) (fun _ _ _ => ?_)
    | refine ok_n2 hS (by omega) (hG 27 (by omega) (by omega)) (fun _ _ _ => ?_)
    | refine ok_n24 hS (by omega) (hG 27 (by omega) (by omega)) (fun _ _ _ => ?_)
    | refine ok_n41 hS (by omega) (hG 27 (by omega) (by omega)) (fun _ _ _ => ?_)
    | refine ok_n46 hS (by omega) (hG 27 (by omega) (by omega)) (fun _ _ _ => ?_)
    | refine ok_n3 hS (by omega) (hG 27 (by omega) (by omega)) (by omega) (fun _ _ _ => ?_)
    | refine ok_n25 hS (by omega) (hG 27 (by omega) (by omega)) (by omega) (fun _ _ _ => ?_)
    | refine ok_nA hS (by omega) (hG 27 (by omega) (by omega)) (by omega) (fun _ => ?_)
    | refine ok_rdA hS (by omega) (hG _ (by omega) (by omega)) tR_id (by omega) (by omega) (by omega) (fun _ _ _ => ?_)
    | refine ok_rdW hS (by omega) (hG _ (by omega) (by omega)) (by omega) (by omega) (by omega) (fun _ => ?_)
    | refine ok_wrA hS (by omega) (hG _ (by omega) (by omega)) (by omega) (by omega) (by omega) (fun L _ hL => tR_set (by omega) L hL) (fun _ hS => ?_)
    | refine ok_wrA hS (by omega) (hG _ (by omega) (by omega)) (by omega) (by omega) (by omega) (fun _ _ _ => trivial) (fun _ hS => ?_)
    | refine ok_wrF hS (by omega) (hG 26 (by omega) (by omega)) rfl (⟨_, rfl⟩ : fZ _) (fun _ hS => ?_)
    | refine ok_wrF hS (by omega) (hG 26 (by omega) (by omega)) rfl (⟨_, rfl⟩ : fL _) (fun _ hS => ?_)
    | refine ok_wrFE hS (by omega) (hG 26 (by omega) (by omega)) rfl (by omega) (fun _ hS _ => ?_)
    | (refine ok_if (fun hc => ?_) (fun hc => ?_) <;> try simp (disch := omega) only [wIn] at hc))
theorem tg_X6_findsHand {G : xT} {N : Nat} {n tl : Int} {a b : Bool}  (hN : 45 ≤ N) (hn : 2 ≤ n ∧ n ≤ 7) (hG : ∀ q, 26 ≤ q → q < 45 → G q = R6 n tl a b q) (hf : 1 ≤ fac n ∧ fac n ≤ 5040) : ∀ (k lb : Nat) (S : xS) (i0 : Int) (i1 : Int) (i2 : Int), Hp G N S → ((lb = 0 ∧ 2 * n + 50 ≤ (k : Int)) ∨ (lb = 1 ∧ 0 ≤ i1 ∧ i1 ≤ n ∧ 2 * (n - i1) + 47 ≤ (k : Int)) ∨ (lb = 2 ∧ 0 ≤ i0 ∧ i0 < n ∧ 2 * (n - i0) + 46 ≤ (k : Int))) → Ok (g_X6_findsHand k lb S 26 i0 i1 i2) (fun r S' => Hp G N S' ∧ True) := by
  intro k
  induction k with
  | zero => intro lb S i0 i1 i2 hS hp; exfalso; omega
  | succ k ih =>
    intro lb S i0 i1 i2 hS hp
    rcases hp with ⟨rfl, hp⟩ | ⟨rfl, hp⟩ | ⟨rfl, hp⟩
    · show Ok (b_X6_findsHand_0 (g_X6_findsHand k) k S 26 i0 i1 i2) _
      unfold b_X6_findsHand_0
      repeat' (first
        | (refine ok_dead ?_; omega)
        | exact ok_some ⟨hS, by first | trivial | omega⟩
        | exact ih 1 _ _ _ _ hS (Or.inr (Or.inl ⟨rfl, by omega⟩))
        | rw [wIn (n := n - 1) (by omega) (by omega)]
        | refine ok_in (by omega) (by omega) (by omega) (by omega) (fun hc => ?_) (fun hc => ?_)
        | refine ok_ways6 hN hn hG hS (by omega) ?_
        | refine ok_n6 (by omega) (hG 26 (by omega) (by omega)) (hG 27 (by omega) (by omega)) hS ?_
        | refine ok_fac (by omega) (by omega) ?_
        | refine ok_is hS (by omega) (hG 26 (by omega) (by omega)) ?_
        | refine ok_rdFp hS (by omega) (hG 26 (by omega) (by omega)) rfl ?_
        | refine ok_rdFi hS (by omega) (hG 26 (by omega) (by omega)) rfl (fun _ _ _ => ?_)
        | refine ok_rdFz hS (by omega) (hG 26 (by omega) (by omega)) rfl (fun _ => ?_)
        | refine ok_rdFl hS (by omega) (hG 26 (by omega) (by omega)) rfl (fun _ => ?_)
        | refine ok_n0 hS (by omega) (hG 27 (by omega) (by omega)) ?_
        | refine ok_n1 hS (by omega) (hG 27 (by omega) (by omega)) (fun _ _ _ => ?_)
        | refine ok_n2 hS (by omega) (hG 27 (by omega) (by omega)) (fun _ _ _ => ?_)
        | refine ok_n24 hS (by omega) (hG 27 (by omega) (by omega)) (fun _ _ _ => ?_)
        | refine ok_n41 hS (by omega) (hG 27 (by omega) (by omega)) (fun _ _ _ => ?_)
        | refine ok_n46 hS (by omega) (hG 27 (by omega) (by omega)) (fun _ _ _ => ?_)
        | refine ok_n3 hS (by omega) (hG 27 (by omega) (by omega)) (by omega) (fun _ _ _ => ?_)
        | refine ok_n25 hS (by omega) (hG 27 (by omega) (by omega)) (by omega) (fun _ _ _ => ?_)
        | refine ok_nA hS (by omega) (hG 27 (by omega) (by omega)) (by omega) (fun _ => ?_)
        | refine ok_rdA hS (by omega) (hG _ (by omega) (by omega)) tR_id (by omega) (by omega) (by omega) (fun _ _ _ => ?_)
        | refine ok_rdW hS (by omega) (hG _ (by omega) (by omega)) (by omega) (by omega) (by omega) (fun _ => ?_)
        | refine ok_wrA hS (by omega) (hG _ (by omega) (by omega)) (by omega) (by omega) (by omega) (fun L _ hL => tR_set (by omega) L hL) (fun _ hS => ?_)
        | refine ok_wrA hS (by omega) (hG _ (by omega) (by omega)) (by omega) (by omega) (by omega) (fun _ _ _ => trivial) (fun _ hS => ?_)
        | refine ok_wrF hS (by omega) (hG 26 (by omega) (by omega)) rfl (⟨_, rfl⟩ : fZ _) (fun _ hS => ?_)
        | refine ok_wrF hS (by omega) (hG 26 (by omega) (by omega)) rfl (⟨_, rfl⟩ : fL _) (fun _ hS => ?_)
        | refine ok_wrFE hS (by omega) (hG 26 (by omega) (by omega)) rfl (by omega) (fun _ hS _ => ?_)
        | (refine ok_if (fun hc => ?_) (fun hc => ?_) <;> try simp (disch := omega) only [wIn] at hc))
    · show Ok (b_X6_findsHand_1 (g_X6_findsHand k) k S 26 i0 i1 i2) _
      unfold b_X6_findsHand_1
      repeat' (first
        | (refine ok_dead ?_; omega)
        | exact ok_some ⟨hS, by first | trivial | omega⟩
        | exact ih 2 _ _ _ _ hS (Or.inr (Or.inr (⟨rfl, by omega⟩)))
        | (refine ok_bd2 (tf_X6_seek hN hn hG hS (by first | trivial | omega)) (fun _ _ hQ => ?_); obtain ⟨hS, hQ⟩ := hQ)
        | rw [wIn (n := n - 1) (by omega) (by omega)]
        | refine ok_in (by omega) (by omega) (by omega) (by omega) (fun hc => ?_) (fun hc => ?_)
        | refine ok_ways6 hN hn hG hS (by omega) ?_
        | refine ok_n6 (by omega) (hG 26 (by omega) (by omega)) (hG 27 (by omega) (by omega)) hS ?_
        | refine ok_fac (by omega) (by omega) ?_
        | refine ok_is hS (by omega) (hG 26 (by omega) (by omega)) ?_
        | refine ok_rdFp hS (by omega) (hG 26 (by omega) (by omega)) rfl ?_
        | refine ok_rdFi hS (by omega) (hG 26 (by omega) (by omega)) rfl (fun _ _ _ => ?_)
        | refine ok_rdFz hS (by omega) (hG 26 (by omega) (by omega)) rfl (fun _ => ?_)
        | refine ok_rdFl hS (by omega) (hG 26 (by omega) (by omega)) rfl (fun _ => ?_)
        | refine ok_n0 hS (by omega) (hG 27 (by omega) (by omega)) ?_
        | refine ok_n1 hS (by omega) (hG 27 (by omega) (by omega)) (fun _ _ _ => ?_)
        | refine ok_n2 hS (by omega) (hG 27 (by omega) (by omega)) (fun _ _ _ => ?_)
        | refine ok_n24 hS (by omega) (hG 27 (by omega) (by omega)) (fun _ _ _ => ?_)
        | refine ok_n41 hS (by omega) (hG 27 (by omega) (by omega)) (fun _ _ _ => ?_)
        | refine ok_n46 hS (by omega) (hG 27 (by omega) (by omega)) (fun _ _ _ => ?_)
        | refine ok_n3 hS (by omega) (hG 27 (by omega) (by omega)) (by omega) (fun _ _ _ => ?_)
        | refine ok_n25 hS (by omega) (hG 27 (by omega) (by omega)) (by omega) (fun _ _ _ => ?_)
        | refine ok_nA hS (by omega) (hG 27 (by omega) (by omega)) (by omega) (fun _ => ?_)
        | refine ok_rdA hS (by omega) (hG _ (by omega) (by omega)) tR_id (by omega) (by omega) (by omega) (fun _ _ _ => ?_)
        | refine ok_rdW hS (by omega) (hG _ (by omega) (by omega)) (by omega) (by omega) (by omega) (fun _ => ?_)
        | refine ok_wrA hS (by omega) (hG _ (by omega) (by omega)) (by omega) (by omega) (by omega) (fun L _ hL => tR_set (by omega) L hL) (fun _ hS => ?_)
        | refine ok_wrA hS (by omega) (hG _ (by omega) (by omega)) (by omega) (by omega) (by omega) (fun _ _ _ => trivial) (fun _ hS => ?_)
        | refine ok_wrF hS (by omega) (hG 26 (by omega) (by omega)) rfl (⟨_, rfl⟩ : fZ _) (fun _ hS => ?_)
        | refine ok_wrF hS (by omega) (hG 26 (by omega) (by omega)) rfl (⟨_, rfl⟩ : fL _) (fun _ hS => ?_)
        | refine ok_wrFE hS (by omega) (hG 26 (by omega) (by omega)) rfl (by omega) (fun _ hS _ => ?_)
        | (refine ok_if (fun hc => ?_) (fun hc => ?_) <;> try simp (disch := omega) only [wIn] at hc))
    · show Ok (b_X6_findsHand_2 (g_X6_findsHand k) k S 26 i0 i1 i2) _
      unfold b_X6_findsHand_2
      repeat' (first
        | (refine ok_dead ?_; omega)
        | exact ok_some ⟨hS, by first | trivial | omega⟩
        | exact ih 1 _ _ _ _ hS (Or.inr (Or.inl ⟨rfl, by omega⟩))
        | rw [wIn (n := n - 1) (by omega) (by omega)]
        | refine ok_in (by omega) (by omega) (by omega) (by omega) (fun hc => ?_) (fun hc => ?_)
        | refine ok_ways6 hN hn hG hS (by omega) ?_
        | refine ok_n6 (by omega) (hG 26 (by omega) (by omega)) (hG 27 (by omega) (by omega)) hS ?_
        | refine ok_fac (by omega) (by omega) ?_
        | refine ok_is hS (by omega) (hG 26 (by omega) (by omega)) ?_
        | refine ok_rdFp hS (by omega) (hG 26 (by omega) (by omega)) rfl ?_
        | refine ok_rdFi hS (by omega) (hG 26 (by omega) (by omega)) rfl (fun _ _ _ => ?_)
        | refine ok_rdFz hS (by omega) (hG 26 (by omega) (by omega)) rfl (fun _ => ?_)
        | refine ok_rdFl hS (by omega) (hG 26 (by omega) (by omega)) rfl (fun _ => ?_)
        | refine ok_n0 hS (by omega) (hG 27 (by omega) (by omega)) ?_
        | refine ok_n1 hS (by omega) (hG 27 (by omega) (by omega)) (fun _ _ _ => ?_)
        | refine ok_n2 hS (by omega) (hG 27 (by omega) (by omega)) (fun _ _ _ => ?_)
        | refine ok_n24 hS (by omega) (hG 27 (by omega) (by omega)) (fun _ _ _ => ?_)
        | refine ok_n41 hS (by omega) (hG 27 (by omega) (by omega)) (fun _ _ _ => ?_)
        | refine ok_n46 hS (by omega) (hG 27 (by omega) (by omega)) (fun _ _ _ => ?_)
        | refine ok_n3 hS (by omega) (hG 27 (by omega) (by omega)) (by omega) (fun _ _ _ => ?_)
        | refine ok_n25 hS (by omega) (hG 27 (by omega) (by omega)) (by omega) (fun _ _ _ => ?_)
        | refine ok_nA hS (by omega) (hG 27 (by omega) (by omega)) (by omega) (fun _ => ?_)
        | refine ok_rdA hS (by omega) (hG _ (by omega) (by omega)) tR_id (by omega) (by omega) (by omega) (fun _ _ _ => ?_)
        | refine ok_rdW hS (by omega) (hG _ (by omega) (by omega)) (by omega) (by omega) (by omega) (fun _ => ?_)
        | refine ok_wrA hS (by omega) (hG _ (by omega) (by omega)) (by omega) (by omega) (by omega) (fun L _ hL => tR_set (by omega) L hL) (fun _ hS => ?_)
        | refine ok_wrA hS (by omega) (hG _ (by omega) (by omega)) (by omega) (by omega) (by omega) (fun _ _ _ => trivial) (fun _ hS => ?_)
        | refine ok_wrF hS (by omega) (hG 26 (by omega) (by omega)) rfl (⟨_, rfl⟩ : fZ _) (fun _ hS => ?_)
        | refine ok_wrF hS (by omega) (hG 26 (by omega) (by omega)) rfl (⟨_, rfl⟩ : fL _) (fun _ hS => ?_)
        | refine ok_wrFE hS (by omega) (hG 26 (by omega) (by omega)) rfl (by omega) (fun _ hS _ => ?_)
        | (refine ok_if (fun hc => ?_) (fun hc => ?_) <;> try simp (disch := omega) only [wIn] at hc))
theorem tf_X6_findsHand {G : xT} {N : Nat} {n tl : Int} {a b : Bool}  (hN : 45 ≤ N) (hn : 2 ≤ n ∧ n ≤ 7) (hG : ∀ q, 26 ≤ q → q < 45 → G q = R6 n tl a b q) (hf : 1 ≤ fac n ∧ fac n ≤ 5040) {k : Nat} {S : xS} (hS : Hp G N S) (hp : 2 * n + 50 ≤ (k : Int)) : Ok (f_X6_findsHand k S 26) (fun r S' => Hp G N S' ∧ True) :=
  tg_X6_findsHand hN hn hG hf k 0 S 0 0 0 hS (Or.inl ⟨rfl, hp⟩)
theorem tf_X6_rankNow {G : xT} {N : Nat} {n tl : Int} {a b : Bool}  (hN : 45 ≤ N) (hn : 2 ≤ n ∧ n ≤ 7) (hG : ∀ q, 26 ≤ q → q < 45 → G q = R6 n tl a b q) (hf : 1 ≤ fac n ∧ fac n ≤ 5040) {k : Nat} {S : xS} (hS : Hp G N S) (hp : 150 ≤ (k : Int)) : Ok (f_X6_rankNow k S 26) (fun r S' => Hp G N S' ∧ True) := by
  unfold f_X6_rankNow
  repeat' (first
    | (refine ok_dead ?_; omega)
    | exact ok_some ⟨hS, by first | trivial | omega⟩
    | (refine ok_bd2 (tf_X6_takeNow hN hn hG hS (by first | trivial | omega)) (fun _ _ hQ => ?_); obtain ⟨hS, hQ⟩ := hQ)
    | (refine ok_bd2 (tf_X6_rankOf hN hn (hG 26 (by omega) (by omega)) (hG 27 (by omega) (by omega)) (hG 31 (by omega) (by omega)) hS (by first | trivial | omega)) (fun _ _ hQ => ?_); obtain ⟨rfl, hQ⟩ := hQ)
    | rw [wIn (n := n - 1) (by omega) (by omega)]
    | refine ok_in (by omega) (by omega) (by omega) (by omega) (fun hc => ?_) (fun hc => ?_)
    | refine ok_ways6 hN hn hG hS (by omega) ?_
    | refine ok_n6 (by omega) (hG 26 (by omega) (by omega)) (hG 27 (by omega) (by omega)) hS ?_
    | refine ok_fac (by omega) (by omega) ?_
    | refine ok_is hS (by omega) (hG 26 (by omega) (by omega)) ?_
    | refine ok_rdFp hS (by omega) (hG 26 (by omega) (by omega)) rfl ?_
    | refine ok_rdFi hS (by omega) (hG 26 (by omega) (by omega)) rfl (fun _ _ _ => ?_)
    | refine ok_rdFz hS (by omega) (hG 26 (by omega) (by omega)) rfl (fun _ => ?_)
    | refine ok_rdFl hS (by omega) (hG 26 (by omega) (by omega)) rfl (fun _ => ?_)
    | refine ok_n0 hS (by omega) (hG 27 (by omega) (by omega)) ?_
    | refine ok_n1 hS (by omega) (hG 27 (by omega) (by omega)) (fun _ _ _ => ?_)
    | refine ok_n2 hS (by omega) (hG 27 (by omega) (by omega)) (fun _ _ _ => ?_)
    | refine ok_n24 hS (by omega) (hG 27 (by omega) (by omega)) (fun _ _ _ => ?_)
    | refine ok_n41 hS (by omega) (hG 27 (by omega) (by omega)) (fun _ _ _ => ?_)
    | refine ok_n46 hS (by omega) (hG 27 (by omega) (by omega)) (fun _ _ _ => ?_)
    | refine ok_n3 hS (by omega) (hG 27 (by omega) (by omega)) (by omega) (fun _ _ _ => ?_)
    | refine ok_n25 hS (by omega) (hG 27 (by omega) (by omega)) (by omega) (fun _ _ _ => ?_)
    | refine ok_nA hS (by omega) (hG 27 (by omega) (by omega)) (by omega) (fun _ => ?_)
    | refine ok_rdA hS (by omega) (hG _ (by omega) (by omega)) tR_id (by omega) (by omega) (by omega) (fun _ _ _ => ?_)
    | refine ok_rdW hS (by omega) (hG _ (by omega) (by omega)) (by omega) (by omega) (by omega) (fun _ => ?_)
    | refine ok_wrA hS (by omega) (hG _ (by omega) (by omega)) (by omega) (by omega) (by omega) (fun L _ hL => tR_set (by omega) L hL) (fun _ hS => ?_)
    | refine ok_wrA hS (by omega) (hG _ (by omega) (by omega)) (by omega) (by omega) (by omega) (fun _ _ _ => trivial) (fun _ hS => ?_)
    | refine ok_wrF hS (by omega) (hG 26 (by omega) (by omega)) rfl (⟨_, rfl⟩ : fZ _) (fun _ hS => ?_)
    | refine ok_wrF hS (by omega) (hG 26 (by omega) (by omega)) rfl (⟨_, rfl⟩ : fL _) (fun _ hS => ?_)
    | refine ok_wrFE hS (by omega) (hG 26 (by omega) (by omega)) rfl (by omega) (fun _ hS _ => ?_)
    | (refine ok_if (fun hc => ?_) (fun hc => ?_) <;> try simp (disch := omega) only [wIn] at hc))
theorem tg_X6_isSo {G : xT} {N : Nat} {n tl : Int} {a b : Bool}  (hN : 45 ≤ N) (hn : 2 ≤ n ∧ n ≤ 7) (hG : ∀ q, 26 ≤ q → q < 45 → G q = R6 n tl a b q) (hf : 1 ≤ fac n ∧ fac n ≤ 5040) : ∀ (k lb : Nat) (S : xS) (i0 : Int) (i1 : Int), Hp G N S → ((lb = 0 ∧ 110 ≤ (k : Int)) ∨ (lb = 1 ∧ (i0 = 0 ∨ i0 = 1) ∧ 0 ≤ i1 ∧ i1 ≤ n ∧ 3 * (n - i1) + 80 ≤ (k : Int)) ∨ (lb = 2 ∧ 0 ≤ i0 ∧ i0 < n ∧ 3 * (n - i0) + 79 ≤ (k : Int)) ∨ (lb = 3 ∧ 0 ≤ i0 ∧ i0 < n ∧ 3 * (n - i0) + 79 ≤ (k : Int)) ∨ (lb = 4 ∧ 0 ≤ i0 ∧ i0 < n ∧ (i1 = 0 ∨ i1 = 1) ∧ 3 * (n - i0) + 78 ≤ (k : Int)) ∨ (lb = 5 ∧ (i0 = 0 ∨ i0 = 1) ∧ 0 ≤ i1 ∧ i1 ≤ 8 ∧ 3 * (8 - i1) + 50 ≤ (k : Int)) ∨ (lb = 6 ∧ 0 ≤ i0 ∧ i0 < 8 ∧ 3 * (8 - i0) + 49 ≤ (k : Int)) ∨ (lb = 7 ∧ 0 ≤ i0 ∧ i0 < 8 ∧ (i1 = 0 ∨ i1 = 1) ∧ 3 * (8 - i0) + 48 ≤ (k : Int))) → Ok (g_X6_isSo k lb S 26 i0 i1) (fun r S' => Hp G N S' ∧ (r = 0 ∨ r = 1)) := by
  intro k
  induction k with
  | zero => intro lb S i0 i1 hS hp; exfalso; omega
  | succ k ih =>
    intro lb S i0 i1 hS hp
    rcases hp with ⟨rfl, hp⟩ | ⟨rfl, hp⟩ | ⟨rfl, hp⟩ | ⟨rfl, hp⟩ | ⟨rfl, hp⟩ | ⟨rfl, hp⟩ | ⟨rfl, hp⟩ | ⟨rfl, hp⟩
    · show Ok (b_X6_isSo_0 (g_X6_isSo k) k S 26 i0 i1) _
      unfold b_X6_isSo_0
      repeat' (first
        | (refine ok_dead ?_; omega)
        | exact ok_some ⟨hS, by first | trivial | omega⟩
        | exact ih 1 _ _ _ hS (Or.inr (Or.inl ⟨rfl, by omega⟩))
        | rw [wIn (n := n - 1) (by omega) (by omega)]
        | refine ok_in (by omega) (by omega) (by omega) (by omega) (fun hc => ?_) (fun hc => ?_)
        | refine ok_ways6 hN hn hG hS (by omega) ?_
        | refine ok_n6 (by omega) (hG 26 (by omega) (by omega)) (hG 27 (by omega) (by omega)) hS ?_
        | refine ok_fac (by omega) (by omega) ?_
        | refine ok_is hS (by omega) (hG 26 (by omega) (by omega)) ?_
        | refine ok_rdFp hS (by omega) (hG 26 (by omega) (by omega)) rfl ?_
        | refine ok_rdFi hS (by omega) (hG 26 (by omega) (by omega)) rfl (fun _ _ _ => ?_)
        | refine ok_rdFz hS (by omega) (hG 26 (by omega) (by omega)) rfl (fun _ => ?_)
        | refine ok_rdFl hS (by omega) (hG 26 (by omega) (by omega)) rfl (fun _ => ?_)
        | refine ok_n0 hS (by omega) (hG 27 (by omega) (by omega)) ?_
        | refine ok_n1 hS (by omega) (hG 27 (by omega) (by omega)) (fun _ _ _ => ?_)
        | refine ok_n2 hS (by omega) (hG 27 (by omega) (by omega)) (fun _ _ _ => ?_)
        | refine ok_n24 hS (by omega) (hG 27 (by omega) (by omega)) (fun _ _ _ => ?_)
        | refine ok_n41 hS (by omega) (hG 27 (by omega) (by omega)) (fun _ _ _ => ?_)
        | refine ok_n46 hS (by omega) (hG 27 (by omega) (by omega)) (fun _ _ _ => ?_)
        | refine ok_n3 hS (by omega) (hG 27 (by omega) (by omega)) (by omega) (fun _ _ _ => ?_)
        | refine ok_n25 hS (by omega) (hG 27 (by omega) (by omega)) (by omega) (fun _ _ _ => ?_)
        | refine ok_nA hS (by omega) (hG 27 (by omega) (by omega)) (by omega) (fun _ => ?_)
        | refine ok_rdA hS (by omega) (hG _ (by omega) (by omega)) tR_id (by omega) (by omega) (by omega) (fun _ _ _ => ?_)
        | refine ok_rdW hS (by omega) (hG _ (by omega) (by omega)) (by omega) (by omega) (by omega) (fun _ => ?_)
        | refine ok_wrA hS (by omega) (hG _ (by omega) (by omega)) (by omega) (by omega) (by omega) (fun L _ hL => tR_set (by omega) L hL) (fun _ hS => ?_)
        | refine ok_wrA hS (by omega) (hG _ (by omega) (by omega)) (by omega) (by omega) (by omega) (fun _ _ _ => trivial) (fun _ hS => ?_)
        | refine ok_wrF hS (by omega) (hG 26 (by omega) (by omega)) rfl (⟨_, rfl⟩ : fZ _) (fun _ hS => ?_)
        | refine ok_wrF hS (by omega) (hG 26 (by omega) (by omega)) rfl (⟨_, rfl⟩ : fL _) (fun _ hS => ?_)
        | refine ok_wrFE hS (by omega) (hG 26 (by omega) (by omega)) rfl (by omega) (fun _ hS _ => ?_)
        | (refine ok_if (fun hc => ?_) (fun hc => ?_) <;> try simp (disch := omega) only [wIn] at hc))
    · show Ok (b_X6_isSo_1 (g_X6_isSo k) k S 26 i0 i1) _
      unfold b_X6_isSo_1
      repeat' (first
        | (refine ok_dead ?_; omega)
        | exact ok_some ⟨hS, by first | trivial | omega⟩
        | exact ih 2 _ _ _ hS (Or.inr (Or.inr (Or.inl ⟨rfl, by omega⟩)))
        | exact ih 3 _ _ _ hS (Or.inr (Or.inr (Or.inr (Or.inl ⟨rfl, by omega⟩))))
        | exact ih 5 _ _ _ hS (Or.inr (Or.inr (Or.inr (Or.inr (Or.inr (Or.inl ⟨rfl, by omega⟩))))))
        | rw [wIn (n := n - 1) (by omega) (by omega)]
        | refine ok_in (by omega) (by omega) (by omega) (by omega) (fun hc => ?_) (fun hc => ?_)
        | refine ok_ways6 hN hn hG hS (by omega) ?_
        | refine ok_n6 (by omega) (hG 26 (by omega) (by omega)) (hG 27 (by omega) (by omega)) hS ?_
        | refine ok_fac (by omega) (by omega) ?_
        | refine ok_is hS (by omega) (hG 26 (by omega) (by omega)) ?_
        | refine ok_rdFp hS (by omega) (hG 26 (by omega) (by omega)) rfl ?_
        | refine ok_rdFi hS (by omega) (hG 26 (by omega) (by omega)) rfl (fun _ _ _ => ?_)
        | refine ok_rdFz hS (by omega) (hG 26 (by omega) (by omega)) rfl (fun _ => ?_)
        | refine ok_rdFl hS (by omega) (hG 26 (by omega) (by omega)) rfl (fun _ => ?_)
        | refine ok_n0 hS (by omega) (hG 27 (by omega) (by omega)) ?_
        | refine ok_n1 hS (by omega) (hG 27 (by omega) (by omega)) (fun _ _ _ => ?_)
        | refine ok_n2 hS (by omega) (hG 27 (by omega) (by omega)) (fun _ _ _ => ?_)
        | refine ok_n24 hS (by omega) (hG 27 (by omega) (by omega)) (fun _ _ _ => ?_)
        | refine ok_n41 hS (by omega) (hG 27 (by omega) (by omega)) (fun _ _ _ => ?_)
        | refine ok_n46 hS (by omega) (hG 27 (by omega) (by omega)) (fun _ _ _ => ?_)
        | refine ok_n3 hS (by omega) (hG 27 (by omega) (by omega)) (by omega) (fun _ _ _ => ?_)
        | refine ok_n25 hS (by omega) (hG 27 (by omega) (by omega)) (by omega) (fun _ _ _ => ?_)
        | refine ok_nA hS (by omega) (hG 27 (by omega) (by omega)) (by omega) (fun _ => ?_)
        | refine ok_rdA hS (by omega) (hG _ (by omega) (by omega)) tR_id (by omega) (by omega) (by omega) (fun _ _ _ => ?_)
        | refine ok_rdW hS (by omega) (hG _ (by omega) (by omega)) (by omega) (by omega) (by omega) (fun _ => ?_)
        | refine ok_wrA hS (by omega) (hG _ (by omega) (by omega)) (by omega) (by omega) (by omega) (fun L _ hL => tR_set (by omega) L hL) (fun _ hS => ?_)
        | refine ok_wrA hS (by omega) (hG _ (by omega) (by omega)) (by omega) (by omega) (by omega) (fun _ _ _ => trivial) (fun _ hS => ?_)
        | refine ok_wrF hS (by omega) (hG 26 (by omega) (by omega)) rfl (⟨_, rfl⟩ : fZ _) (fun _ hS => ?_)
        | refine ok_wrF hS (by omega) (hG 26 (by omega) (by omega)) rfl (⟨_, rfl⟩ : fL _) (fun _ hS => ?_)
        | refine ok_wrFE hS (by omega) (hG 26 (by omega) (by omega)) rfl (by omega) (fun _ hS _ => ?_)
        | (refine ok_if (fun hc => ?_) (fun hc => ?_) <;> try simp (disch := omega) only [wIn] at hc))
    · show Ok (b_X6_isSo_2 (g_X6_isSo k) k S 26 i0 i1) _
      unfold b_X6_isSo_2
      repeat' (first
        | (refine ok_dead ?_; omega)
        | exact ok_some ⟨hS, by first | trivial | omega⟩
        | exact ih 4 _ _ _ hS (Or.inr (Or.inr (Or.inr (Or.inr (Or.inl ⟨rfl, by omega⟩)))))
        | rw [wIn (n := n - 1) (by omega) (by omega)]
        | refine ok_in (by omega) (by omega) (by omega) (by omega) (fun hc => ?_) (fun hc => ?_)
        | refine ok_ways6 hN hn hG hS (by omega) ?_
        | refine ok_n6 (by omega) (hG 26 (by omega) (by omega)) (hG 27 (by omega) (by omega)) hS ?_
        | refine ok_fac (by omega) (by omega) ?_
        | refine ok_is hS (by omega) (hG 26 (by omega) (by omega)) ?_
        | refine ok_rdFp hS (by omega) (hG 26 (by omega) (by omega)) rfl ?_
        | refine ok_rdFi hS (by omega) (hG 26 (by omega) (by omega)) rfl (fun _ _ _ => ?_)
        | refine ok_rdFz hS (by omega) (hG 26 (by omega) (by omega)) rfl (fun _ => ?_)
        | refine ok_rdFl hS (by omega) (hG 26 (by omega) (by omega)) rfl (fun _ => ?_)
        | refine ok_n0 hS (by omega) (hG 27 (by omega) (by omega)) ?_
        | refine ok_n1 hS (by omega) (hG 27 (by omega) (by omega)) (fun _ _ _ => ?_)
        | refine ok_n2 hS (by omega) (hG 27 (by omega) (by omega)) (fun _ _ _ => ?_)
        | refine ok_n24 hS (by omega) (hG 27 (by omega) (by omega)) (fun _ _ _ => ?_)
        | refine ok_n41 hS (by omega) (hG 27 (by omega) (by omega)) (fun _ _ _ => ?_)
        | refine ok_n46 hS (by omega) (hG 27 (by omega) (by omega)) (fun _ _ _ => ?_)
        | refine ok_n3 hS (by omega) (hG 27 (by omega) (by omega)) (by omega) (fun _ _ _ => ?_)
        | refine ok_n25 hS (by omega) (hG 27 (by omega) (by omega)) (by omega) (fun _ _ _ => ?_)
        | refine ok_nA hS (by omega) (hG 27 (by omega) (by omega)) (by omega) (fun _ => ?_)
        | refine ok_rdA hS (by omega) (hG _ (by omega) (by omega)) tR_id (by omega) (by omega) (by omega) (fun _ _ _ => ?_)
        | refine ok_rdW hS (by omega) (hG _ (by omega) (by omega)) (by omega) (by omega) (by omega) (fun _ => ?_)
        | refine ok_wrA hS (by omega) (hG _ (by omega) (by omega)) (by omega) (by omega) (by omega) (fun L _ hL => tR_set (by omega) L hL) (fun _ hS => ?_)
        | refine ok_wrA hS (by omega) (hG _ (by omega) (by omega)) (by omega) (by omega) (by omega) (fun _ _ _ => trivial) (fun _ hS => ?_)
        | refine ok_wrF hS (by omega) (hG 26 (by omega) (by omega)) rfl (⟨_, rfl⟩ : fZ _) (fun _ hS => ?_)
        | refine ok_wrF hS (by omega) (hG 26 (by omega) (by omega)) rfl (⟨_, rfl⟩ : fL _) (fun _ hS => ?_)
        | refine ok_wrFE hS (by omega) (hG 26 (by omega) (by omega)) rfl (by omega) (fun _ hS _ => ?_)
        | (refine ok_if (fun hc => ?_) (fun hc => ?_) <;> try simp (disch := omega) only [wIn] at hc))
    · show Ok (b_X6_isSo_3 (g_X6_isSo k) k S 26 i0 i1) _
      unfold b_X6_isSo_3
      repeat' (first
        | (refine ok_dead ?_; omega)
        | exact ok_some ⟨hS, by first | trivial | omega⟩
        | exact ih 4 _ _ _ hS (Or.inr (Or.inr (Or.inr (Or.inr (Or.inl ⟨rfl, by omega⟩)))))
        | rw [wIn (n := n - 1) (by omega) (by omega)]
        | refine ok_in (by omega) (by omega) (by omega) (by omega) (fun hc => ?_) (fun hc => ?_)
        | refine ok_ways6 hN hn hG hS (by omega) ?_
        | refine ok_n6 (by omega) (hG 26 (by omega) (by omega)) (hG 27 (by omega) (by omega)) hS ?_
        | refine ok_fac (by omega) (by omega) ?_
        | refine ok_is hS (by omega) (hG 26 (by omega) (by omega)) ?_
        | refine ok_rdFp hS (by omega) (hG 26 (by omega) (by omega)) rfl ?_
        | refine ok_rdFi hS (by omega) (hG 26 (by omega) (by omega)) rfl (fun _ _ _ => ?_)
        | refine ok_rdFz hS (by omega) (hG 26 (by omega) (by omega)) rfl (fun _ => ?_)
        | refine ok_rdFl hS (by omega) (hG 26 (by omega) (by omega)) rfl (fun _ => ?_)
        | refine ok_n0 hS (by omega) (hG 27 (by omega) (by omega)) ?_
        | refine ok_n1 hS (by omega) (hG 27 (by omega) (by omega)) (fun _ _ _ => ?_)
        | refine ok_n2 hS (by omega) (hG 27 (by omega) (by omega)) (fun _ _ _ => ?_)
        | refine ok_n24 hS (by omega) (hG 27 (by omega) (by omega)) (fun _ _ _ => ?_)
        | refine ok_n41 hS (by omega) (hG 27 (by omega) (by omega)) (fun _ _ _ => ?_)
        | refine ok_n46 hS (by omega) (hG 27 (by omega) (by omega)) (fun _ _ _ => ?_)
        | refine ok_n3 hS (by omega) (hG 27 (by omega) (by omega)) (by omega) (fun _ _ _ => ?_)
        | refine ok_n25 hS (by omega) (hG 27 (by omega) (by omega)) (by omega) (fun _ _ _ => ?_)
        | refine ok_nA hS (by omega) (hG 27 (by omega) (by omega)) (by omega) (fun _ => ?_)
        | refine ok_rdA hS (by omega) (hG _ (by omega) (by omega)) tR_id (by omega) (by omega) (by omega) (fun _ _ _ => ?_)
        | refine ok_rdW hS (by omega) (hG _ (by omega) (by omega)) (by omega) (by omega) (by omega) (fun _ => ?_)
        | refine ok_wrA hS (by omega) (hG _ (by omega) (by omega)) (by omega) (by omega) (by omega) (fun L _ hL => tR_set (by omega) L hL) (fun _ hS => ?_)
        | refine ok_wrA hS (by omega) (hG _ (by omega) (by omega)) (by omega) (by omega) (by omega) (fun _ _ _ => trivial) (fun _ hS => ?_)
        | refine ok_wrF hS (by omega) (hG 26 (by omega) (by omega)) rfl (⟨_, rfl⟩ : fZ _) (fun _ hS => ?_)
        | refine ok_wrF hS (by omega) (hG 26 (by omega) (by omega)) rfl (⟨_, rfl⟩ : fL _) (fun _ hS => ?_)
        | refine ok_wrFE hS (by omega) (hG 26 (by omega) (by omega)) rfl (by omega) (fun _ hS _ => ?_)
        | (refine ok_if (fun hc => ?_) (fun hc => ?_) <;> try simp (disch := omega) only [wIn] at hc))
    · show Ok (b_X6_isSo_4 (g_X6_isSo k) k S 26 i0 i1) _
      unfold b_X6_isSo_4
      repeat' (first
        | (refine ok_dead ?_; omega)
        | exact ok_some ⟨hS, by first | trivial | omega⟩
        | exact ih 1 _ _ _ hS (Or.inr (Or.inl ⟨rfl, by omega⟩))
        | rw [wIn (n := n - 1) (by omega) (by omega)]
        | refine ok_in (by omega) (by omega) (by omega) (by omega) (fun hc => ?_) (fun hc => ?_)
        | refine ok_ways6 hN hn hG hS (by omega) ?_
        | refine ok_n6 (by omega) (hG 26 (by omega) (by omega)) (hG 27 (by omega) (by omega)) hS ?_
        | refine ok_fac (by omega) (by omega) ?_
        | refine ok_is hS (by omega) (hG 26 (by omega) (by omega)) ?_
        | refine ok_rdFp hS (by omega) (hG 26 (by omega) (by omega)) rfl ?_
        | refine ok_rdFi hS (by omega) (hG 26 (by omega) (by omega)) rfl (fun _ _ _ => ?_)
        | refine ok_rdFz hS (by omega) (hG 26 (by omega) (by omega)) rfl (fun _ => ?_)
        | refine ok_rdFl hS (by omega) (hG 26 (by omega) (by omega)) rfl (fun _ => ?_)
        | refine ok_n0 hS (by omega) (hG 27 (by omega) (by omega)) ?_
        | refine ok_n1 hS (by omega) (hG 27 (by omega) (by omega)) (fun _ _ _ => ?_)
        | refine ok_n2 hS (by omega) (hG 27 (by omega) (by omega)) (fun _ _ _ => ?_)
        | refine ok_n24 hS (by omega) (hG 27 (by omega) (by omega)) (fun _ _ _ => ?_)
        | refine ok_n41 hS (by omega) (hG 27 (by omega) (by omega)) (fun _ _ _ => ?_)
        | refine ok_n46 hS (by omega) (hG 27 (by omega) (by omega)) (fun _ _ _ => ?_)
        | refine ok_n3 hS (by omega) (hG 27 (by omega) (by omega)) (by omega) (fun _ _ _ => ?_)
        | refine ok_n25 hS (by omega) (hG 27 (by omega) (by omega)) (by omega) (fun _ _ _ => ?_)
        | refine ok_nA hS (by omega) (hG 27 (by omega) (by omega)) (by omega) (fun _ => ?_)
        | refine ok_rdA hS (by omega) (hG _ (by omega) (by omega)) tR_id (by omega) (by omega) (by omega) (fun _ _ _ => ?_)
        | refine ok_rdW hS (by omega) (hG _ (by omega) (by omega)) (by omega) (by omega) (by omega) (fun _ => ?_)
        | refine ok_wrA hS (by omega) (hG _ (by omega) (by omega)) (by omega) (by omega) (by omega) (fun L _ hL => tR_set (by omega) L hL) (fun _ hS => ?_)
        | refine ok_wrA hS (by omega) (hG _ (by omega) (by omega)) (by omega) (by omega) (by omega) (fun _ _ _ => trivial) (fun _ hS => ?_)
        | refine ok_wrF hS (by omega) (hG 26 (by omega) (by omega)) rfl (⟨_, rfl⟩ : fZ _) (fun _ hS => ?_)
        | refine ok_wrF hS (by omega) (hG 26 (by omega) (by omega)) rfl (⟨_, rfl⟩ : fL _) (fun _ hS => ?_)
        | refine ok_wrFE hS (by omega) (hG 26 (by omega) (by omega)) rfl (by omega) (fun _ hS _ => ?_)
        | (refine ok_if (fun hc => ?_) (fun hc => ?_) <;> try simp (disch := omega) only [wIn] at hc))
    · show Ok (b_X6_isSo_5 (g_X6_isSo k) k S 26 i0 i1) _
      unfold b_X6_isSo_5
      repeat' (first
        | (refine ok_dead ?_; omega)
        | exact ok_some ⟨hS, by first | trivial | omega⟩
        | exact ih 6 _ _ _ hS (Or.inr (Or.inr (Or.inr (Or.inr (Or.inr (Or.inr (Or.inl ⟨rfl, by omega⟩)))))))
        | (refine ok_bd2 (tf_X6_seek hN hn hG hS (by first | trivial | omega)) (fun _ _ hQ => ?_); obtain ⟨hS, hQ⟩ := hQ)
        | rw [wIn (n := n - 1) (by omega) (by omega)]
        | refine ok_in (by omega) (by omega) (by omega) (by omega) (fun hc => ?_) (fun hc => ?_)
        | refine ok_ways6 hN hn hG hS (by omega) ?_
        | refine ok_n6 (by omega) (hG 26 (by omega) (by omega)) (hG 27 (by omega) (by omega)) hS ?_
        | refine ok_fac (by omega) (by omega) ?_
        | refine ok_is hS (by omega) (hG 26 (by omega) (by omega)) ?_
        | refine ok_rdFp hS (by omega) (hG 26 (by omega) (by omega)) rfl ?_
        | refine ok_rdFi hS (by omega) (hG 26 (by omega) (by omega)) rfl (fun _ _ _ => ?_)
        | refine ok_rdFz hS (by omega) (hG 26 (by omega) (by omega)) rfl (fun _ => ?_)
        | refine ok_rdFl hS (by omega) (hG 26 (by omega) (by omega)) rfl (fun _ => ?_)
        | refine ok_n0 hS (by omega) (hG 27 (by omega) (by omega)) ?_
        | refine ok_n1 hS (by omega) (hG 27 (by omega) (by omega)) (fun _ _ _ => ?_)
        | refine ok_n2 hS (by omega) (hG 27 (by omega) (by omega)) (fun _ _ _ => ?_)
        | refine ok_n24 hS (by omega) (hG 27 (by omega) (by omega)) (fun _ _ _ => ?_)
        | refine ok_n41 hS (by omega) (hG 27 (by omega) (by omega)) (fun _ _ _ => ?_)
        | refine ok_n46 hS (by omega) (hG 27 (by omega) (by omega)) (fun _ _ _ => ?_)
        | refine ok_n3 hS (by omega) (hG 27 (by omega) (by omega)) (by omega) (fun _ _ _ => ?_)
        | refine ok_n25 hS (by omega) (hG 27 (by omega) (by omega)) (by omega) (fun _ _ _ => ?_)
        | refine ok_nA hS (by omega) (hG 27 (by omega) (by omega)) (by omega) (fun _ => ?_)
        | refine ok_rdA hS (by omega) (hG _ (by omega) (by omega)) tR_id (by omega) (by omega) (by omega) (fun _ _ _ => ?_)
        | refine ok_rdW hS (by omega) (hG _ (by omega) (by omega)) (by omega) (by omega) (by omega) (fun _ => ?_)
        | refine ok_wrA hS (by omega) (hG _ (by omega) (by omega)) (by omega) (by omega) (by omega) (fun L _ hL => tR_set (by omega) L hL) (fun _ hS => ?_)
        | refine ok_wrA hS (by omega) (hG _ (by omega) (by omega)) (by omega) (by omega) (by omega) (fun _ _ _ => trivial) (fun _ hS => ?_)
        | refine ok_wrF hS (by omega) (hG 26 (by omega) (by omega)) rfl (⟨_, rfl⟩ : fZ _) (fun _ hS => ?_)
        | refine ok_wrF hS (by omega) (hG 26 (by omega) (by omega)) rfl (⟨_, rfl⟩ : fL _) (fun _ hS => ?_)
        | refine ok_wrFE hS (by omega) (hG 26 (by omega) (by omega)) rfl (by omega) (fun _ hS _ => ?_)
        | (refine ok_if (fun hc => ?_) (fun hc => ?_) <;> try simp (disch := omega) only [wIn] at hc))
    · show Ok (b_X6_isSo_6 (g_X6_isSo k) k S 26 i0 i1) _
      unfold b_X6_isSo_6
      repeat' (first
        | (refine ok_dead ?_; omega)
        | exact ok_some ⟨hS, by first | trivial | omega⟩
        | exact ih 7 _ _ _ hS (Or.inr (Or.inr (Or.inr (Or.inr (Or.inr (Or.inr (Or.inr (⟨rfl, by omega⟩))))))))
        | rw [wIn (n := n - 1) (by omega) (by omega)]
        | refine ok_in (by omega) (by omega) (by omega) (by omega) (fun hc => ?_) (fun hc => ?_)
        | refine ok_ways6 hN hn hG hS (by omega) ?_
        | refine ok_n6 (by omega) (hG 26 (by omega) (by omega)) (hG 27 (by omega) (by omega)) hS ?_
        | refine ok_fac (by omega) (by omega) ?_
        | refine ok_is hS (by omega) (hG 26 (by omega) (by omega)) ?_
        | refine ok_rdFp hS (by omega) (hG 26 (by omega) (by omega)) rfl ?_
        | refine ok_rdFi hS (by omega) (hG 26 (by omega) (by omega)) rfl (fun _ _ _ => ?_)
        | refine ok_rdFz hS (by omega) (hG 26 (by omega) (by omega)) rfl (fun _ => ?_)
        | refine ok_rdFl hS (by omega) (hG 26 (by omega) (by omega)) rfl (fun _ => ?_)
        | refine ok_n0 hS (by omega) (hG 27 (by omega) (by omega)) ?_
        | refine ok_n1 hS (by omega) (hG 27 (by omega) (by omega)) (fun _ _ _ => ?_)
        | refine ok_n2 hS (by omega) (hG 27 (by omega) (by omega)) (fun _ _ _ => ?_)
        | refine ok_n24 hS (by omega) (hG 27 (by omega) (by omega)) (fun _ _ _ => ?_)
        | refine ok_n41 hS (by omega) (hG 27 (by omega) (by omega)) (fun _ _ _ => ?_)
        | refine ok_n46 hS (by omega) (hG 27 (by omega) (by omega)) (fun _ _ _ => ?_)
        | refine ok_n3 hS (by omega) (hG 27 (by omega) (by omega)) (by omega) (fun _ _ _ => ?_)
        | refine ok_n25 hS (by omega) (hG 27 (by omega) (by omega)) (by omega) (fun _ _ _ => ?_)
        | refine ok_nA hS (by omega) (hG 27 (by omega) (by omega)) (by omega) (fun _ => ?_)
        | refine ok_rdA hS (by omega) (hG _ (by omega) (by omega)) tR_id (by omega) (by omega) (by omega) (fun _ _ _ => ?_)
        | refine ok_rdW hS (by omega) (hG _ (by omega) (by omega)) (by omega) (by omega) (by omega) (fun _ => ?_)
        | refine ok_wrA hS (by omega) (hG _ (by omega) (by omega)) (by omega) (by omega) (by omega) (fun L _ hL => tR_set (by omega) L hL) (fun _ hS => ?_)
        | refine ok_wrA hS (by omega) (hG _ (by omega) (by omega)) (by omega) (by omega) (by omega) (fun _ _ _ => trivial) (fun _ hS => ?_)
        | refine ok_wrF hS (by omega) (hG 26 (by omega) (by omega)) rfl (⟨_, rfl⟩ : fZ _) (fun _ hS => ?_)
        | refine ok_wrF hS (by omega) (hG 26 (by omega) (by omega)) rfl (⟨_, rfl⟩ : fL _) (fun _ hS => ?_)
        | refine ok_wrFE hS (by omega) (hG 26 (by omega) (by omega)) rfl (by omega) (fun _ hS _ => ?_)
        | (refine ok_if (fun hc => ?_) (fun hc => ?_) <;> try simp (disch := omega) only [wIn] at hc))
    · show Ok (b_X6_isSo_7 (g_X6_isSo k) k S 26 i0 i1) _
      unfold b_X6_isSo_7
      repeat' (first
        | (refine ok_dead ?_; omega)
        | exact ok_some ⟨hS, by first | trivial | omega⟩
        | exact ih 5 _ _ _ hS (Or.inr (Or.inr (Or.inr (Or.inr (Or.inr (Or.inl ⟨rfl, by omega⟩))))))
        | rw [wIn (n := n - 1) (by omega) (by omega)]
        | refine ok_in (by omega) (by omega) (by omega) (by omega) (fun hc => ?_) (fun hc => ?_)
        | refine ok_ways6 hN hn hG hS (by omega) ?_
        | refine ok_n6 (by omega) (hG 26 (by omega) (by omega)) (hG 27 (by omega) (by omega)) hS ?_
        | refine ok_fac (by omega) (by omega) ?_
        | refine ok_is hS (by omega) (hG 26 (by omega) (by omega)) ?_
        | refine ok_rdFp hS (by omega) (hG 26 (by omega) (by omega)) rfl ?_
        | refine ok_rdFi hS (by omega) (hG 26 (by omega) (by omega)) rfl (fun _ _ _ => ?_)
        | refine ok_rdFz hS (by omega) (hG 26 (by omega) (by omega)) rfl (fun _ => ?_)
        | refine ok_rdFl hS (by omega) (hG 26 (by omega) (by omega)) rfl (fun _ => ?_)
        | refine ok_n0 hS (by omega) (hG 27 (by omega) (by omega)) ?_
        | refine ok_n1 hS (by omega) (hG 27 (by omega) (by omega)) (fun _ _ _ => ?_)
        | refine ok_n2 hS (by omega) (hG 27 (by omega) (by omega)) (fun _ _ _ => ?_)
        | refine ok_n24 hS (by omega) (hG 27 (by omega) (by omega)) (fun _ _ _ => ?_)
        | refine ok_n41 hS (by omega) (hG 27 (by omega) (by omega)) (fun _ _ _ => ?_)
        | refine ok_n46 hS (by omega) (hG 27 (by omega) (by omega)) (fun _ _ _ => ?_)
        | refine ok_n3 hS (by omega) (hG 27 (by omega) (by omega)) (by omega) (fun _ _ _ => ?_)
        | refine ok_n25 hS (by omega) (hG 27 (by omega) (by omega)) (by omega) (fun _ _ _ => ?_)
        | refine ok_nA hS (by omega) (hG 27 (by omega) (by omega)) (by omega) (fun _ => ?_)
        | refine ok_rdA hS (by omega) (hG _ (by omega) (by omega)) tR_id (by omega) (by omega) (by omega) (fun _ _ _ => ?_)
        | refine ok_rdW hS (by omega) (hG _ (by omega) (by omega)) (by omega) (by omega) (by omega) (fun _ => ?_)
        | refine ok_wrA hS (by omega) (hG _ (by omega) (by omega)) (by omega) (by omega) (by omega) (fun L _ hL => tR_set (by omega) L hL) (fun _ hS => ?_)
        | refine ok_wrA hS (by omega) (hG _ (by omega) (by omega)) (by omega) (by omega) (by omega) (fun _ _ _ => trivial) (fun _ hS => ?_)
        | refine ok_wrF hS (by omega) (hG 26 (by omega) (by omega)) rfl (⟨_, rfl⟩ : fZ _) (fun _ hS => ?_)
        | refine ok_wrF hS (by omega) (hG 26 (by omega) (by omega)) rfl (⟨_, rfl⟩ : fL _) (fun _ hS => ?_)
        | refine ok_wrFE hS (by omega) (hG 26 (by omega) (by omega)) rfl (by omega) (fun _ hS _ => ?_)
        | (refine ok_if (fun hc => ?_) (fun hc => ?_) <;> try simp (disch := omega) only [wIn] at hc))
theorem tf_X6_isSo {G : xT} {N : Nat} {n tl : Int} {a b : Bool}  (hN : 45 ≤ N) (hn : 2 ≤ n ∧ n ≤ 7) (hG : ∀ q, 26 ≤ q → q < 45 → G q = R6 n tl a b q) (hf : 1 ≤ fac n ∧ fac n ≤ 5040) {k : Nat} {S : xS} (hS : Hp G N S) (hp : 110 ≤ (k : Int)) : Ok (f_X6_isSo k S 26) (fun r S' => Hp G N S' ∧ (r = 0 ∨ r = 1)) :=
  tg_X6_isSo hN hn hG hf k 0 S 0 0 hS (Or.inl ⟨rfl, hp⟩)
theorem tg_X6_goes {G : xT} {N : Nat} {n tl : Int} {a b : Bool}  (hN : 45 ≤ N) (hn : 2 ≤ n ∧ n ≤ 7) (hG : ∀ q, 26 ≤ q → q < 45 → G q = R6 n tl a b q) (hf : 1 ≤ fac n ∧ fac n ≤ 5040) : ∀ (k lb : Nat) (S : xS) (i0 : Int) (i1 : Int), Hp G N S → ((lb = 0 ∧ 0 ≤ i0 ∧ i0 < fac n ∧ 260 ≤ (k : Int)) ∨ (lb = 1 ∧ (i0 = 0 ∨ i0 = 1) ∧ 0 ≤ i1 ∧ i1 ≤ n ∧ 3 * (n - i1) + 2 ≤ (k : Int)) ∨ (lb = 2 ∧ 0 ≤ i0 ∧ i0 < n ∧ 3 * (n - i0) + 1 ≤ (k : Int)) ∨ (lb = 3 ∧ 0 ≤ i0 ∧ i0 < n ∧ (i1 = 0 ∨ i1 = 1) ∧ 3 * (n - i0) ≤ (k : Int))) → Ok (g_X6_goes k lb S 26 i0 i1) (fun r S' => Hp G N S' ∧ (r = 0 ∨ r = 1)) := by
  intro k
  induction k with
  | zero => intro lb S i0 i1 hS hp; exfalso; omega
  | succ k ih =>
    intro lb S i0 i1 hS hp
    rcases hp with ⟨rfl, hp⟩ | ⟨rfl, hp⟩ | ⟨rfl, hp⟩ | ⟨rfl, hp⟩
    · show Ok (b_X6_goes_0 (g_X6_goes k) k S 26 i0 i1) _
      unfold b_X6_goes_0
      repeat' (first
        | (refine ok_dead ?_; omega)
        | exact ok_some ⟨hS, by first | trivial | omega⟩
        | exact ih 1 _ _ _ hS (Or.inr (Or.inl ⟨rfl, by omega⟩))
        | (refine ok_bd2 (tf_X6_takeRank hN hn hG hS (by first | trivial | omega)) (fun _ _ hQ => ?_); obtain ⟨hS, hQ⟩ := hQ)
        | rw [wIn (n := n - 1) (by omega) (by omega)]
        | refine ok_in (by omega) (by omega) (by omega) (by omega) (fun hc => ?_) (fun hc => ?_)
        | refine ok_ways6 hN hn hG hS (by omega) ?_
        | refine ok_n6 (by omega) (hG 26 (by omega) (by omega)) (hG 27 (by omega) (by omega)) hS ?_
        | refine ok_fac (by omega) (by omega) ?_
        | refine ok_is hS (by omega) (hG 26 (by omega) (by omega)) ?_
        | refine ok_rdFp hS (by omega) (hG 26 (by omega) (by omega)) rfl ?_
        | refine ok_rdFi hS (by omega) (hG 26 (by omega) (by omega)) rfl (fun _ _ _ => ?_)
        | refine ok_rdFz hS (by omega) (hG 26 (by omega) (by omega)) rfl (fun _ => ?_)
        | refine ok_rdFl hS (by omega) (hG 26 (by omega) (by omega)) rfl (fun _ => ?_)
        | refine ok_n0 hS (by omega) (hG 27 (by omega) (by omega)) ?_
        | refine ok_n1 hS (by omega) (hG 27 (by omega) (by omega)) (fun _ _ _ => ?_)
        | refine ok_n2 hS (by omega) (hG 27 (by omega) (by omega)) (fun _ _ _ => ?_)
        | refine ok_n24 hS (by omega) (hG 27 (by omega) (by omega)) (fun _ _ _ => ?_)
        | refine ok_n41 hS (by omega) (hG 27 (by omega) (by omega)) (fun _ _ _ => ?_)
        | refine ok_n46 hS (by omega) (hG 27 (by omega) (by omega)) (fun _ _ _ => ?_)
        | refine ok_n3 hS (by omega) (hG 27 (by omega) (by omega)) (by omega) (fun _ _ _ => ?_)
        | refine ok_n25 hS (by omega) (hG 27 (by omega) (by omega)) (by omega) (fun _ _ _ => ?_)
        | refine ok_nA hS (by omega) (hG 27 (by omega) (by omega)) (by omega) (fun _ => ?_)
        | refine ok_rdA hS (by omega) (hG _ (by omega) (by omega)) tR_id (by omega) (by omega) (by omega) (fun _ _ _ => ?_)
        | refine ok_rdW hS (by omega) (hG _ (by omega) (by omega)) (by omega) (by omega) (by omega) (fun _ => ?_)
        | refine ok_wrA hS (by omega) (hG _ (by omega) (by omega)) (by omega) (by omega) (by omega) (fun L _ hL => tR_set (by omega) L hL) (fun _ hS => ?_)
        | refine ok_wrA hS (by omega) (hG _ (by omega) (by omega)) (by omega) (by omega) (by omega) (fun _ _ _ => trivial) (fun _ hS => ?_)
        | refine ok_wrF hS (by omega) (hG 26 (by omega) (by omega)) rfl (⟨_, rfl⟩ : fZ _) (fun _ hS => ?_)
        | refine ok_wrF hS (by omega) (hG 26 (by omega) (by omega)) rfl (⟨_, rfl⟩ : fL _) (fun _ hS => ?_)
        | refine ok_wrFE hS (by omega) (hG 26 (by omega) (by omega)) rfl (by omega) (fun _ hS _ => ?_)
        | (refine ok_if (fun hc => ?_) (fun hc => ?_) <;> try simp (disch := omega) only [wIn] at hc))
    · show Ok (b_X6_goes_1 (g_X6_goes k) k S 26 i0 i1) _
      unfold b_X6_goes_1
      repeat' (first
        | (refine ok_dead ?_; omega)
        | exact ok_some ⟨hS, by first | trivial | omega⟩
        | exact ih 2 _ _ _ hS (Or.inr (Or.inr (Or.inl ⟨rfl, by omega⟩)))
        | exact ih 3 _ _ _ hS (Or.inr (Or.inr (Or.inr (⟨rfl, by omega⟩))))
        | rw [wIn (n := n - 1) (by omega) (by omega)]
        | refine ok_in (by omega) (by omega) (by omega) (by omega) (fun hc => ?_) (fun hc => ?_)
        | refine ok_ways6 hN hn hG hS (by omega) ?_
        | refine ok_n6 (by omega) (hG 26 (by omega) (by omega)) (hG 27 (by omega) (by omega)) hS ?_
        | refine ok_fac (by omega) (by omega) ?_
        | refine ok_is hS (by omega) (hG 26 (by omega) (by omega)) ?_
        | refine ok_rdFp hS (by omega) (hG 26 (by omega) (by omega)) rfl ?_
        | refine ok_rdFi hS (by omega) (hG 26 (by omega) (by omega)) rfl (fun _ _ _ => ?_)
        | refine ok_rdFz hS (by omega) (hG 26 (by omega) (by omega)) rfl (fun _ => ?_)
        | refine ok_rdFl hS (by omega) (hG 26 (by omega) (by omega)) rfl (fun _ => ?_)
        | refine ok_n0 hS (by omega) (hG 27 (by omega) (by omega)) ?_
        | refine ok_n1 hS (by omega) (hG 27 (by omega) (by omega)) (fun _ _ _ => ?_)
        | refine ok_n2 hS (by omega) (hG 27 (by omega) (by omega)) (fun _ _ _ => ?_)
        | refine ok_n24 hS (by omega) (hG 27 (by omega) (by omega)) (fun _ _ _ => ?_)
        | refine ok_n41 hS (by omega) (hG 27 (by omega) (by omega)) (fun _ _ _ => ?_)
        | refine ok_n46 hS (by omega) (hG 27 (by omega) (by omega)) (fun _ _ _ => ?_)
        | refine ok_n3 hS (by omega) (hG 27 (by omega) (by omega)) (by omega) (fun _ _ _ => ?_)
        | refine ok_n25 hS (by omega) (hG 27 (by omega) (by omega)) (by omega) (fun _ _ _ => ?_)
        | refine ok_nA hS (by omega) (hG 27 (by omega) (by omega)) (by omega) (fun _ => ?_)
        | refine ok_rdA hS (by omega) (hG _ (by omega) (by omega)) tR_id (by omega) (by omega) (by omega) (fun _ _ _ => ?_)
        | refine ok_rdW hS (by omega) (hG _ (by omega) (by omega)) (by omega) (by omega) (by omega) (fun _ => ?_)
        | refine ok_wrA hS (by omega) (hG _ (by omega) (by omega)) (by omega) (by omega) (by omega) (fun L _ hL => tR_set (by omega) L hL) (fun _ hS => ?_)
        | refine ok_wrA hS (by omega) (hG _ (by omega) (by omega)) (by omega) (by omega) (by omega) (fun _ _ _ => trivial) (fun _ hS => ?_)
        | refine ok_wrF hS (by omega) (hG 26 (by omega) (by omega)) rfl (⟨_, rfl⟩ : fZ _) (fun _ hS => ?_)
        | refine ok_wrF hS (by omega) (hG 26 (by omega) (by omega)) rfl (⟨_, rfl⟩ : fL _) (fun _ hS => ?_)
        | refine ok_wrFE hS (by omega) (hG 26 (by omega) (by omega)) rfl (by omega) (fun _ hS _ => ?_)
        | (refine ok_if (fun hc => ?_) (fun hc => ?_) <;> try simp (disch := omega) only [wIn] at hc))
    · show Ok (b_X6_goes_2 (g_X6_goes k) k S 26 i0 i1) _
      unfold b_X6_goes_2
      repeat' (first
        | (refine ok_dead ?_; omega)
        | exact ok_some ⟨hS, by first | trivial | omega⟩
        | exact ih 3 _ _ _ hS (Or.inr (Or.inr (Or.inr (⟨rfl, by omega⟩))))
        | rw [wIn (n := n - 1) (by omega) (by omega)]
        | refine ok_in (by omega) (by omega) (by omega) (by omega) (fun hc => ?_) (fun hc => ?_)
        | refine ok_ways6 hN hn hG hS (by omega) ?_
        | refine ok_n6 (by omega) (hG 26 (by omega) (by omega)) (hG 27 (by omega) (by omega)) hS ?_
        | refine ok_fac (by omega) (by omega) ?_
        | refine ok_is hS (by omega) (hG 26 (by omega) (by omega)) ?_
        | refine ok_rdFp hS (by omega) (hG 26 (by omega) (by omega)) rfl ?_
        | refine ok_rdFi hS (by omega) (hG 26 (by omega) (by omega)) rfl (fun _ _ _ => ?_)
        | refine ok_rdFz hS (by omega) (hG 26 (by omega) (by omega)) rfl (fun _ => ?_)
        | refine ok_rdFl hS (by omega) (hG 26 (by omega) (by omega)) rfl (fun _ => ?_)
        | refine ok_n0 hS (by omega) (hG 27 (by omega) (by omega)) ?_
        | refine ok_n1 hS (by omega) (hG 27 (by omega) (by omega)) (fun _ _ _ => ?_)
        | refine ok_n2 hS (by omega) (hG 27 (by omega) (by omega)) (fun _ _ _ => ?_)
        | refine ok_n24 hS (by omega) (hG 27 (by omega) (by omega)) (fun _ _ _ => ?_)
        | refine ok_n41 hS (by omega) (hG 27 (by omega) (by omega)) (fun _ _ _ => ?_)
        | refine ok_n46 hS (by omega) (hG 27 (by omega) (by omega)) (fun _ _ _ => ?_)
        | refine ok_n3 hS (by omega) (hG 27 (by omega) (by omega)) (by omega) (fun _ _ _ => ?_)
        | refine ok_n25 hS (by omega) (hG 27 (by omega) (by omega)) (by omega) (fun _ _ _ => ?_)
        | refine ok_nA hS (by omega) (hG 27 (by omega) (by omega)) (by omega) (fun _ => ?_)
        | refine ok_rdA hS (by omega) (hG _ (by omega) (by omega)) tR_id (by omega) (by omega) (by omega) (fun _ _ _ => ?_)
        | refine ok_rdW hS (by omega) (hG _ (by omega) (by omega)) (by omega) (by omega) (by omega) (fun _ => ?_)
        | refine ok_wrA hS (by omega) (hG _ (by omega) (by omega)) (by omega) (by omega) (by omega) (fun L _ hL => tR_set (by omega) L hL) (fun _ hS => ?_)
        | refine ok_wrA hS (by omega) (hG _ (by omega) (by omega)) (by omega) (by omega) (by omega) (fun _ _ _ => trivial) (fun _ hS => ?_)
        | refine ok_wrF hS (by omega) (hG 26 (by omega) (by omega)) rfl (⟨_, rfl⟩ : fZ _) (fun _ hS => ?_)
        | refine ok_wrF hS (by omega) (hG 26 (by omega) (by omega)) rfl (⟨_, rfl⟩ : fL _) (fun _ hS => ?_)
        | refine ok_wrFE hS (by omega) (hG 26 (by omega) (by omega)) rfl (by omega) (fun _ hS _ => ?_)
        | (refine ok_if (fun hc => ?_) (fun hc => ?_) <;> try simp (disch := omega) only [wIn] at hc))
    · show Ok (b_X6_goes_3 (g_X6_goes k) k S 26 i0 i1) _
      unfold b_X6_goes_3
      repeat' (first
        | (refine ok_dead ?_; omega)
        | exact ok_some ⟨hS, by first | trivial | omega⟩
        | exact ih 1 _ _ _ hS (Or.inr (Or.inl ⟨rfl, by omega⟩))
        | rw [wIn (n := n - 1) (by omega) (by omega)]
        | refine ok_in (by omega) (by omega) (by omega) (by omega) (fun hc => ?_) (fun hc => ?_)
        | refine ok_ways6 hN hn hG hS (by omega) ?_
        | refine ok_n6 (by omega) (hG 26 (by omega) (by omega)) (hG 27 (by omega) (by omega)) hS ?_
        | refine ok_fac (by omega) (by omega) ?_
        | refine ok_is hS (by omega) (hG 26 (by omega) (by omega)) ?_
        | refine ok_rdFp hS (by omega) (hG 26 (by omega) (by omega)) rfl ?_
        | refine ok_rdFi hS (by omega) (hG 26 (by omega) (by omega)) rfl (fun _ _ _ => ?_)
        | refine ok_rdFz hS (by omega) (hG 26 (by omega) (by omega)) rfl (fun _ => ?_)
        | refine ok_rdFl hS (by omega) (hG 26 (by omega) (by omega)) rfl (fun _ => ?_)
        | refine ok_n0 hS (by omega) (hG 27 (by omega) (by omega)) ?_
        | refine ok_n1 hS (by omega) (hG 27 (by omega) (by omega)) (fun _ _ _ => ?_)
        | refine ok_n2 hS (by omega) (hG 27 (by omega) (by omega)) (fun _ _ _ => ?_)
        | refine ok_n24 hS (by omega) (hG 27 (by omega) (by omega)) (fun _ _ _ => ?_)
        | refine ok_n41 hS (by omega) (hG 27 (by omega) (by omega)) (fun _ _ _ => ?_)
        | refine ok_n46 hS (by omega) (hG 27 (by omega) (by omega)) (fun _ _ _ => ?_)
        | refine ok_n3 hS (by omega) (hG 27 (by omega) (by omega)) (by omega) (fun _ _ _ => ?_)
        | refine ok_n25 hS (by omega) (hG 27 (by omega) (by omega)) (by omega) (fun _ _ _ => ?_)
        | refine ok_nA hS (by omega) (hG 27 (by omega) (by omega)) (by omega) (fun _ => ?_)
        | refine ok_rdA hS (by omega) (hG _ (by omega) (by omega)) tR_id (by omega) (by omega) (by omega) (fun _ _ _ => ?_)
        | refine ok_rdW hS (by omega) (hG _ (by omega) (by omega)) (by omega) (by omega) (by omega) (fun _ => ?_)
        | refine ok_wrA hS (by omega) (hG _ (by omega) (by omega)) (by omega) (by omega) (by omega) (fun L _ hL => tR_set (by omega) L hL) (fun _ hS => ?_)
        | refine ok_wrA hS (by omega) (hG _ (by omega) (by omega)) (by omega) (by omega) (by omega) (fun _ _ _ => trivial) (fun _ hS => ?_)
        | refine ok_wrF hS (by omega) (hG 26 (by omega) (by omega)) rfl (⟨_, rfl⟩ : fZ _) (fun _ hS => ?_)
        | refine ok_wrF hS (by omega) (hG 26 (by omega) (by omega)) rfl (⟨_, rfl⟩ : fL _) (fun _ hS => ?_)
        | refine ok_wrFE hS (by omega) (hG 26 (by omega) (by omega)) rfl (by omega) (fun _ hS _ => ?_)
        | (refine ok_if (fun hc => ?_) (fun hc => ?_) <;> try simp (disch := omega) only [wIn] at hc))
theorem tf_X6_goes {G : xT} {N : Nat} {n tl : Int} {a b : Bool}  (hN : 45 ≤ N) (hn : 2 ≤ n ∧ n ≤ 7) (hG : ∀ q, 26 ≤ q → q < 45 → G q = R6 n tl a b q) (hf : 1 ≤ fac n ∧ fac n ≤ 5040) {k : Nat} {S : xS} {i0 : Int} (hS : Hp G N S) (hp : 0 ≤ i0 ∧ i0 < fac n ∧ 260 ≤ (k : Int)) : Ok (f_X6_goes k S 26 i0) (fun r S' => Hp G N S' ∧ (r = 0 ∨ r = 1)) :=
  tg_X6_goes hN hn hG hf k 0 S i0 0 hS (Or.inl ⟨rfl, hp⟩)
theorem tg_X6_goesWith {G : xT} {N : Nat} {n tl : Int} {a b : Bool}  (hN : 45 ≤ N) (hn : 2 ≤ n ∧ n ≤ 7) (hG : ∀ q, 26 ≤ q → q < 45 → G q = R6 n tl a b q) (hf : 1 ≤ fac n ∧ fac n ≤ 5040) : ∀ (k lb : Nat) (S : xS) (i0 : Int) (i1 : Int) (i2 : Int), Hp G N S → ((lb = 0 ∧ 10400 ≤ (k : Int)) ∨ (lb = 1 ∧ 0 ≤ i1 ∧ i1 ≤ fac n ∧ 2 * (5040 - i1) + 270 ≤ (k : Int)) ∨ (lb = 2 ∧ 0 ≤ i0 ∧ i0 < fac n ∧ 2 * (5040 - i0) + 269 ≤ (k : Int))) → Ok (g_X6_goesWith k lb S 26 i0 i1 i2) (fun r S' => Hp G N S' ∧ True) := by
  intro k
  induction k with
  | zero => intro lb S i0 i1 i2 hS hp; exfalso; omega
  | succ k ih =>
    intro lb S i0 i1 i2 hS hp
    rcases hp with ⟨rfl, hp⟩ | ⟨rfl, hp⟩ | ⟨rfl, hp⟩
    · show Ok (b_X6_goesWith_0 (g_X6_goesWith k) k S 26 i0 i1 i2) _
      unfold b_X6_goesWith_0
      repeat' (first
        | (refine ok_dead ?_; omega)
        | exact ok_some ⟨hS, by first | trivial | omega⟩
        | exact ih 1 _ _ _ _ hS (Or.inr (Or.inl ⟨rfl, by omega⟩))
        | rw [wIn (n := n - 1) (by omega) (by omega)]
        | refine ok_in (by omega) (by omega) (by omega) (by omega) (fun hc => ?_) (fun hc => ?_)
        | refine ok_ways6 hN hn hG hS (by omega) ?_
        | refine ok_n6 (by omega) (hG 26 (by omega) (by omega)) (hG 27 (by omega) (by omega)) hS ?_
        | refine ok_fac (by omega) (by omega) ?_
        | refine ok_is hS (by omega) (hG 26 (by omega) (by omega)) ?_
        | refine ok_rdFp hS (by omega) (hG 26 (by omega) (by omega)) rfl ?_
        | refine ok_rdFi hS (by omega) (hG 26 (by omega) (by omega)) rfl (fun _ _ _ => ?_)
        | refine ok_rdFz hS (by omega) (hG 26 (by omega) (by omega)) rfl (fun _ => ?_)
        | refine ok_rdFl hS (by omega) (hG 26 (by omega) (by omega)) rfl (fun _ => ?_)
        | refine ok_n0 hS (by omega) (hG 27 (by omega) (by omega)) ?_
        | refine ok_n1 hS (by omega) (hG 27 (by omega) (by omega)) (fun _ _ _ => ?_)
        | refine ok_n2 hS (by omega) (hG 27 (by omega) (by omega)) (fun _ _ _ => ?_)
        | refine ok_n24 hS (by omega) (hG 27 (by omega) (by omega)) (fun _ _ _ => ?_)
        | refine ok_n41 hS (by omega) (hG 27 (by omega) (by omega)) (fun _ _ _ => ?_)
        | refine ok_n46 hS (by omega) (hG 27 (by omega) (by omega)) (fun _ _ _ => ?_)
        | refine ok_n3 hS (by omega) (hG 27 (by omega) (by omega)) (by omega) (fun _ _ _ => ?_)
        | refine ok_n25 hS (by omega) (hG 27 (by omega) (by omega)) (by omega) (fun _ _ _ => ?_)
        | refine ok_nA hS (by omega) (hG 27 (by omega) (by omega)) (by omega) (fun _ => ?_)
        | refine ok_rdA hS (by omega) (hG _ (by omega) (by omega)) tR_id (by omega) (by omega) (by omega) (fun _ _ _ => ?_)
        | refine ok_rdW hS (by omega) (hG _ (by omega) (by omega)) (by omega) (by omega) (by omega) (fun _ => ?_)
        | refine ok_wrA hS (by omega) (hG _ (by omega) (by omega)) (by omega) (by omega) (by omega) (fun L _ hL => tR_set (by omega) L hL) (fun _ hS => ?_)
        | refine ok_wrA hS (by omega) (hG _ (by omega) (by omega)) (by omega) (by omega) (by omega) (fun _ _ _ => trivial) (fun _ hS => ?_)
        | refine ok_wrF hS (by omega) (hG 26 (by omega) (by omega)) rfl (⟨_, rfl⟩ : fZ _) (fun _ hS => ?_)
        | refine ok_wrF hS (by omega) (hG 26 (by omega) (by omega)) rfl (⟨_, rfl⟩ : fL _) (fun _ hS => ?_)
        | refine ok_wrFE hS (by omega) (hG 26 (by omega) (by omega)) rfl (by omega) (fun _ hS _ => ?_)
        | (refine ok_if (fun hc => ?_) (fun hc => ?_) <;> try simp (disch := omega) only [wIn] at hc))
    · show Ok (b_X6_goesWith_1 (g_X6_goesWith k) k S 26 i0 i1 i2) _
      unfold b_X6_goesWith_1
      repeat' (first
        | (refine ok_dead ?_; omega)
        | exact ok_some ⟨hS, by first | trivial | omega⟩
        | exact ih 2 _ _ _ _ hS (Or.inr (Or.inr (⟨rfl, by omega⟩)))
        | (refine ok_bd2 (tf_X6_goes hN hn hG hf hS (by first | trivial | omega)) (fun _ _ hQ => ?_); obtain ⟨hS, hQ⟩ := hQ)
        | rw [wIn (n := n - 1) (by omega) (by omega)]
        | refine ok_in (by omega) (by omega) (by omega) (by omega) (fun hc => ?_) (fun hc => ?_)
        | refine ok_ways6 hN hn hG hS (by omega) ?_
        | refine ok_n6 (by omega) (hG 26 (by omega) (by omega)) (hG 27 (by omega) (by omega)) hS ?_
        | refine ok_fac (by omega) (by omega) ?_
        | refine ok_is hS (by omega) (hG 26 (by omega) (by omega)) ?_
        | refine ok_rdFp hS (by omega) (hG 26 (by omega) (by omega)) rfl ?_
        | refine ok_rdFi hS (by omega) (hG 26 (by omega) (by omega)) rfl (fun _ _ _ => ?_)
        | refine ok_rdFz hS (by omega) (hG 26 (by omega) (by omega)) rfl (fun _ => ?_)
        | refine ok_rdFl hS (by omega) (hG 26 (by omega) (by omega)) rfl (fun _ => ?_)
        | refine ok_n0 hS (by omega) (hG 27 (by omega) (by omega)) ?_
        | refine ok_n1 hS (by omega) (hG 27 (by omega) (by omega)) (fun _ _ _ => ?_)
        | refine ok_n2 hS (by omega) (hG 27 (by omega) (by omega)) (fun _ _ _ => ?_)
        | refine ok_n24 hS (by omega) (hG 27 (by omega) (by omega)) (fun _ _ _ => ?_)
        | refine ok_n41 hS (by omega) (hG 27 (by omega) (by omega)) (fun _ _ _ => ?_)
        | refine ok_n46 hS (by omega) (hG 27 (by omega) (by omega)) (fun _ _ _ => ?_)
        | refine ok_n3 hS (by omega) (hG 27 (by omega) (by omega)) (by omega) (fun _ _ _ => ?_)
        | refine ok_n25 hS (by omega) (hG 27 (by omega) (by omega)) (by omega) (fun _ _ _ => ?_)
        | refine ok_nA hS (by omega) (hG 27 (by omega) (by omega)) (by omega) (fun _ => ?_)
        | refine ok_rdA hS (by omega) (hG _ (by omega) (by omega)) tR_id (by omega) (by omega) (by omega) (fun _ _ _ => ?_)
        | refine ok_rdW hS (by omega) (hG _ (by omega) (by omega)) (by omega) (by omega) (by omega) (fun _ => ?_)
        | refine ok_wrA hS (by omega) (hG _ (by omega) (by omega)) (by omega) (by omega) (by omega) (fun L _ hL => tR_set (by omega) L hL) (fun _ hS => ?_)
        | refine ok_wrA hS (by omega) (hG _ (by omega) (by omega)) (by omega) (by omega) (by omega) (fun _ _ _ => trivial) (fun _ hS => ?_)
        | refine ok_wrF hS (by omega) (hG 26 (by omega) (by omega)) rfl (⟨_, rfl⟩ : fZ _) (fun _ hS => ?_)
        | refine ok_wrF hS (by omega) (hG 26 (by omega) (by omega)) rfl (⟨_, rfl⟩ : fL _) (fun _ hS => ?_)
        | refine ok_wrFE hS (by omega) (hG 26 (by omega) (by omega)) rfl (by omega) (fun _ hS _ => ?_)
        | (refine ok_if (fun hc => ?_) (fun hc => ?_) <;> try simp (disch := omega) only [wIn] at hc))
    · show Ok (b_X6_goesWith_2 (g_X6_goesWith k) k S 26 i0 i1 i2) _
      unfold b_X6_goesWith_2
      repeat' (first
        | (refine ok_dead ?_; omega)
        | exact ok_some ⟨hS, by first | trivial | omega⟩
        | exact ih 1 _ _ _ _ hS (Or.inr (Or.inl ⟨rfl, by omega⟩))
        | rw [wIn (n := n - 1) (by omega) (by omega)]
        | refine ok_in (by omega) (by omega) (by omega) (by omega) (fun hc => ?_) (fun hc => ?_)
        | refine ok_ways6 hN hn hG hS (by omega) ?_
        | refine ok_n6 (by omega) (hG 26 (by omega) (by omega)) (hG 27 (by omega) (by omega)) hS ?_
        | refine ok_fac (by omega) (by omega) ?_
        | refine ok_is hS (by omega) (hG 26 (by omega) (by omega)) ?_
        | refine ok_rdFp hS (by omega) (hG 26 (by omega) (by omega)) rfl ?_
        | refine ok_rdFi hS (by omega) (hG 26 (by omega) (by omega)) rfl (fun _ _ _ => ?_)
        | refine ok_rdFz hS (by omega) (hG 26 (by omega) (by omega)) rfl (fun _ => ?_)
        | refine ok_rdFl hS (by omega) (hG 26 (by omega) (by omega)) rfl (fun _ => ?_)
        | refine ok_n0 hS (by omega) (hG 27 (by omega) (by omega)) ?_
        | refine ok_n1 hS (by omega) (hG 27 (by omega) (by omega)) (fun _ _ _ => ?_)
        | refine ok_n2 hS (by omega) (hG 27 (by omega) (by omega)) (fun _ _ _ => ?_)
        | refine ok_n24 hS (by omega) (hG 27 (by omega) (by omega)) (fun _ _ _ => ?_)
        | refine ok_n41 hS (by omega) (hG 27 (by omega) (by omega)) (fun _ _ _ => ?_)
        | refine ok_n46 hS (by omega) (hG 27 (by omega) (by omega)) (fun _ _ _ => ?_)
        | refine ok_n3 hS (by omega) (hG 27 (by omega) (by omega)) (by omega) (fun _ _ _ => ?_)
        | refine ok_n25 hS (by omega) (hG 27 (by omega) (by omega)) (by omega) (fun _ _ _ => ?_)
        | refine ok_nA hS (by omega) (hG 27 (by omega) (by omega)) (by omega) (fun _ => ?_)
        | refine ok_rdA hS (by omega) (hG _ (by omega) (by omega)) tR_id (by omega) (by omega) (by omega) (fun _ _ _ => ?_)
        | refine ok_rdW hS (by omega) (hG _ (by omega) (by omega)) (by omega) (by omega) (by omega) (fun _ => ?_)
        | refine ok_wrA hS (by omega) (hG _ (by omega) (by omega)) (by omega) (by omega) (by omega) (fun L _ hL => tR_set (by omega) L hL) (fun _ hS => ?_)
        | refine ok_wrA hS (by omega) (hG _ (by omega) (by omega)) (by omega) (by omega) (by omega) (fun _ _ _ => trivial) (fun _ hS => ?_)
        | refine ok_wrF hS (by omega) (hG 26 (by omega) (by omega)) rfl (⟨_, rfl⟩ : fZ _) (fun _ hS => ?_)
        | refine ok_wrF hS (by omega) (hG 26 (by omega) (by omega)) rfl (⟨_, rfl⟩ : fL _) (fun _ hS => ?_)
        | refine ok_wrFE hS (by omega) (hG 26 (by omega) (by omega)) rfl (by omega) (fun _ hS _ => ?_)
        | (refine ok_if (fun hc => ?_) (fun hc => ?_) <;> try simp (disch := omega) only [wIn] at hc))
theorem tf_X6_goesWith {G : xT} {N : Nat} {n tl : Int} {a b : Bool}  (hN : 45 ≤ N) (hn : 2 ≤ n ∧ n ≤ 7) (hG : ∀ q, 26 ≤ q → q < 45 → G q = R6 n tl a b q) (hf : 1 ≤ fac n ∧ fac n ≤ 5040) {k : Nat} {S : xS} (hS : Hp G N S) (hp : 10400 ≤ (k : Int)) : Ok (f_X6_goesWith k S 26) (fun r S' => Hp G N S' ∧ True) :=
  tg_X6_goesWith hN hn hG hf k 0 S 0 0 0 hS (Or.inl ⟨rfl, hp⟩)
theorem tg_X6_mayBe {G : xT} {N : Nat} {n tl : Int} {a b : Bool}  (hN : 45 ≤ N) (hn : 2 ≤ n ∧ n ≤ 7) (hG : ∀ q, 26 ≤ q → q < 45 → G q = R6 n tl a b q) (hf : 1 ≤ fac n ∧ fac n ≤ 5040) : ∀ (k lb : Nat) (S : xS) (i0 : Int) (i1 : Int) (i2 : Int) (i3 : Int), Hp G N S → ((lb = 0 ∧ -2147483648 ≤ i0 ∧ i0 < 2147483648 ∧ 16000 ≤ (k : Int)) ∨ (lb = 1 ∧ 0 ≤ i3 ∧ i3 ≤ fac n ∧ 3 * (5040 - i3) + 270 ≤ (k : Int)) ∨ (lb = 2 ∧ 0 ≤ i2 ∧ i2 < fac n ∧ 3 * (5040 - i2) + 269 ≤ (k : Int)) ∨ (lb = 3 ∧ 0 ≤ i3 ∧ i3 < fac n ∧ 3 * (5040 - i3) + 268 ≤ (k : Int))) → Ok (g_X6_mayBe k lb S 26 i0 i1 i2 i3) (fun r S' => Hp G N S' ∧ True) := by
  intro k
  induction k with
  | zero => intro lb S i0 i1 i2 i3 hS hp; exfalso; omega
  | succ k ih =>
    intro lb S i0 i1 i2 i3 hS hp
    rcases hp with ⟨rfl, hp⟩ | ⟨rfl, hp⟩ | ⟨rfl, hp⟩ | ⟨rfl, hp⟩
    · show Ok (b_X6_mayBe_0 (g_X6_mayBe k) k S 26 i0 i1 i2 i3) _
      unfold b_X6_mayBe_0
      repeat' (first
        | (refine ok_dead ?_; omega)
        | exact ok_some ⟨hS, by first | trivial | omega⟩
        | exact ih 1 _ _ _ _ _ hS (Or.inr (Or.inl ⟨rfl, by omega⟩))
        | (refine ok_bd2 (tf_X6_bad hN hn hG hS (by first | trivial | omega)) (fun _ _ hQ => ?_); obtain ⟨hS, hQ⟩ := hQ)
        | rw [wIn (n := n - 1) (by omega) (by omega)]
        | refine ok_in (by omega) (by omega) (by omega) (by omega) (fun hc => ?_) (fun hc => ?_)
        | refine ok_ways6 hN hn hG hS (by omega) ?_
        | refine ok_n6 (by omega) (hG 26 (by omega) (by omega)) (hG 27 (by omega) (by omega)) hS ?_
        | refine ok_fac (by omega) (by omega) ?_
        | refine ok_is hS (by omega) (hG 26 (by omega) (by omega)) ?_
        | refine ok_rdFp hS (by omega) (hG 26 (by omega) (by omega)) rfl ?_
        | refine ok_rdFi hS (by omega) (hG 26 (by omega) (by omega)) rfl (fun _ _ _ => ?_)
        | refine ok_rdFz hS (by omega) (hG 26 (by omega) (by omega)) rfl (fun _ => ?_)
        | refine ok_rdFl hS (by omega) (hG 26 (by omega) (by omega)) rfl (fun _ => ?_)
        | refine ok_n0 hS (by omega) (hG 27 (by omega) (by omega)) ?_
        | refine ok_n1 hS (by omega) (hG 27 (by omega) (by omega)) (fun _ _ _ => ?_)
        | refine ok_n2 hS (by omega) (hG 27 (by omega) (by omega)) (fun _ _ _ => ?_)
        | refine ok_n24 hS (by omega) (hG 27 (by omega) (by omega)) (fun _ _ _ => ?_)
        | refine ok_n41 hS (by omega) (hG 27 (by omega) (by omega)) (fun _ _ _ => ?_)
        | refine ok_n46 hS (by omega) (hG 27 (by omega) (by omega)) (fun _ _ _ => ?_)
        | refine ok_n3 hS (by omega) (hG 27 (by omega) (by omega)) (by omega) (fun _ _ _ => ?_)
        | refine ok_n25 hS (by omega) (hG 27 (by omega) (by omega)) (by omega) (fun _ _ _ => ?_)
        | refine ok_nA hS (by omega) (hG 27 (by omega) (by omega)) (by omega) (fun _ => ?_)
        | refine ok_rdA hS (by omega) (hG _ (by omega) (by omega)) tR_id (by omega) (by omega) (by omega) (fun _ _ _ => ?_)
        | refine ok_rdW hS (by omega) (hG _ (by omega) (by omega)) (by omega) (by omega) (by omega) (fun _ => ?_)
        | refine ok_wrA hS (by omega) (hG _ (by omega) (by omega)) (by omega) (by omega) (by omega) (fun L _ hL => tR_set (by omega) L hL) (fun _ hS => ?_)
        | refine ok_wrA hS (by omega) (hG _ (by omega) (by omega)) (by omega) (by omega) (by omega) (fun _ _ _ => trivial) (fun _ hS => ?_)
        | refine ok_wrF hS (by omega) (hG 26 (by omega) (by omega)) rfl (⟨_, rfl⟩ : fZ _) (fun _ hS => ?_)
        | refine ok_wrF hS (by omega) (hG 26 (by omega) (by omega)) rfl (⟨_, rfl⟩ : fL _) (fun _ hS => ?_)
        | refine ok_wrFE hS (by omega) (hG 26 (by omega) (by omega)) rfl (by omega) (fun _ hS _ => ?_)
        | (refine ok_if (fun hc => ?_) (fun hc => ?_) <;> try simp (disch := omega) only [wIn] at hc))
    · show Ok (b_X6_mayBe_1 (g_X6_mayBe k) k S 26 i0 i1 i2 i3) _
      unfold b_X6_mayBe_1
      repeat' (first
        | (refine ok_dead ?_; omega)
        | exact ok_some ⟨hS, by first | trivial | omega⟩
        | exact ih 2 _ _ _ _ _ hS (Or.inr (Or.inr (Or.inl ⟨rfl, by omega⟩)))
        | exact ih 3 _ _ _ _ _ hS (Or.inr (Or.inr (Or.inr (⟨rfl, by omega⟩))))
        | (refine ok_bd2 (tf_X6_takeRank hN hn hG hS (by first | trivial | omega)) (fun _ _ hQ => ?_); obtain ⟨hS, hQ⟩ := hQ)
        | (refine ok_bd2 (tf_X6_isSo hN hn hG hf hS (by first | trivial | omega)) (fun _ _ hQ => ?_); obtain ⟨hS, hQ⟩ := hQ)
        | rw [wIn (n := n - 1) (by omega) (by omega)]
        | refine ok_in (by omega) (by omega) (by omega) (by omega) (fun hc => ?_) (fun hc => ?_)
        | refine ok_ways6 hN hn hG hS (by omega) ?_
        | refine ok_n6 (by omega) (hG 26 (by omega) (by omega)) (hG 27 (by omega) (by omega)) hS ?_
        | refine ok_fac (by omega) (by omega) ?_
        | refine ok_is hS (by omega) (hG 26 (by omega) (by omega)) ?_
        | refine ok_rdFp hS (by omega) (hG 26 (by omega) (by omega)) rfl ?_
        | refine ok_rdFi hS (by omega) (hG 26 (by omega) (by omega)) rfl (fun _ _ _ => ?_)
        | refine ok_rdFz hS (by omega) (hG 26 (by omega) (by omega)) rfl (fun _ => ?_)
        | refine ok_rdFl hS (by omega) (hG 26 (by omega) (by omega)) rfl (fun _ => ?_)
        | refine ok_n0 hS (by omega) (hG 27 (by omega) (by omega)) ?_
        | refine ok_n1 hS (by omega) (hG 27 (by omega) (by omega)) (fun _ _ _ => ?_)
        | refine ok_n2 hS (by omega) (hG 27 (by omega) (by omega)) (fun _ _ _ => ?_)
        | refine ok_n24 hS (by omega) (hG 27 (by omega) (by omega)) (fun _ _ _ => ?_)
        | refine ok_n41 hS (by omega) (hG 27 (by omega) (by omega)) (fun _ _ _ => ?_)
        | refine ok_n46 hS (by omega) (hG 27 (by omega) (by omega)) (fun _ _ _ => ?_)
        | refine ok_n3 hS (by omega) (hG 27 (by omega) (by omega)) (by omega) (fun _ _ _ => ?_)
        | refine ok_n25 hS (by omega) (hG 27 (by omega) (by omega)) (by omega) (fun _ _ _ => ?_)
        | refine ok_nA hS (by omega) (hG 27 (by omega) (by omega)) (by omega) (fun _ => ?_)
        | refine ok_rdA hS (by omega) (hG _ (by omega) (by omega)) tR_id (by omega) (by omega) (by omega) (fun _ _ _ => ?_)
        | refine ok_rdW hS (by omega) (hG _ (by omega) (by omega)) (by omega) (by omega) (by omega) (fun _ => ?_)
        | refine ok_wrA hS (by omega) (hG _ (by omega) (by omega)) (by omega) (by omega) (by omega) (fun L _ hL => tR_set (by omega) L hL) (fun _ hS => ?_)
        | refine ok_wrA hS (by omega) (hG _ (by omega) (by omega)) (by omega) (by omega) (by omega) (fun _ _ _ => trivial) (fun _ hS => ?_)
        | refine ok_wrF hS (by omega) (hG 26 (by omega) (by omega)) rfl (⟨_, rfl⟩ : fZ _) (fun _ hS => ?_)
        | refine ok_wrF hS (by omega) (hG 26 (by omega) (by omega)) rfl (⟨_, rfl⟩ : fL _) (fun _ hS => ?_)
        | refine ok_wrFE hS (by omega) (hG 26 (by omega) (by omega)) rfl (by omega) (fun _ hS _ => ?_)
        | (refine ok_if (fun hc => ?_) (fun hc => ?_) <;> try simp (disch := omega) only [wIn] at hc))
    · show Ok (b_X6_mayBe_2 (g_X6_mayBe k) k S 26 i0 i1 i2 i3) _
      unfold b_X6_mayBe_2
      repeat' (first
        | (refine ok_dead ?_; omega)
        | exact ok_some ⟨hS, by first | trivial | omega⟩
        | exact ih 3 _ _ _ _ _ hS (Or.inr (Or.inr (Or.inr (⟨rfl, by omega⟩))))
        | rw [wIn (n := n - 1) (by omega) (by omega)]
        | refine ok_in (by omega) (by omega) (by omega) (by omega) (fun hc => ?_) (fun hc => ?_)
        | refine ok_ways6 hN hn hG hS (by omega) ?_
        | refine ok_n6 (by omega) (hG 26 (by omega) (by omega)) (hG 27 (by omega) (by omega)) hS ?_
        | refine ok_fac (by omega) (by omega) ?_
        | refine ok_is hS (by omega) (hG 26 (by omega) (by omega)) ?_
        | refine ok_rdFp hS (by omega) (hG 26 (by omega) (by omega)) rfl ?_
        | refine ok_rdFi hS (by omega) (hG 26 (by omega) (by omega)) rfl (fun _ _ _ => ?_)
        | refine ok_rdFz hS (by omega) (hG 26 (by omega) (by omega)) rfl (fun _ => ?_)
        | refine ok_rdFl hS (by omega) (hG 26 (by omega) (by omega)) rfl (fun _ => ?_)
        | refine ok_n0 hS (by omega) (hG 27 (by omega) (by omega)) ?_
        | refine ok_n1 hS (by omega) (hG 27 (by omega) (by omega)) (fun _ _ _ => ?_)
        | refine ok_n2 hS (by omega) (hG 27 (by omega) (by omega)) (fun _ _ _ => ?_)
        | refine ok_n24 hS (by omega) (hG 27 (by omega) (by omega)) (fun _ _ _ => ?_)
        | refine ok_n41 hS (by omega) (hG 27 (by omega) (by omega)) (fun _ _ _ => ?_)
        | refine ok_n46 hS (by omega) (hG 27 (by omega) (by omega)) (fun _ _ _ => ?_)
        | refine ok_n3 hS (by omega) (hG 27 (by omega) (by omega)) (by omega) (fun _ _ _ => ?_)
        | refine ok_n25 hS (by omega) (hG 27 (by omega) (by omega)) (by omega) (fun _ _ _ => ?_)
        | refine ok_nA hS (by omega) (hG 27 (by omega) (by omega)) (by omega) (fun _ => ?_)
        | refine ok_rdA hS (by omega) (hG _ (by omega) (by omega)) tR_id (by omega) (by omega) (by omega) (fun _ _ _ => ?_)
        | refine ok_rdW hS (by omega) (hG _ (by omega) (by omega)) (by omega) (by omega) (by omega) (fun _ => ?_)
        | refine ok_wrA hS (by omega) (hG _ (by omega) (by omega)) (by omega) (by omega) (by omega) (fun L _ hL => tR_set (by omega) L hL) (fun _ hS => ?_)
        | refine ok_wrA hS (by omega) (hG _ (by omega) (by omega)) (by omega) (by omega) (by omega) (fun _ _ _ => trivial) (fun _ hS => ?_)
        | refine ok_wrF hS (by omega) (hG 26 (by omega) (by omega)) rfl (⟨_, rfl⟩ : fZ _) (fun _ hS => ?_)
        | refine ok_wrF hS (by omega) (hG 26 (by omega) (by omega)) rfl (⟨_, rfl⟩ : fL _) (fun _ hS => ?_)
        | refine ok_wrFE hS (by omega) (hG 26 (by omega) (by omega)) rfl (by omega) (fun _ hS _ => ?_)
        | (refine ok_if (fun hc => ?_) (fun hc => ?_) <;> try simp (disch := omega) only [wIn] at hc))
    · show Ok (b_X6_mayBe_3 (g_X6_mayBe k) k S 26 i0 i1 i2 i3) _
      unfold b_X6_mayBe_3
      repeat' (first
        | (refine ok_dead ?_; omega)
        | exact ok_some ⟨hS, by first | trivial | omega⟩
        | exact ih 1 _ _ _ _ _ hS (Or.inr (Or.inl ⟨rfl, by omega⟩))
        | rw [wIn (n := n - 1) (by omega) (by omega)]
        | refine ok_in (by omega) (by omega) (by omega) (by omega) (fun hc => ?_) (fun hc => ?_)
        | refine ok_ways6 hN hn hG hS (by omega) ?_
        | refine ok_n6 (by omega) (hG 26 (by omega) (by omega)) (hG 27 (by omega) (by omega)) hS ?_
        | refine ok_fac (by omega) (by omega) ?_
        | refine ok_is hS (by omega) (hG 26 (by omega) (by omega)) ?_
        | refine ok_rdFp hS (by omega) (hG 26 (by omega) (by omega)) rfl ?_
        | refine ok_rdFi hS (by omega) (hG 26 (by omega) (by omega)) rfl (fun _ _ _ => ?_)
        | refine ok_rdFz hS (by omega) (hG 26 (by omega) (by omega)) rfl (fun _ => ?_)
        | refine ok_rdFl hS (by omega) (hG 26 (by omega) (by omega)) rfl (fun _ => ?_)
        | refine ok_n0 hS (by omega) (hG 27 (by omega) (by omega)) ?_
        | refine ok_n1 hS (by omega) (hG 27 (by omega) (by omega)) (fun _ _ _ => ?_)
        | refine ok_n2 hS (by omega) (hG 27 (by omega) (by omega)) (fun _ _ _ => ?_)
        | refine ok_n24 hS (by omega) (hG 27 (by omega) (by omega)) (fun _ _ _ => ?_)
        | refine ok_n41 hS (by omega) (hG 27 (by omega) (by omega)) (fun _ _ _ => ?_)
        | refine ok_n46 hS (by omega) (hG 27 (by omega) (by omega)) (fun _ _ _ => ?_)
        | refine ok_n3 hS (by omega) (hG 27 (by omega) (by omega)) (by omega) (fun _ _ _ => ?_)
        | refine ok_n25 hS (by omega) (hG 27 (by omega) (by omega)) (by omega) (fun _ _ _ => ?_)
        | refine ok_nA hS (by omega) (hG 27 (by omega) (by omega)) (by omega) (fun _ => ?_)
        | refine ok_rdA hS (by omega) (hG _ (by omega) (by omega)) tR_id (by omega) (by omega) (by omega) (fun _ _ _ => ?_)
        | refine ok_rdW hS (by omega) (hG _ (by omega) (by omega)) (by omega) (by omega) (by omega) (fun _ => ?_)
        | refine ok_wrA hS (by omega) (hG _ (by omega) (by omega)) (by omega) (by omega) (by omega) (fun L _ hL => tR_set (by omega) L hL) (fun _ hS => ?_)
        | refine ok_wrA hS (by omega) (hG _ (by omega) (by omega)) (by omega) (by omega) (by omega) (fun _ _ _ => trivial) (fun _ hS => ?_)
        | refine ok_wrF hS (by omega) (hG 26 (by omega) (by omega)) rfl (⟨_, rfl⟩ : fZ _) (fun _ hS => ?_)
        | refine ok_wrF hS (by omega) (hG 26 (by omega) (by omega)) rfl (⟨_, rfl⟩ : fL _) (fun _ hS => ?_)
        | refine ok_wrFE hS (by omega) (hG 26 (by omega) (by omega)) rfl (by omega) (fun _ hS _ => ?_)
        | (refine ok_if (fun hc => ?_) (fun hc => ?_) <;> try simp (disch := omega) only [wIn] at hc))
theorem tf_X6_mayBe {G : xT} {N : Nat} {n tl : Int} {a b : Bool}  (hN : 45 ≤ N) (hn : 2 ≤ n ∧ n ≤ 7) (hG : ∀ q, 26 ≤ q → q < 45 → G q = R6 n tl a b q) (hf : 1 ≤ fac n ∧ fac n ≤ 5040) {k : Nat} {S : xS} {i0 : Int} (hS : Hp G N S) (hp : -2147483648 ≤ i0 ∧ i0 < 2147483648 ∧ 16000 ≤ (k : Int)) : Ok (f_X6_mayBe k S 26 i0) (fun r S' => Hp G N S' ∧ True) :=
  tg_X6_mayBe hN hn hG hf k 0 S i0 0 0 0 hS (Or.inl ⟨rfl, hp⟩)
