variable {n nd tl : Int} {rp : Option Nat} {im : List (Option Nat)} {E : xT} {N : Nat}
theorem tg_X1_knownCount   (hN : 26 ≤ N) (hn : 2 ≤ n ∧ n ≤ 7) : ∀ (k lb : Nat) (S : xS) (i0 : Int) (i1 : Int) (i2 : Int), Hp (T5 n nd tl rp im E) N S → ((lb = 0 ∧ 2 * n + 3 ≤ (k : Int)) ∨ (lb = 1 ∧ 0 ≤ i1 ∧ i1 ≤ n ∧ 2 * (n - i1) + 1 ≤ (k : Int)) ∨ (lb = 2 ∧ 0 ≤ i0 ∧ i0 < n ∧ 2 * (n - i0) ≤ (k : Int))) → Ok (g_X1_knownCount k lb S 1 i0 i1 i2) (fun r S' => S' = S ∧ True) := by
  intro k
  induction k with
  | zero => intro lb S i0 i1 i2 hS hp; exfalso; omega
  | succ k ih =>
    intro lb S i0 i1 i2 hS hp
    rcases hp with ⟨rfl, hp⟩ | ⟨rfl, hp⟩ | ⟨rfl, hp⟩
    · show Ok (b_X1_knownCount_0 (g_X1_knownCount k) k S 1 i0 i1 i2) _
      unfold b_X1_knownCount_0
      repeat' (first
        | (refine ok_dead ?_; omega)
        | exact ok_some ⟨rfl, by first | trivial | omega⟩
        | exact ih 1 _ _ _ _ hS (Or.inr (Or.inl ⟨rfl, by omega⟩))
        | refine ok_bindE (by assumption) (fun _ => ?_)
        | refine ok_bindE (hF _ _ _ _ (by assumption)) (fun _ => ?_)
        | refine ok_is hS (by omega) rfl ?_
        | refine ok_rdFp hS (by omega) rfl rfl ?_
        | refine ok_rdFiE hS (by omega) rfl rfl (fun _ _ _ _ => ?_)
        | refine ok_rdFz hS (by omega) rfl rfl (fun _ => ?_)
        | refine ok_rdFl hS (by omega) rfl rfl (fun _ => ?_)
        | refine ok_rdA hS (by omega) rfl tR_id (by omega) (by omega) (by omega) (fun _ _ _ => ?_)
        | refine ok_rdA hS (by omega) rfl sl_R (by omega) (by omega) (by omega) (fun _ _ _ => ?_)
        | refine ok_rdW hS (by omega) rfl (by omega) (by omega) (by omega) (fun _ => ?_)
        | refine ok_wrAE hS (by omega) rfl (by omega) (by omega) (by omega) (fun L _ hL => tR_set (by omega) L hL) (fun _ hS hF => ?_)
        | refine ok_wrAE hS (by omega) rfl (by omega) (by omega) (by omega) (fun _ _ _ => trivial) (fun _ hS hF => ?_)
        | refine ok_wrF hS (by omega) rfl rfl (⟨_, rfl⟩ : fZ _) (fun _ hS => ?_)
        | refine ok_wrF hS (by omega) rfl rfl (⟨_, rfl⟩ : fL _) (fun _ hS => ?_)
        | refine ok_wrFE hS (by omega) rfl rfl (by omega) (fun _ hS _ => ?_)
        | (refine ok_if (fun hc => ?_) (fun hc => ?_) <;> try simp (disch := omega) only [wIn] at hc))
    · show Ok (b_X1_knownCount_1 (g_X1_knownCount k) k S 1 i0 i1 i2) _
      unfold b_X1_knownCount_1
      repeat' (first
        | (refine ok_dead ?_; omega)
        | exact ok_some ⟨rfl, by first | trivial | omega⟩
        | exact ih 2 _ _ _ _ hS (Or.inr (Or.inr (⟨rfl, by omega⟩)))
        | refine ok_bindE (by assumption) (fun _ => ?_)
        | refine ok_bindE (hF _ _ _ _ (by assumption)) (fun _ => ?_)
        | refine ok_is hS (by omega) rfl ?_
        | refine ok_rdFp hS (by omega) rfl rfl ?_
        | refine ok_rdFiE hS (by omega) rfl rfl (fun _ _ _ _ => ?_)
        | refine ok_rdFz hS (by omega) rfl rfl (fun _ => ?_)
        | refine ok_rdFl hS (by omega) rfl rfl (fun _ => ?_)
        | refine ok_rdA hS (by omega) rfl tR_id (by omega) (by omega) (by omega) (fun _ _ _ => ?_)
        | refine ok_rdA hS (by omega) rfl sl_R (by omega) (by omega) (by omega) (fun _ _ _ => ?_)
        | refine ok_rdW hS (by omega) rfl (by omega) (by omega) (by omega) (fun _ => ?_)
        | refine ok_wrAE hS (by omega) rfl (by omega) (by omega) (by omega) (fun L _ hL => tR_set (by omega) L hL) (fun _ hS hF => ?_)
        | refine ok_wrAE hS (by omega) rfl (by omega) (by omega) (by omega) (fun _ _ _ => trivial) (fun _ hS hF => ?_)
        | refine ok_wrF hS (by omega) rfl rfl (⟨_, rfl⟩ : fZ _) (fun _ hS => ?_)
        | refine ok_wrF hS (by omega) rfl rfl (⟨_, rfl⟩ : fL _) (fun _ hS => ?_)
        | refine ok_wrFE hS (by omega) rfl rfl (by omega) (fun _ hS _ => ?_)
        | (refine ok_if (fun hc => ?_) (fun hc => ?_) <;> try simp (disch := omega) only [wIn] at hc))
    · show Ok (b_X1_knownCount_2 (g_X1_knownCount k) k S 1 i0 i1 i2) _
      unfold b_X1_knownCount_2
      repeat' (first
        | (refine ok_dead ?_; omega)
        | exact ok_some ⟨rfl, by first | trivial | omega⟩
        | exact ih 1 _ _ _ _ hS (Or.inr (Or.inl ⟨rfl, by omega⟩))
        | refine ok_bindE (by assumption) (fun _ => ?_)
        | refine ok_bindE (hF _ _ _ _ (by assumption)) (fun _ => ?_)
        | refine ok_is hS (by omega) rfl ?_
        | refine ok_rdFp hS (by omega) rfl rfl ?_
        | refine ok_rdFiE hS (by omega) rfl rfl (fun _ _ _ _ => ?_)
        | refine ok_rdFz hS (by omega) rfl rfl (fun _ => ?_)
        | refine ok_rdFl hS (by omega) rfl rfl (fun _ => ?_)
        | refine ok_rdA hS (by omega) rfl tR_id (by omega) (by omega) (by omega) (fun _ _ _ => ?_)
        | refine ok_rdA hS (by omega) rfl sl_R (by omega) (by omega) (by omega) (fun _ _ _ => ?_)
        | refine ok_rdW hS (by omega) rfl (by omega) (by omega) (by omega) (fun _ => ?_)
        | refine ok_wrAE hS (by omega) rfl (by omega) (by omega) (by omega) (fun L _ hL => tR_set (by omega) L hL) (fun _ hS hF => ?_)
        | refine ok_wrAE hS (by omega) rfl (by omega) (by omega) (by omega) (fun _ _ _ => trivial) (fun _ hS hF => ?_)
        | refine ok_wrF hS (by omega) rfl rfl (⟨_, rfl⟩ : fZ _) (fun _ hS => ?_)
        | refine ok_wrF hS (by omega) rfl rfl (⟨_, rfl⟩ : fL _) (fun _ hS => ?_)
        | refine ok_wrFE hS (by omega) rfl rfl (by omega) (fun _ hS _ => ?_)
        | (refine ok_if (fun hc => ?_) (fun hc => ?_) <;> try simp (disch := omega) only [wIn] at hc))
theorem tf_X1_knownCount   (hN : 26 ≤ N) (hn : 2 ≤ n ∧ n ≤ 7) {k : Nat} {S : xS} (hS : Hp (T5 n nd tl rp im E) N S) (hp : 2 * n + 3 ≤ (k : Int)) : Ok (f_X1_knownCount k S 1) (fun r S' => S' = S ∧ True) :=
  tg_X1_knownCount hN hn k 0 S 0 0 0 hS (Or.inl ⟨rfl, hp⟩)
theorem tg_X1_isKnownSlip   (hN : 26 ≤ N) (hn : 2 ≤ n ∧ n ≤ 7) : ∀ (k lb : Nat) (S : xS) (i0 : Int) (i1 : Int), Hp (T5 n nd tl rp im E) N S → ((lb = 0 ∧ n + 3 ≤ (k : Int)) ∨ (lb = 1 ∧ 0 ≤ i1 ∧ i1 ≤ n ∧ n - i1 + 1 ≤ (k : Int))) → Ok (g_X1_isKnownSlip k lb S 1 i0 i1) (fun r S' => S' = S ∧ (r = 0 ∨ r = 1)) := by
  intro k
  induction k with
  | zero => intro lb S i0 i1 hS hp; exfalso; omega
  | succ k ih =>
    intro lb S i0 i1 hS hp
    rcases hp with ⟨rfl, hp⟩ | ⟨rfl, hp⟩
    · show Ok (b_X1_isKnownSlip_0 (g_X1_isKnownSlip k) k S 1 i0 i1) _
      unfold b_X1_isKnownSlip_0
      repeat' (first
        | (refine ok_dead ?_; omega)
        | exact ok_some ⟨rfl, by first | trivial | omega⟩
        | exact ih 1 _ _ _ hS (Or.inr (⟨rfl, by omega⟩))
        | refine ok_bindE (by assumption) (fun _ => ?_)
        | refine ok_bindE (hF _ _ _ _ (by assumption)) (fun _ => ?_)
        | refine ok_is hS (by omega) rfl ?_
        | refine ok_rdFp hS (by omega) rfl rfl ?_
        | refine ok_rdFiE hS (by omega) rfl rfl (fun _ _ _ _ => ?_)
        | refine ok_rdFz hS (by omega) rfl rfl (fun _ => ?_)
        | refine ok_rdFl hS (by omega) rfl rfl (fun _ => ?_)
        | refine ok_rdA hS (by omega) rfl tR_id (by omega) (by omega) (by omega) (fun _ _ _ => ?_)
        | refine ok_rdA hS (by omega) rfl sl_R (by omega) (by omega) (by omega) (fun _ _ _ => ?_)
        | refine ok_rdW hS (by omega) rfl (by omega) (by omega) (by omega) (fun _ => ?_)
        | refine ok_wrAE hS (by omega) rfl (by omega) (by omega) (by omega) (fun L _ hL => tR_set (by omega) L hL) (fun _ hS hF => ?_)
        | refine ok_wrAE hS (by omega) rfl (by omega) (by omega) (by omega) (fun _ _ _ => trivial) (fun _ hS hF => ?_)
        | refine ok_wrF hS (by omega) rfl rfl (⟨_, rfl⟩ : fZ _) (fun _ hS => ?_)
        | refine ok_wrF hS (by omega) rfl rfl (⟨_, rfl⟩ : fL _) (fun _ hS => ?_)
        | refine ok_wrFE hS (by omega) rfl rfl (by omega) (fun _ hS _ => ?_)
        | (refine ok_if (fun hc => ?_) (fun hc => ?_) <;> try simp (disch := omega) only [wIn] at hc))
    · show Ok (b_X1_isKnownSlip_1 (g_X1_isKnownSlip k) k S 1 i0 i1) _
      unfold b_X1_isKnownSlip_1
      repeat' (first
        | (refine ok_dead ?_; omega)
        | exact ok_some ⟨rfl, by first | trivial | omega⟩
        | exact ih 1 _ _ _ hS (Or.inr (⟨rfl, by omega⟩))
        | refine ok_bindE (by assumption) (fun _ => ?_)
        | refine ok_bindE (hF _ _ _ _ (by assumption)) (fun _ => ?_)
        | refine ok_is hS (by omega) rfl ?_
        | refine ok_rdFp hS (by omega) rfl rfl ?_
        | refine ok_rdFiE hS (by omega) rfl rfl (fun _ _ _ _ => ?_)
        | refine ok_rdFz hS (by omega) rfl rfl (fun _ => ?_)
        | refine ok_rdFl hS (by omega) rfl rfl (fun _ => ?_)
        | refine ok_rdA hS (by omega) rfl tR_id (by omega) (by omega) (by omega) (fun _ _ _ => ?_)
        | refine ok_rdA hS (by omega) rfl sl_R (by omega) (by omega) (by omega) (fun _ _ _ => ?_)
        | refine ok_rdW hS (by omega) rfl (by omega) (by omega) (by omega) (fun _ => ?_)
        | refine ok_wrAE hS (by omega) rfl (by omega) (by omega) (by omega) (fun L _ hL => tR_set (by omega) L hL) (fun _ hS hF => ?_)
        | refine ok_wrAE hS (by omega) rfl (by omega) (by omega) (by omega) (fun _ _ _ => trivial) (fun _ hS hF => ?_)
        | refine ok_wrF hS (by omega) rfl rfl (⟨_, rfl⟩ : fZ _) (fun _ hS => ?_)
        | refine ok_wrF hS (by omega) rfl rfl (⟨_, rfl⟩ : fL _) (fun _ hS => ?_)
        | refine ok_wrFE hS (by omega) rfl rfl (by omega) (fun _ hS _ => ?_)
        | (refine ok_if (fun hc => ?_) (fun hc => ?_) <;> try simp (disch := omega) only [wIn] at hc))
theorem tf_X1_isKnownSlip   (hN : 26 ≤ N) (hn : 2 ≤ n ∧ n ≤ 7) {k : Nat} {S : xS} {i0 : Int} (hS : Hp (T5 n nd tl rp im E) N S) (hp : n + 3 ≤ (k : Int)) : Ok (f_X1_isKnownSlip k S 1 i0) (fun r S' => S' = S ∧ (r = 0 ∨ r = 1)) :=
  tg_X1_isKnownSlip hN hn k 0 S i0 0 hS (Or.inl ⟨rfl, hp⟩)
theorem tf_X1_addReport   (hN : 26 ≤ N) (hn : 2 ≤ n ∧ n ≤ 7) {k : Nat} {S : xS} {i0 : Int} {i1 : Int} (hS : Hp (T5 n nd tl rp im E) N S) (hp : 0 ≤ i0 ∧ i0 ≤ 6) : Ok (f_X1_addReport k S 1 i0 i1) (fun r S' => Hp (T5 n nd tl rp im E) N S' ∧ True) := by
  unfold f_X1_addReport
  repeat' (first
    | (refine ok_dead ?_; omega)
    | exact ok_some ⟨hS, by first | trivial | omega⟩
    | refine ok_bindE (by assumption) (fun _ => ?_)
    | refine ok_bindE (hF _ _ _ _ (by assumption)) (fun _ => ?_)
    | refine ok_is hS (by omega) rfl ?_
    | refine ok_rdFp hS (by omega) rfl rfl ?_
    | refine ok_rdFiE hS (by omega) rfl rfl (fun _ _ _ _ => ?_)
    | refine ok_rdFz hS (by omega) rfl rfl (fun _ => ?_)
    | refine ok_rdFl hS (by omega) rfl rfl (fun _ => ?_)
    | refine ok_rdA hS (by omega) rfl tR_id (by omega) (by omega) (by omega) (fun _ _ _ => ?_)
    | refine ok_rdA hS (by omega) rfl sl_R (by omega) (by omega) (by omega) (fun _ _ _ => ?_)
    | refine ok_rdW hS (by omega) rfl (by omega) (by omega) (by omega) (fun _ => ?_)
    | refine ok_wrAE hS (by omega) rfl (by omega) (by omega) (by omega) (fun L _ hL => tR_set (by omega) L hL) (fun _ hS hF => ?_)
    | refine ok_wrAE hS (by omega) rfl (by omega) (by omega) (by omega) (fun _ _ _ => trivial) (fun _ hS hF => ?_)
    | refine ok_wrF hS (by omega) rfl rfl (⟨_, rfl⟩ : fZ _) (fun _ hS => ?_)
    | refine ok_wrF hS (by omega) rfl rfl (⟨_, rfl⟩ : fL _) (fun _ hS => ?_)
    | refine ok_wrFE hS (by omega) rfl rfl (by omega) (fun _ hS _ => ?_)
    | (refine ok_if (fun hc => ?_) (fun hc => ?_) <;> try simp (disch := omega) only [wIn] at hc))
theorem tf_X1_addMove   (hN : 26 ≤ N) (hn : 2 ≤ n ∧ n ≤ 7) {k : Nat} {S : xS} {i0 : Int} (hS : Hp (T5 n nd tl rp im E) N S) (hp : 0 ≤ i0 ∧ i0 ≤ 5039) : Ok (f_X1_addMove k S 1 i0) (fun r S' => Hp (T5 n nd tl rp im E) N S' ∧ True) := by
  unfold f_X1_addMove
  repeat' (first
    | (refine ok_dead ?_; omega)
    | exact ok_some ⟨hS, by first | trivial | omega⟩
    | refine ok_bindE (by assumption) (fun _ => ?_)
    | refine ok_bindE (hF _ _ _ _ (by assumption)) (fun _ => ?_)
    | refine ok_is hS (by omega) rfl ?_
    | refine ok_rdFp hS (by omega) rfl rfl ?_
    | refine ok_rdFiE hS (by omega) rfl rfl (fun _ _ _ _ => ?_)
    | refine ok_rdFz hS (by omega) rfl rfl (fun _ => ?_)
    | refine ok_rdFl hS (by omega) rfl rfl (fun _ => ?_)
    | refine ok_rdA hS (by omega) rfl tR_id (by omega) (by omega) (by omega) (fun _ _ _ => ?_)
    | refine ok_rdA hS (by omega) rfl sl_R (by omega) (by omega) (by omega) (fun _ _ _ => ?_)
    | refine ok_rdW hS (by omega) rfl (by omega) (by omega) (by omega) (fun _ => ?_)
    | refine ok_wrAE hS (by omega) rfl (by omega) (by omega) (by omega) (fun L _ hL => tR_set (by omega) L hL) (fun _ hS hF => ?_)
    | refine ok_wrAE hS (by omega) rfl (by omega) (by omega) (by omega) (fun _ _ _ => trivial) (fun _ hS hF => ?_)
    | refine ok_wrF hS (by omega) rfl rfl (⟨_, rfl⟩ : fZ _) (fun _ hS => ?_)
    | refine ok_wrF hS (by omega) rfl rfl (⟨_, rfl⟩ : fL _) (fun _ hS => ?_)
    | refine ok_wrFE hS (by omega) rfl rfl (by omega) (fun _ hS _ => ?_)
    | (refine ok_if (fun hc => ?_) (fun hc => ?_) <;> try simp (disch := omega) only [wIn] at hc))
theorem tf_X5_slip   (hN : 26 ≤ N) (hn : 2 ≤ n ∧ n ≤ 7) {k : Nat} {S : xS} {i0 : Int} (hS : Hp (T5 n nd tl rp im E) N S) (hp : -2147483648 ≤ i0 ∧ i0 < 2147483648 ∧ 3 ≤ (k : Int)) : Ok (f_X5_slip k S 0 i0) (fun r S' => Hp (T5 n nd tl rp im E) N S' ∧ True) := by
  unfold f_X5_slip
  repeat' (first
    | (refine ok_dead ?_; omega)
    | exact ok_some ⟨hS, by first | trivial | omega⟩
    | (refine ok_bd2 (tf_X5_isNoBox hN hn hS (by first | trivial | omega)) (fun _ _ hQ => ?_); obtain ⟨rfl, hQ⟩ := hQ)
    | (refine ok_bd2 (tf_X5_refuseBad hN hn hS (by first | trivial | omega)) (fun _ _ hQ => ?_); obtain ⟨hS, hQ⟩ := hQ)
    | refine ok_bindE (by assumption) (fun _ => ?_)
    | refine ok_bindE (hF _ _ _ _ (by assumption)) (fun _ => ?_)
    | refine ok_is hS (by omega) rfl ?_
    | refine ok_rdFp hS (by omega) rfl rfl ?_
    | refine ok_rdFiE hS (by omega) rfl rfl (fun _ _ _ _ => ?_)
    | refine ok_rdFz hS (by omega) rfl rfl (fun _ => ?_)
    | refine ok_rdFl hS (by omega) rfl rfl (fun _ => ?_)
    | refine ok_rdA hS (by omega) rfl tR_id (by omega) (by omega) (by omega) (fun _ _ _ => ?_)
    | refine ok_rdA hS (by omega) rfl sl_R (by omega) (by omega) (by omega) (fun _ _ _ => ?_)
    | refine ok_rdW hS (by omega) rfl (by omega) (by omega) (by omega) (fun _ => ?_)
    | refine ok_wrAE hS (by omega) rfl (by omega) (by omega) (by omega) (fun L _ hL => tR_set (by omega) L hL) (fun _ hS hF => ?_)
    | refine ok_wrAE hS (by omega) rfl (by omega) (by omega) (by omega) (fun _ _ _ => trivial) (fun _ hS hF => ?_)
    | refine ok_wrF hS (by omega) rfl rfl (⟨_, rfl⟩ : fZ _) (fun _ hS => ?_)
    | refine ok_wrF hS (by omega) rfl rfl (⟨_, rfl⟩ : fL _) (fun _ hS => ?_)
    | refine ok_wrFE hS (by omega) rfl rfl (by omega) (fun _ hS _ => ?_)
    | (refine ok_if (fun hc => ?_) (fun hc => ?_) <;> try simp (disch := omega) only [wIn] at hc))
theorem tf_X5_rank   (hN : 26 ≤ N) (hn : 2 ≤ n ∧ n ≤ 7) {k : Nat} {S : xS} (hS : Hp (T5 n nd tl rp im E) N S) (hp : 12 ≤ (k : Int)) : Ok (f_X5_rank k S 0) (fun r S' => Hp (T5 n nd tl rp im E) N S' ∧ True) := by
  unfold f_X5_rank
  repeat' (first
    | (refine ok_dead ?_; omega)
    | exact ok_some ⟨hS, by first | trivial | omega⟩
    | (refine ok_bd2 (tf_X1_rankNow hN hn hS (by first | trivial | omega)) (fun _ _ hQ => ?_); obtain ⟨rfl, hQ⟩ := hQ)
    | refine ok_bindE (by assumption) (fun _ => ?_)
    | refine ok_bindE (hF _ _ _ _ (by assumption)) (fun _ => ?_)
    | refine ok_is hS (by omega) rfl ?_
    | refine ok_rdFp hS (by omega) rfl rfl ?_
    | refine ok_rdFiE hS (by omega) rfl rfl (fun _ _ _ _ => ?_)
    | refine ok_rdFz hS (by omega) rfl rfl (fun _ => ?_)
    | refine ok_rdFl hS (by omega) rfl rfl (fun _ => ?_)
    | refine ok_rdA hS (by omega) rfl tR_id (by omega) (by omega) (by omega) (fun _ _ _ => ?_)
    | refine ok_rdA hS (by omega) rfl sl_R (by omega) (by omega) (by omega) (fun _ _ _ => ?_)
    | refine ok_rdW hS (by omega) rfl (by omega) (by omega) (by omega) (fun _ => ?_)
    | refine ok_wrAE hS (by omega) rfl (by omega) (by omega) (by omega) (fun L _ hL => tR_set (by omega) L hL) (fun _ hS hF => ?_)
    | refine ok_wrAE hS (by omega) rfl (by omega) (by omega) (by omega) (fun _ _ _ => trivial) (fun _ hS hF => ?_)
    | refine ok_wrF hS (by omega) rfl rfl (⟨_, rfl⟩ : fZ _) (fun _ hS => ?_)
    | refine ok_wrF hS (by omega) rfl rfl (⟨_, rfl⟩ : fL _) (fun _ hS => ?_)
    | refine ok_wrFE hS (by omega) rfl rfl (by omega) (fun _ hS _ => ?_)
    | (refine ok_if (fun hc => ?_) (fun hc => ?_) <;> try simp (disch := omega) only [wIn] at hc))
theorem tf_X5_rings   (hN : 26 ≤ N) (hn : 2 ≤ n ∧ n ≤ 7) {k : Nat} {S : xS} {i0 : Int} (hS : Hp (T5 n nd tl rp im E) N S) (hp : -2147483648 ≤ i0 ∧ i0 < 2147483648 ∧ 100 ≤ (k : Int)) : Ok (f_X5_rings k S 0 i0) (fun r S' => Hp (T5 n nd tl rp im E) N S' ∧ True) := by
  unfold f_X5_rings
  repeat' (first
    | (refine ok_dead ?_; omega)
    | exact ok_some ⟨hS, by first | trivial | omega⟩
    | (refine ok_bd2 (tf_X4_ringCount (G := T5 n nd tl rp im E) (by omega) rfl sl_R hS (by first | trivial | omega)) (fun _ _ hQ => ?_); obtain ⟨rfl, hQ⟩ := hQ)
    | (refine ok_bd2 (tf_X5_isNoBox hN hn hS (by first | trivial | omega)) (fun _ _ hQ => ?_); obtain ⟨rfl, hQ⟩ := hQ)
    | (refine ok_bd2 (tf_X4_ringLength (G := T5 n nd tl rp im E) (by omega) rfl sl_R hS (by first | trivial | omega)) (fun _ _ hQ => ?_); obtain ⟨rfl, hQ⟩ := hQ)
    | (refine ok_bd2 (tf_X5_refuseQuestion hN hn hS (by first | trivial | omega)) (fun _ _ hQ => ?_); obtain ⟨hS, hQ⟩ := hQ)
    | refine ok_bindE (by assumption) (fun _ => ?_)
    | refine ok_bindE (hF _ _ _ _ (by assumption)) (fun _ => ?_)
    | refine ok_is hS (by omega) rfl ?_
    | refine ok_rdFp hS (by omega) rfl rfl ?_
    | refine ok_rdFiE hS (by omega) rfl rfl (fun _ _ _ _ => ?_)
    | refine ok_rdFz hS (by omega) rfl rfl (fun _ => ?_)
    | refine ok_rdFl hS (by omega) rfl rfl (fun _ => ?_)
    | refine ok_rdA hS (by omega) rfl tR_id (by omega) (by omega) (by omega) (fun _ _ _ => ?_)
    | refine ok_rdA hS (by omega) rfl sl_R (by omega) (by omega) (by omega) (fun _ _ _ => ?_)
    | refine ok_rdW hS (by omega) rfl (by omega) (by omega) (by omega) (fun _ => ?_)
    | refine ok_wrAE hS (by omega) rfl (by omega) (by omega) (by omega) (fun L _ hL => tR_set (by omega) L hL) (fun _ hS hF => ?_)
    | refine ok_wrAE hS (by omega) rfl (by omega) (by omega) (by omega) (fun _ _ _ => trivial) (fun _ hS hF => ?_)
    | refine ok_wrF hS (by omega) rfl rfl (⟨_, rfl⟩ : fZ _) (fun _ hS => ?_)
    | refine ok_wrF hS (by omega) rfl rfl (⟨_, rfl⟩ : fL _) (fun _ hS => ?_)
    | refine ok_wrFE hS (by omega) rfl rfl (by omega) (fun _ hS _ => ?_)
    | (refine ok_if (fun hc => ?_) (fun hc => ?_) <;> try simp (disch := omega) only [wIn] at hc))
theorem tg_X5_opened   (hN : 26 ≤ N) (hn : 2 ≤ n ∧ n ≤ 7) : ∀ (k lb : Nat) (S : xS) (i0 : Int) (i1 : Int), Hp (T5 n nd tl rp im E) N S → ((lb = 0 ∧ -2147483648 ≤ i0 ∧ i0 < 2147483648 ∧ -2147483648 ≤ i1 ∧ i1 < 2147483648 ∧ 33 ≤ (k : Int)) ∨ (lb = 1 ∧ 1 ≤ (k : Int))) → Ok (g_X5_opened k lb S 0 i0 i1) (fun r S' => Hp (T5 n nd tl rp im E) N S' ∧ True) := by
  intro k
  induction k with
  | zero => intro lb S i0 i1 hS hp; exfalso; omega
  | succ k ih =>
    intro lb S i0 i1 hS hp
    rcases hp with ⟨rfl, hp⟩ | ⟨rfl, hp⟩
    · show Ok (b_X5_opened_0 (g_X5_opened k) k S 0 i0 i1) _
      unfold b_X5_opened_0
      repeat' (first
        | (refine ok_dead ?_; omega)
        | exact ok_some ⟨hS, by first | trivial | omega⟩
        | exact ih 1 _ _ _ hS (Or.inr (⟨rfl, by omega⟩))
        | (refine ok_bd2 (tf_X5_isNoBox hN hn hS (by first | trivial | omega)) (fun _ _ hQ => ?_); obtain ⟨rfl, hQ⟩ := hQ)
        | (refine ok_bd2 (tf_X2_seek hN hn q1 g1 r1 h1 hS (by first | trivial | omega)) (fun _ _ hQ => ?_); obtain ⟨hS, hQ⟩ := hQ)
        | (refine ok_bd2 (tf_X2_seek hN hn (by omega) rfl sl_R (by omega) hS (by first | trivial | omega)) (fun _ _ hQ => ?_); obtain ⟨hS, hQ⟩ := hQ)
        | (refine ok_bd2 (tf_X2_seek hN hn (by omega) rfl tR_id (by omega) hS (by first | trivial | omega)) (fun _ _ hQ => ?_); obtain ⟨hS, hQ⟩ := hQ)
        | refine ok_bindE (by assumption) (fun _ => ?_)
        | refine ok_bindE (hF _ _ _ _ (by assumption)) (fun _ => ?_)
        | refine ok_is hS (by omega) rfl ?_
        | refine ok_rdFp hS (by omega) rfl rfl ?_
        | refine ok_rdFiE hS (by omega) rfl rfl (fun _ _ _ _ => ?_)
        | refine ok_rdFz hS (by omega) rfl rfl (fun _ => ?_)
        | refine ok_rdFl hS (by omega) rfl rfl (fun _ => ?_)
        | refine ok_rdA hS (by omega) rfl tR_id (by omega) (by omega) (by omega) (fun _ _ _ => ?_)
        | refine ok_rdA hS (by omega) rfl sl_R (by omega) (by omega) (by omega) (fun _ _ _ => ?_)
        | refine ok_rdW hS (by omega) rfl (by omega) (by omega) (by omega) (fun _ => ?_)
        | refine ok_wrAE hS (by omega) rfl (by omega) (by omega) (by omega) (fun L _ hL => tR_set (by omega) L hL) (fun _ hS hF => ?_)
        | refine ok_wrAE hS (by omega) rfl (by omega) (by omega) (by omega) (fun _ _ _ => trivial) (fun _ hS hF => ?_)
        | refine ok_wrF hS (by omega) rfl rfl (⟨_, rfl⟩ : fZ _) (fun _ hS => ?_)
        | refine ok_wrF hS (by omega) rfl rfl (⟨_, rfl⟩ : fL _) (fun _ hS => ?_)
        | refine ok_wrFE hS (by omega) rfl rfl (by omega) (fun _ hS _ => ?_)
        | (refine ok_if (fun hc => ?_) (fun hc => ?_) <;> try simp (disch := omega) only [wIn] at hc))
    · show Ok (b_X5_opened_1 (g_X5_opened k) k S 0 i0 i1) _
      unfold b_X5_opened_1
      repeat' (first
        | (refine ok_dead ?_; omega)
        | exact ok_some ⟨hS, by first | trivial | omega⟩
        | (refine ok_bd2 (tf_X5_refuseQuestion hN hn hS (by first | trivial | omega)) (fun _ _ hQ => ?_); obtain ⟨hS, hQ⟩ := hQ)
        | refine ok_bindE (by assumption) (fun _ => ?_)
        | refine ok_bindE (hF _ _ _ _ (by assumption)) (fun _ => ?_)
        | refine ok_is hS (by omega) rfl ?_
        | refine ok_rdFp hS (by omega) rfl rfl ?_
        | refine ok_rdFiE hS (by omega) rfl rfl (fun _ _ _ _ => ?_)
        | refine ok_rdFz hS (by omega) rfl rfl (fun _ => ?_)
        | refine ok_rdFl hS (by omega) rfl rfl (fun _ => ?_)
        | refine ok_rdA hS (by omega) rfl tR_id (by omega) (by omega) (by omega) (fun _ _ _ => ?_)
        | refine ok_rdA hS (by omega) rfl sl_R (by omega) (by omega) (by omega) (fun _ _ _ => ?_)
        | refine ok_rdW hS (by omega) rfl (by omega) (by omega) (by omega) (fun _ => ?_)
        | refine ok_wrAE hS (by omega) rfl (by omega) (by omega) (by omega) (fun L _ hL => tR_set (by omega) L hL) (fun _ hS hF => ?_)
        | refine ok_wrAE hS (by omega) rfl (by omega) (by omega) (by omega) (fun _ _ _ => trivial) (fun _ hS hF => ?_)
        | refine ok_wrF hS (by omega) rfl rfl (⟨_, rfl⟩ : fZ _) (fun _ hS => ?_)
        | refine ok_wrF hS (by omega) rfl rfl (⟨_, rfl⟩ : fL _) (fun _ hS => ?_)
        | refine ok_wrFE hS (by omega) rfl rfl (by omega) (fun _ hS _ => ?_)
        | (refine ok_if (fun hc => ?_) (fun hc => ?_) <;> try simp (disch := omega) only [wIn] at hc))
theorem tf_X5_opened   (hN : 26 ≤ N) (hn : 2 ≤ n ∧ n ≤ 7) {k : Nat} {S : xS} {i0 : Int} {i1 : Int} (hS : Hp (T5 n nd tl rp im E) N S) (hp : -2147483648 ≤ i0 ∧ i0 < 2147483648 ∧ -2147483648 ≤ i1 ∧ i1 < 2147483648 ∧ 33 ≤ (k : Int)) : Ok (f_X5_opened k S 0 i0 i1) (fun r S' => Hp (T5 n nd tl rp im E) N S' ∧ True) :=
  tg_X5_opened hN hn k 0 S i0 i1 hS (Or.inl ⟨rfl, hp⟩)
theorem tf_X5_finds   (hN : 26 ≤ N) (hn : 2 ≤ n ∧ n ≤ 7) {k : Nat} {S : xS} (hS : Hp (T5 n nd tl rp im E) N S) (hp : 50 ≤ (k : Int)) : Ok (f_X5_finds k S 0) (fun r S' => Hp (T5 n nd tl rp im E) N S' ∧ True) := by
  unfold f_X5_finds
  repeat' (first
    | (refine ok_dead ?_; omega)
    | exact ok_some ⟨hS, by first | trivial | omega⟩
    | (refine ok_bd2 (tf_X5_findersIn hN hn q1 g1 r1 h1 hS (by first | trivial | omega)) (fun _ _ hQ => ?_); obtain ⟨hS, hQ⟩ := hQ)
    | (refine ok_bd2 (tf_X5_findersIn hN hn (by omega) rfl sl_R (by omega) hS (by first | trivial | omega)) (fun _ _ hQ => ?_); obtain ⟨hS, hQ⟩ := hQ)
    | (refine ok_bd2 (tf_X5_findersIn hN hn (by omega) rfl tR_id (by omega) hS (by first | trivial | omega)) (fun _ _ hQ => ?_); obtain ⟨hS, hQ⟩ := hQ)
    | refine ok_bindE (by assumption) (fun _ => ?_)
    | refine ok_bindE (hF _ _ _ _ (by assumption)) (fun _ => ?_)
    | refine ok_is hS (by omega) rfl ?_
    | refine ok_rdFp hS (by omega) rfl rfl ?_
    | refine ok_rdFiE hS (by omega) rfl rfl (fun _ _ _ _ => ?_)
    | refine ok_rdFz hS (by omega) rfl rfl (fun _ => ?_)
    | refine ok_rdFl hS (by omega) rfl rfl (fun _ => ?_)
    | refine ok_rdA hS (by omega) rfl tR_id (by omega) (by omega) (by omega) (fun _ _ _ => ?_)
    | refine ok_rdA hS (by omega) rfl sl_R (by omega) (by omega) (by omega) (fun _ _ _ => ?_)
    | refine ok_rdW hS (by omega) rfl (by omega) (by omega) (by omega) (fun _ => ?_)
    | refine ok_wrAE hS (by omega) rfl (by omega) (by omega) (by omega) (fun L _ hL => tR_set (by omega) L hL) (fun _ hS hF => ?_)
    | refine ok_wrAE hS (by omega) rfl (by omega) (by omega) (by omega) (fun _ _ _ => trivial) (fun _ hS hF => ?_)
    | refine ok_wrF hS (by omega) rfl rfl (⟨_, rfl⟩ : fZ _) (fun _ hS => ?_)
    | refine ok_wrF hS (by omega) rfl rfl (⟨_, rfl⟩ : fL _) (fun _ hS => ?_)
    | refine ok_wrFE hS (by omega) rfl rfl (by omega) (fun _ hS _ => ?_)
    | (refine ok_if (fun hc => ?_) (fun hc => ?_) <;> try simp (disch := omega) only [wIn] at hc))
theorem tg_X5_worked   (hN : 26 ≤ N) (hn : 2 ≤ n ∧ n ≤ 7) : ∀ (k lb : Nat) (S : xS) (i0 : Int) (i1 : Int), Hp (T5 n nd tl rp im E) N S → ((lb = 0 ∧ -2147483648 ≤ i0 ∧ i0 < 2147483648 ∧ 140 ≤ (k : Int)) ∨ (lb = 1 ∧ 1 ≤ (k : Int)) ∨ (lb = 2 ∧ 0 ≤ i0 ∧ i0 ≤ 99 ∧ 0 ≤ i1 ∧ i1 ≤ n ∧ n - i1 + 120 ≤ (k : Int))) → Ok (g_X5_worked k lb S 0 i0 i1) (fun r S' => Hp (T5 n nd tl rp im E) N S' ∧ True) := by
  intro k
  induction k with
  | zero => intro lb S i0 i1 hS hp; exfalso; omega
  | succ k ih =>
    intro lb S i0 i1 hS hp
    rcases hp with ⟨rfl, hp⟩ | ⟨rfl, hp⟩ | ⟨rfl, hp⟩
    · show Ok (b_X5_worked_0 (g_X5_worked k) k S 0 i0 i1) _
      unfold b_X5_worked_0
      repeat' (first
        | (refine ok_dead ?_; omega)
        | exact ok_some ⟨hS, by first | trivial | omega⟩
        | exact ih 1 _ _ _ hS (Or.inr (Or.inl ⟨rfl, by omega⟩))
        | exact ih 2 _ _ _ hS (Or.inr (Or.inr (⟨rfl, by omega⟩)))
        | refine ok_bindE (by assumption) (fun _ => ?_)
        | refine ok_bindE (hF _ _ _ _ (by assumption)) (fun _ => ?_)
        | refine ok_is hS (by omega) rfl ?_
        | refine ok_rdFp hS (by omega) rfl rfl ?_
        | refine ok_rdFiE hS (by omega) rfl rfl (fun _ _ _ _ => ?_)
        | refine ok_rdFz hS (by omega) rfl rfl (fun _ => ?_)
        | refine ok_rdFl hS (by omega) rfl rfl (fun _ => ?_)
        | refine ok_rdA hS (by omega) rfl tR_id (by omega) (by omega) (by omega) (fun _ _ _ => ?_)
        | refine ok_rdA hS (by omega) rfl sl_R (by omega) (by omega) (by omega) (fun _ _ _ => ?_)
        | refine ok_rdW hS (by omega) rfl (by omega) (by omega) (by omega) (fun _ => ?_)
        | refine ok_wrAE hS (by omega) rfl (by omega) (by omega) (by omega) (fun L _ hL => tR_set (by omega) L hL) (fun _ hS hF => ?_)
        | refine ok_wrAE hS (by omega) rfl (by omega) (by omega) (by omega) (fun _ _ _ => trivial) (fun _ hS hF => ?_)
        | refine ok_wrF hS (by omega) rfl rfl (⟨_, rfl⟩ : fZ _) (fun _ hS => ?_)
        | refine ok_wrF hS (by omega) rfl rfl (⟨_, rfl⟩ : fL _) (fun _ hS => ?_)
        | refine ok_wrFE hS (by omega) rfl rfl (by omega) (fun _ hS _ => ?_)
        | (refine ok_if (fun hc => ?_) (fun hc => ?_) <;> try simp (disch := omega) only [wIn] at hc))
    · show Ok (b_X5_worked_1 (g_X5_worked k) k S 0 i0 i1) _
      unfold b_X5_worked_1
      repeat' (first
        | (refine ok_dead ?_; omega)
        | exact ok_some ⟨hS, by first | trivial | omega⟩
        | (refine ok_bd2 (tf_X5_refuseBad hN hn hS (by first | trivial | omega)) (fun _ _ hQ => ?_); obtain ⟨hS, hQ⟩ := hQ)
        | refine ok_bindE (by assumption) (fun _ => ?_)
        | refine ok_bindE (hF _ _ _ _ (by assumption)) (fun _ => ?_)
        | refine ok_is hS (by omega) rfl ?_
        | refine ok_rdFp hS (by omega) rfl rfl ?_
        | refine ok_rdFiE hS (by omega) rfl rfl (fun _ _ _ _ => ?_)
        | refine ok_rdFz hS (by omega) rfl rfl (fun _ => ?_)
        | refine ok_rdFl hS (by omega) rfl rfl (fun _ => ?_)
        | refine ok_rdA hS (by omega) rfl tR_id (by omega) (by omega) (by omega) (fun _ _ _ => ?_)
        | refine ok_rdA hS (by omega) rfl sl_R (by omega) (by omega) (by omega) (fun _ _ _ => ?_)
        | refine ok_rdW hS (by omega) rfl (by omega) (by omega) (by omega) (fun _ => ?_)
        | refine ok_wrAE hS (by omega) rfl (by omega) (by omega) (by omega) (fun L _ hL => tR_set (by omega) L hL) (fun _ hS hF => ?_)
        | refine ok_wrAE hS (by omega) rfl (by omega) (by omega) (by omega) (fun _ _ _ => trivial) (fun _ hS hF => ?_)
        | refine ok_wrF hS (by omega) rfl rfl (⟨_, rfl⟩ : fZ _) (fun _ hS => ?_)
        | refine ok_wrF hS (by omega) rfl rfl (⟨_, rfl⟩ : fL _) (fun _ hS => ?_)
        | refine ok_wrFE hS (by omega) rfl rfl (by omega) (fun _ hS _ => ?_)
        | (refine ok_if (fun hc => ?_) (fun hc => ?_) <;> try simp (disch := omega) only [wIn] at hc))
    · show Ok (b_X5_worked_2 (g_X5_worked k) k S 0 i0 i1) _
      unfold b_X5_worked_2
      repeat' (first
        | (refine ok_dead ?_; omega)
        | exact ok_some ⟨hS, by first | trivial | omega⟩
        | exact ih 2 _ _ _ hS (Or.inr (Or.inr (⟨rfl, by omega⟩)))
        | (refine ok_bd2 (tf_X4_rankOf (G := T5 n nd tl rp im E) (by omega) rfl sl_R hS (by first | trivial | omega)) (fun _ _ hQ => ?_); obtain ⟨rfl, hQ⟩ := hQ)
        | (refine ok_bd2 (tf_X4_rankOf (G := T5 n nd tl rp im E) (by omega) rfl tR_id hS (by first | trivial | omega)) (fun _ _ hQ => ?_); obtain ⟨rfl, hQ⟩ := hQ)
        | (refine ok_bd2 (tf_X4_stepsFrom (G := T5 n nd tl rp im E) (by omega) rfl sl_R hS (by first | trivial | omega)) (fun _ _ hQ => ?_); obtain ⟨rfl, hQ⟩ := hQ)
        | (refine ok_bd2 (tf_X4_stepsFrom (G := T5 n nd tl rp im E) (by omega) rfl tR_id hS (by first | trivial | omega)) (fun _ _ hQ => ?_); obtain ⟨rfl, hQ⟩ := hQ)
        | refine ok_bindE (by assumption) (fun _ => ?_)
        | refine ok_bindE (hF _ _ _ _ (by assumption)) (fun _ => ?_)
        | refine ok_is hS (by omega) rfl ?_
        | refine ok_rdFp hS (by omega) rfl rfl ?_
        | refine ok_rdFiE hS (by omega) rfl rfl (fun _ _ _ _ => ?_)
        | refine ok_rdFz hS (by omega) rfl rfl (fun _ => ?_)
        | refine ok_rdFl hS (by omega) rfl rfl (fun _ => ?_)
        | refine ok_rdA hS (by omega) rfl tR_id (by omega) (by omega) (by omega) (fun _ _ _ => ?_)
        | refine ok_rdA hS (by omega) rfl sl_R (by omega) (by omega) (by omega) (fun _ _ _ => ?_)
        | refine ok_rdW hS (by omega) rfl (by omega) (by omega) (by omega) (fun _ => ?_)
        | refine ok_wrAE hS (by omega) rfl (by omega) (by omega) (by omega) (fun L _ hL => tR_set (by omega) L hL) (fun _ hS hF => ?_)
        | refine ok_wrAE hS (by omega) rfl (by omega) (by omega) (by omega) (fun _ _ _ => trivial) (fun _ hS hF => ?_)
        | refine ok_wrF hS (by omega) rfl rfl (⟨_, rfl⟩ : fZ _) (fun _ hS => ?_)
        | refine ok_wrF hS (by omega) rfl rfl (⟨_, rfl⟩ : fL _) (fun _ hS => ?_)
        | refine ok_wrFE hS (by omega) rfl rfl (by omega) (fun _ hS _ => ?_)
        | (refine ok_if (fun hc => ?_) (fun hc => ?_) <;> try simp (disch := omega) only [wIn] at hc))
theorem tf_X5_worked   (hN : 26 ≤ N) (hn : 2 ≤ n ∧ n ≤ 7) {k : Nat} {S : xS} {i0 : Int} (hS : Hp (T5 n nd tl rp im E) N S) (hp : -2147483648 ≤ i0 ∧ i0 < 2147483648 ∧ 140 ≤ (k : Int)) : Ok (f_X5_worked k S 0 i0) (fun r S' => Hp (T5 n nd tl rp im E) N S' ∧ True) :=
  tg_X5_worked hN hn k 0 S i0 0 hS (Or.inl ⟨rfl, hp⟩)
theorem tg_X5_back   (hN : 26 ≤ N) (hn : 2 ≤ n ∧ n ≤ 7) : ∀ (k lb : Nat) (S : xS) (i0 : Int) (i1 : Int), Hp (T5 n nd tl rp im E) N S → ((lb = 0 ∧ 130 ≤ (k : Int)) ∨ (lb = 1 ∧ 0 ≤ i1 ∧ i1 ≤ n ∧ n - i1 + 106 ≤ (k : Int))) → Ok (g_X5_back k lb S 0 i0 i1) (fun r S' => Hp (T5 n nd tl rp im E) N S' ∧ True) := by
  intro k
  induction k with
  | zero => intro lb S i0 i1 hS hp; exfalso; omega
  | succ k ih =>
    intro lb S i0 i1 hS hp
    rcases hp with ⟨rfl, hp⟩ | ⟨rfl, hp⟩
    · show Ok (b_X5_back_0 (g_X5_back k) k S 0 i0 i1) _
      unfold b_X5_back_0
      repeat' (first
        | (refine ok_dead ?_; omega)
        | exact ok_some ⟨hS, by first | trivial | omega⟩
        | exact ih 1 _ _ _ hS (Or.inr (⟨rfl, by omega⟩))
        | refine ok_bindE (by assumption) (fun _ => ?_)
        | refine ok_bindE (hF _ _ _ _ (by assumption)) (fun _ => ?_)
        | refine ok_is hS (by omega) rfl ?_
        | refine ok_rdFp hS (by omega) rfl rfl ?_
        | refine ok_rdFiE hS (by omega) rfl rfl (fun _ _ _ _ => ?_)
        | refine ok_rdFz hS (by omega) rfl rfl (fun _ => ?_)
        | refine ok_rdFl hS (by omega) rfl rfl (fun _ => ?_)
        | refine ok_rdA hS (by omega) rfl tR_id (by omega) (by omega) (by omega) (fun _ _ _ => ?_)
        | refine ok_rdA hS (by omega) rfl sl_R (by omega) (by omega) (by omega) (fun _ _ _ => ?_)
        | refine ok_rdW hS (by omega) rfl (by omega) (by omega) (by omega) (fun _ => ?_)
        | refine ok_wrAE hS (by omega) rfl (by omega) (by omega) (by omega) (fun L _ hL => tR_set (by omega) L hL) (fun _ hS hF => ?_)
        | refine ok_wrAE hS (by omega) rfl (by omega) (by omega) (by omega) (fun _ _ _ => trivial) (fun _ hS hF => ?_)
        | refine ok_wrF hS (by omega) rfl rfl (⟨_, rfl⟩ : fZ _) (fun _ hS => ?_)
        | refine ok_wrF hS (by omega) rfl rfl (⟨_, rfl⟩ : fL _) (fun _ hS => ?_)
        | refine ok_wrFE hS (by omega) rfl rfl (by omega) (fun _ hS _ => ?_)
        | (refine ok_if (fun hc => ?_) (fun hc => ?_) <;> try simp (disch := omega) only [wIn] at hc))
    · show Ok (b_X5_back_1 (g_X5_back k) k S 0 i0 i1) _
      unfold b_X5_back_1
      repeat' (first
        | (refine ok_dead ?_; omega)
        | exact ok_some ⟨hS, by first | trivial | omega⟩
        | exact ih 1 _ _ _ hS (Or.inr (⟨rfl, by omega⟩))
        | (refine ok_bd2 (tf_X4_ringLength (G := T5 n nd tl rp im E) (by omega) rfl sl_R hS (by first | trivial | omega)) (fun _ _ hQ => ?_); obtain ⟨rfl, hQ⟩ := hQ)
        | (refine ok_bd2 (tf_X5_commonDivisor  hS (by first | trivial | omega)) (fun _ _ hQ => ?_); obtain ⟨rfl, hQ⟩ := hQ)
        | refine ok_bindE (by assumption) (fun _ => ?_)
        | refine ok_bindE (hF _ _ _ _ (by assumption)) (fun _ => ?_)
        | refine ok_is hS (by omega) rfl ?_
        | refine ok_rdFp hS (by omega) rfl rfl ?_
        | refine ok_rdFiE hS (by omega) rfl rfl (fun _ _ _ _ => ?_)
        | refine ok_rdFz hS (by omega) rfl rfl (fun _ => ?_)
        | refine ok_rdFl hS (by omega) rfl rfl (fun _ => ?_)
        | refine ok_rdA hS (by omega) rfl tR_id (by omega) (by omega) (by omega) (fun _ _ _ => ?_)
        | refine ok_rdA hS (by omega) rfl sl_R (by omega) (by omega) (by omega) (fun _ _ _ => ?_)
        | refine ok_rdW hS (by omega) rfl (by omega) (by omega) (by omega) (fun _ => ?_)
        | refine ok_wrAE hS (by omega) rfl (by omega) (by omega) (by omega) (fun L _ hL => tR_set (by omega) L hL) (fun _ hS hF => ?_)
        | refine ok_wrAE hS (by omega) rfl (by omega) (by omega) (by omega) (fun _ _ _ => trivial) (fun _ hS hF => ?_)
        | refine ok_wrF hS (by omega) rfl rfl (⟨_, rfl⟩ : fZ _) (fun _ hS => ?_)
        | refine ok_wrF hS (by omega) rfl rfl (⟨_, rfl⟩ : fL _) (fun _ hS => ?_)
        | refine ok_wrFE hS (by omega) rfl rfl (by omega) (fun _ hS _ => ?_)
        | (refine ok_if (fun hc => ?_) (fun hc => ?_) <;> try simp (disch := omega) only [wIn] at hc))
theorem tf_X5_back   (hN : 26 ≤ N) (hn : 2 ≤ n ∧ n ≤ 7) {k : Nat} {S : xS} (hS : Hp (T5 n nd tl rp im E) N S) (hp : 130 ≤ (k : Int)) : Ok (f_X5_back k S 0) (fun r S' => Hp (T5 n nd tl rp im E) N S' ∧ True) :=
  tg_X5_back hN hn k 0 S 0 0 hS (Or.inl ⟨rfl, hp⟩)
theorem tg_X5_undoes   (hN : 26 ≤ N) (hn : 2 ≤ n ∧ n ≤ 7) : ∀ (k lb : Nat) (S : xS) (i0 : Int), Hp (T5 n nd tl rp im E) N S → ((lb = 0 ∧ 30 ≤ (k : Int)) ∨ (lb = 1 ∧ 0 ≤ i0 ∧ i0 ≤ n ∧ n - i0 + 12 ≤ (k : Int))) → Ok (g_X5_undoes k lb S 0 i0) (fun r S' => Hp (T5 n nd tl rp im E) N S' ∧ True) := by
  intro k
  induction k with
  | zero => intro lb S i0 hS hp; exfalso; omega
  | succ k ih =>
    intro lb S i0 hS hp
    rcases hp with ⟨rfl, hp⟩ | ⟨rfl, hp⟩
    · show Ok (b_X5_undoes_0 (g_X5_undoes k) k S 0 i0) _
      unfold b_X5_undoes_0
      repeat' (first
        | (refine ok_dead ?_; omega)
        | exact ok_some ⟨hS, by first | trivial | omega⟩
        | exact ih 1 _ _ hS (Or.inr (⟨rfl, by omega⟩))
        | refine ok_bindE (by assumption) (fun _ => ?_)
        | refine ok_bindE (hF _ _ _ _ (by assumption)) (fun _ => ?_)
        | refine ok_is hS (by omega) rfl ?_
        | refine ok_rdFp hS (by omega) rfl rfl ?_
        | refine ok_rdFiE hS (by omega) rfl rfl (fun _ _ _ _ => ?_)
        | refine ok_rdFz hS (by omega) rfl rfl (fun _ => ?_)
        | refine ok_rdFl hS (by omega) rfl rfl (fun _ => ?_)
        | refine ok_rdA hS (by omega) rfl tR_id (by omega) (by omega) (by omega) (fun _ _ _ => ?_)
        | refine ok_rdA hS (by omega) rfl sl_R (by omega) (by omega) (by omega) (fun _ _ _ => ?_)
        | refine ok_rdW hS (by omega) rfl (by omega) (by omega) (by omega) (fun _ => ?_)
        | refine ok_wrAE hS (by omega) rfl (by omega) (by omega) (by omega) (fun L _ hL => tR_set (by omega) L hL) (fun _ hS hF => ?_)
        | refine ok_wrAE hS (by omega) rfl (by omega) (by omega) (by omega) (fun _ _ _ => trivial) (fun _ hS hF => ?_)
        | refine ok_wrF hS (by omega) rfl rfl (⟨_, rfl⟩ : fZ _) (fun _ hS => ?_)
        | refine ok_wrF hS (by omega) rfl rfl (⟨_, rfl⟩ : fL _) (fun _ hS => ?_)
        | refine ok_wrFE hS (by omega) rfl rfl (by omega) (fun _ hS _ => ?_)
        | (refine ok_if (fun hc => ?_) (fun hc => ?_) <;> try simp (disch := omega) only [wIn] at hc))
    · show Ok (b_X5_undoes_1 (g_X5_undoes k) k S 0 i0) _
      unfold b_X5_undoes_1
      repeat' (first
        | (refine ok_dead ?_; omega)
        | exact ok_some ⟨hS, by first | trivial | omega⟩
        | exact ih 1 _ _ hS (Or.inr (⟨rfl, by omega⟩))
        | (refine ok_bd2 (tf_X4_rankOf (G := T5 n nd tl rp im E) (by omega) rfl sl_R hS (by first | trivial | omega)) (fun _ _ hQ => ?_); obtain ⟨rfl, hQ⟩ := hQ)
        | (refine ok_bd2 (tf_X4_rankOf (G := T5 n nd tl rp im E) (by omega) rfl tR_id hS (by first | trivial | omega)) (fun _ _ hQ => ?_); obtain ⟨rfl, hQ⟩ := hQ)
        | refine ok_bindE (by assumption) (fun _ => ?_)
        | refine ok_bindE (hF _ _ _ _ (by assumption)) (fun _ => ?_)
        | refine ok_is hS (by omega) rfl ?_
        | refine ok_rdFp hS (by omega) rfl rfl ?_
        | refine ok_rdFiE hS (by omega) rfl rfl (fun _ _ _ _ => ?_)
        | refine ok_rdFz hS (by omega) rfl rfl (fun _ => ?_)
        | refine ok_rdFl hS (by omega) rfl rfl (fun _ => ?_)
        | refine ok_rdA hS (by omega) rfl tR_id (by omega) (by omega) (by omega) (fun _ _ _ => ?_)
        | refine ok_rdA hS (by omega) rfl sl_R (by omega) (by omega) (by omega) (fun _ _ _ => ?_)
        | refine ok_rdW hS (by omega) rfl (by omega) (by omega) (by omega) (fun _ => ?_)
        | refine ok_wrAE hS (by omega) rfl (by omega) (by omega) (by omega) (fun L _ hL => tR_set (by omega) L hL) (fun _ hS hF => ?_)
        | refine ok_wrAE hS (by omega) rfl (by omega) (by omega) (by omega) (fun _ _ _ => trivial) (fun _ hS hF => ?_)
        | refine ok_wrF hS (by omega) rfl rfl (⟨_, rfl⟩ : fZ _) (fun _ hS => ?_)
        | refine ok_wrF hS (by omega) rfl rfl (⟨_, rfl⟩ : fL _) (fun _ hS => ?_)
        | refine ok_wrFE hS (by omega) rfl rfl (by omega) (fun _ hS _ => ?_)
        | (refine ok_if (fun hc => ?_) (fun hc => ?_) <;> try simp (disch := omega) only [wIn] at hc))
theorem tf_X5_undoes   (hN : 26 ≤ N) (hn : 2 ≤ n ∧ n ≤ 7) {k : Nat} {S : xS} (hS : Hp (T5 n nd tl rp im E) N S) (hp : 30 ≤ (k : Int)) : Ok (f_X5_undoes k S 0) (fun r S' => Hp (T5 n nd tl rp im E) N S' ∧ True) :=
  tg_X5_undoes hN hn k 0 S 0 hS (Or.inl ⟨rfl, hp⟩)
theorem tg_X5_goesWith   (hN : 26 ≤ N) (hn : 2 ≤ n ∧ n ≤ 7) : ∀ (k lb : Nat) (S : xS) (i0 : Int) (i1 : Int) (i2 : Int), Hp (T5 n nd tl rp im E) N S → ((lb = 0 ∧ 10150 ≤ (k : Int)) ∨ (lb = 1 ∧ 2 ≤ i0 ∧ i0 ≤ 7 ∧ 0 ≤ i2 ∧ i2 ≤ 5040 ∧ 2 * (5040 - i2) + 40 ≤ (k : Int)) ∨ (lb = 2 ∧ 2 ≤ i0 ∧ i0 ≤ 7 ∧ 0 ≤ i2 ∧ i2 < 5040 ∧ 2 * (5040 - i2) + 39 ≤ (k : Int))) → Ok (g_X5_goesWith k lb S 0 i0 i1 i2) (fun r S' => Hp (T5 n nd tl rp im E) N S' ∧ True) := by
  intro k
  induction k with
  | zero => intro lb S i0 i1 i2 hS hp; exfalso; omega
  | succ k ih =>
    intro lb S i0 i1 i2 hS hp
    rcases hp with ⟨rfl, hp⟩ | ⟨rfl, hp⟩ | ⟨rfl, hp⟩
    · show Ok (b_X5_goesWith_0 (g_X5_goesWith k) k S 0 i0 i1 i2) _
      unfold b_X5_goesWith_0
      repeat' (first
        | (refine ok_dead ?_; omega)
        | exact ok_some ⟨hS, by first | trivial | omega⟩
        | exact ih 1 _ _ _ _ hS (Or.inr (Or.inl ⟨rfl, by omega⟩))
        | (refine ok_bd2 (tf_X4_setToFirst (G := T5 n nd tl rp im E) (by omega) rfl tR_id (fun L i x hx hL => tR_set hx L hL) hS (by first | trivial | omega)) (fun _ _ hQ => ?_); obtain ⟨hS, hQ⟩ := hQ)
        | refine ok_bindE (by assumption) (fun _ => ?_)
        | refine ok_bindE (hF _ _ _ _ (by assumption)) (fun _ => ?_)
        | refine ok_is hS (by omega) rfl ?_
        | refine ok_rdFp hS (by omega) rfl rfl ?_
        | refine ok_rdFiE hS (by omega) rfl rfl (fun _ _ _ _ => ?_)
        | refine ok_rdFz hS (by omega) rfl rfl (fun _ => ?_)
        | refine ok_rdFl hS (by omega) rfl rfl (fun _ => ?_)
        | refine ok_rdA hS (by omega) rfl tR_id (by omega) (by omega) (by omega) (fun _ _ _ => ?_)
        | refine ok_rdA hS (by omega) rfl sl_R (by omega) (by omega) (by omega) (fun _ _ _ => ?_)
        | refine ok_rdW hS (by omega) rfl (by omega) (by omega) (by omega) (fun _ => ?_)
        | refine ok_wrAE hS (by omega) rfl (by omega) (by omega) (by omega) (fun L _ hL => tR_set (by omega) L hL) (fun _ hS hF => ?_)
        | refine ok_wrAE hS (by omega) rfl (by omega) (by omega) (by omega) (fun _ _ _ => trivial) (fun _ hS hF => ?_)
        | refine ok_wrF hS (by omega) rfl rfl (⟨_, rfl⟩ : fZ _) (fun _ hS => ?_)
        | refine ok_wrF hS (by omega) rfl rfl (⟨_, rfl⟩ : fL _) (fun _ hS => ?_)
        | refine ok_wrFE hS (by omega) rfl rfl (by omega) (fun _ hS _ => ?_)
        | (refine ok_if (fun hc => ?_) (fun hc => ?_) <;> try simp (disch := omega) only [wIn] at hc))
    · show Ok (b_X5_goesWith_1 (g_X5_goesWith k) k S 0 i0 i1 i2) _
      unfold b_X5_goesWith_1
      repeat' (first
        | (refine ok_dead ?_; omega)
        | exact ok_some ⟨hS, by first | trivial | omega⟩
        | exact ih 2 _ _ _ _ hS (Or.inr (Or.inr (⟨rfl, by omega⟩)))
        | (refine ok_bd2 (tf_X4_areExchangeable (G := T5 n nd tl rp im E) (by omega) rfl sl_R (by omega) rfl tR_id hS (by first | trivial | omega)) (fun _ _ hQ => ?_); obtain ⟨rfl, hQ⟩ := hQ)
        | refine ok_bindE (by assumption) (fun _ => ?_)
        | refine ok_bindE (hF _ _ _ _ (by assumption)) (fun _ => ?_)
        | refine ok_is hS (by omega) rfl ?_
        | refine ok_rdFp hS (by omega) rfl rfl ?_
        | refine ok_rdFiE hS (by omega) rfl rfl (fun _ _ _ _ => ?_)
        | refine ok_rdFz hS (by omega) rfl rfl (fun _ => ?_)
        | refine ok_rdFl hS (by omega) rfl rfl (fun _ => ?_)
        | refine ok_rdA hS (by omega) rfl tR_id (by omega) (by omega) (by omega) (fun _ _ _ => ?_)
        | refine ok_rdA hS (by omega) rfl sl_R (by omega) (by omega) (by omega) (fun _ _ _ => ?_)
        | refine ok_rdW hS (by omega) rfl (by omega) (by omega) (by omega) (fun _ => ?_)
        | refine ok_wrAE hS (by omega) rfl (by omega) (by omega) (by omega) (fun L _ hL => tR_set (by omega) L hL) (fun _ hS hF => ?_)
        | refine ok_wrAE hS (by omega) rfl (by omega) (by omega) (by omega) (fun _ _ _ => trivial) (fun _ hS hF => ?_)
        | refine ok_wrF hS (by omega) rfl rfl (⟨_, rfl⟩ : fZ _) (fun _ hS => ?_)
        | refine ok_wrF hS (by omega) rfl rfl (⟨_, rfl⟩ : fL _) (fun _ hS => ?_)
        | refine ok_wrFE hS (by omega) rfl rfl (by omega) (fun _ hS _ => ?_)
        | refine ok_rdT (by omega) (by omega) (fun _ _ _ _ => ?_)
        | (refine ok_if (fun hc => ?_) (fun hc => ?_) <;> try simp (disch := omega) only [wIn] at hc))
    · show Ok (b_X5_goesWith_2 (g_X5_goesWith k) k S 0 i0 i1 i2) _
      unfold b_X5_goesWith_2
      repeat' (first
        | (refine ok_dead ?_; omega)
        | exact ok_some ⟨hS, by first | trivial | omega⟩
        | exact ih 1 _ _ _ _ hS (Or.inr (Or.inl ⟨rfl, by omega⟩))
        | (refine ok_bd2 (tf_X4_setToNext (G := T5 n nd tl rp im E) (by omega) rfl tR_id (fun L i x hx hL => tR_set hx L hL) hS (by first | trivial | omega)) (fun _ _ hQ => ?_); obtain ⟨hS, hQ⟩ := hQ)
        | refine ok_bindE (by assumption) (fun _ => ?_)
        | refine ok_bindE (hF _ _ _ _ (by assumption)) (fun _ => ?_)
        | refine ok_is hS (by omega) rfl ?_
        | refine ok_rdFp hS (by omega) rfl rfl ?_
        | refine ok_rdFiE hS (by omega) rfl rfl (fun _ _ _ _ => ?_)
        | refine ok_rdFz hS (by omega) rfl rfl (fun _ => ?_)
        | refine ok_rdFl hS (by omega) rfl rfl (fun _ => ?_)
        | refine ok_rdA hS (by omega) rfl tR_id (by omega) (by omega) (by omega) (fun _ _ _ => ?_)
        | refine ok_rdA hS (by omega) rfl sl_R (by omega) (by omega) (by omega) (fun _ _ _ => ?_)
        | refine ok_rdW hS (by omega) rfl (by omega) (by omega) (by omega) (fun _ => ?_)
        | refine ok_wrAE hS (by omega) rfl (by omega) (by omega) (by omega) (fun L _ hL => tR_set (by omega) L hL) (fun _ hS hF => ?_)
        | refine ok_wrAE hS (by omega) rfl (by omega) (by omega) (by omega) (fun _ _ _ => trivial) (fun _ hS hF => ?_)
        | refine ok_wrF hS (by omega) rfl rfl (⟨_, rfl⟩ : fZ _) (fun _ hS => ?_)
        | refine ok_wrF hS (by omega) rfl rfl (⟨_, rfl⟩ : fL _) (fun _ hS => ?_)
        | refine ok_wrFE hS (by omega) rfl rfl (by omega) (fun _ hS _ => ?_)
        | (refine ok_if (fun hc => ?_) (fun hc => ?_) <;> try simp (disch := omega) only [wIn] at hc))
theorem tf_X5_goesWith   (hN : 26 ≤ N) (hn : 2 ≤ n ∧ n ≤ 7) {k : Nat} {S : xS} (hS : Hp (T5 n nd tl rp im E) N S) (hp : 10150 ≤ (k : Int)) : Ok (f_X5_goesWith k S 0) (fun r S' => Hp (T5 n nd tl rp im E) N S' ∧ True) :=
  tg_X5_goesWith hN hn k 0 S 0 0 0 hS (Or.inl ⟨rfl, hp⟩)
theorem tg_X5_roots   (hN : 26 ≤ N) (hn : 2 ≤ n ∧ n ≤ 7) : ∀ (k lb : Nat) (S : xS) (i0 : Int) (i1 : Int) (i2 : Int) (i3 : Int), Hp (T5 n nd tl rp im E) N S → ((lb = 0 ∧ -2147483648 ≤ i0 ∧ i0 < 2147483648 ∧ 10200 ≤ (k : Int)) ∨ (lb = 1 ∧ 1 ≤ (k : Int)) ∨ (lb = 2 ∧ 2 ≤ i0 ∧ i0 ≤ 9 ∧ 2 ≤ i1 ∧ i1 ≤ 7 ∧ 0 ≤ i3 ∧ i3 ≤ 5040 ∧ 2 * (5040 - i3) + 60 ≤ (k : Int)) ∨ (lb = 3 ∧ 2 ≤ i0 ∧ i0 ≤ 9 ∧ 2 ≤ i1 ∧ i1 ≤ 7 ∧ 0 ≤ i3 ∧ i3 < 5040 ∧ 2 * (5040 - i3) + 59 ≤ (k : Int))) → Ok (g_X5_roots k lb S 0 i0 i1 i2 i3) (fun r S' => Hp (T5 n nd tl rp im E) N S' ∧ True) := by
  intro k
  induction k with
  | zero => intro lb S i0 i1 i2 i3 hS hp; exfalso; omega
  | succ k ih =>
    intro lb S i0 i1 i2 i3 hS hp
    rcases hp with ⟨rfl, hp⟩ | ⟨rfl, hp⟩ | ⟨rfl, hp⟩ | ⟨rfl, hp⟩
    · show Ok (b_X5_roots_0 (g_X5_roots k) k S 0 i0 i1 i2 i3) _
      unfold b_X5_roots_0
      repeat' (first
        | (refine ok_dead ?_; omega)
        | exact ok_some ⟨hS, by first | trivial | omega⟩
        | exact ih 1 _ _ _ _ _ hS (Or.inr (Or.inl ⟨rfl, by omega⟩))
        | exact ih 2 _ _ _ _ _ hS (Or.inr (Or.inr (Or.inl ⟨rfl, by omega⟩)))
        | (refine ok_bd2 (tf_X4_setToFirst (G := T5 n nd tl rp im E) (by omega) rfl tR_id (fun L i x hx hL => tR_set hx L hL) hS (by first | trivial | omega)) (fun _ _ hQ => ?_); obtain ⟨hS, hQ⟩ := hQ)
        | refine ok_bindE (by assumption) (fun _ => ?_)
        | refine ok_bindE (hF _ _ _ _ (by assumption)) (fun _ => ?_)
        | refine ok_is hS (by omega) rfl ?_
        | refine ok_rdFp hS (by omega) rfl rfl ?_
        | refine ok_rdFiE hS (by omega) rfl rfl (fun _ _ _ _ => ?_)
        | refine ok_rdFz hS (by omega) rfl rfl (fun _ => ?_)
        | refine ok_rdFl hS (by omega) rfl rfl (fun _ => ?_)
        | refine ok_rdA hS (by omega) rfl tR_id (by omega) (by omega) (by omega) (fun _ _ _ => ?_)
        | refine ok_rdA hS (by omega) rfl sl_R (by omega) (by omega) (by omega) (fun _ _ _ => ?_)
        | refine ok_rdW hS (by omega) rfl (by omega) (by omega) (by omega) (fun _ => ?_)
        | refine ok_wrAE hS (by omega) rfl (by omega) (by omega) (by omega) (fun L _ hL => tR_set (by omega) L hL) (fun _ hS hF => ?_)
        | refine ok_wrAE hS (by omega) rfl (by omega) (by omega) (by omega) (fun _ _ _ => trivial) (fun _ hS hF => ?_)
        | refine ok_wrF hS (by omega) rfl rfl (⟨_, rfl⟩ : fZ _) (fun _ hS => ?_)
        | refine ok_wrF hS (by omega) rfl rfl (⟨_, rfl⟩ : fL _) (fun _ hS => ?_)
        | refine ok_wrFE hS (by omega) rfl rfl (by omega) (fun _ hS _ => ?_)
        | (refine ok_if (fun hc => ?_) (fun hc => ?_) <;> try simp (disch := omega) only [wIn] at hc))
    · show Ok (b_X5_roots_1 (g_X5_roots k) k S 0 i0 i1 i2 i3) _
      unfold b_X5_roots_1
      repeat' (first
        | (refine ok_dead ?_; omega)
        | exact ok_some ⟨hS, by first | trivial | omega⟩
        | (refine ok_bd2 (tf_X5_refuseBad hN hn hS (by first | trivial | omega)) (fun _ _ hQ => ?_); obtain ⟨hS, hQ⟩ := hQ)
        | refine ok_bindE (by assumption) (fun _ => ?_)
        | refine ok_bindE (hF _ _ _ _ (by assumption)) (fun _ => ?_)
        | refine ok_is hS (by omega) rfl ?_
        | refine ok_rdFp hS (by omega) rfl rfl ?_
        | refine ok_rdFiE hS (by omega) rfl rfl (fun _ _ _ _ => ?_)
        | refine ok_rdFz hS (by omega) rfl rfl (fun _ => ?_)
        | refine ok_rdFl hS (by omega) rfl rfl (fun _ => ?_)
        | refine ok_rdA hS (by omega) rfl tR_id (by omega) (by omega) (by omega) (fun _ _ _ => ?_)
        | refine ok_rdA hS (by omega) rfl sl_R (by omega) (by omega) (by omega) (fun _ _ _ => ?_)
        | refine ok_rdW hS (by omega) rfl (by omega) (by omega) (by omega) (fun _ => ?_)
        | refine ok_wrAE hS (by omega) rfl (by omega) (by omega) (by omega) (fun L _ hL => tR_set (by omega) L hL) (fun _ hS hF => ?_)
        | refine ok_wrAE hS (by omega) rfl (by omega) (by omega) (by omega) (fun _ _ _ => trivial) (fun _ hS hF => ?_)
        | refine ok_wrF hS (by omega) rfl rfl (⟨_, rfl⟩ : fZ _) (fun _ hS => ?_)
        | refine ok_wrF hS (by omega) rfl rfl (⟨_, rfl⟩ : fL _) (fun _ hS => ?_)
        | refine ok_wrFE hS (by omega) rfl rfl (by omega) (fun _ hS _ => ?_)
        | (refine ok_if (fun hc => ?_) (fun hc => ?_) <;> try simp (disch := omega) only [wIn] at hc))
    · show Ok (b_X5_roots_2 (g_X5_roots k) k S 0 i0 i1 i2 i3) _
      unfold b_X5_roots_2
      repeat' (first
        | (refine ok_dead ?_; omega)
        | exact ok_some ⟨hS, by first | trivial | omega⟩
        | exact ih 3 _ _ _ _ _ hS (Or.inr (Or.inr (Or.inr (⟨rfl, by omega⟩))))
        | (refine ok_bd2 (tf_X4_isRoot (G := T5 n nd tl rp im E) (by omega) rfl tR_id (by omega) rfl sl_R hS (by first | trivial | omega)) (fun _ _ hQ => ?_); obtain ⟨rfl, hQ⟩ := hQ)
        | refine ok_bindE (by assumption) (fun _ => ?_)
        | refine ok_bindE (hF _ _ _ _ (by assumption)) (fun _ => ?_)
        | refine ok_is hS (by omega) rfl ?_
        | refine ok_rdFp hS (by omega) rfl rfl ?_
        | refine ok_rdFiE hS (by omega) rfl rfl (fun _ _ _ _ => ?_)
        | refine ok_rdFz hS (by omega) rfl rfl (fun _ => ?_)
        | refine ok_rdFl hS (by omega) rfl rfl (fun _ => ?_)
        | refine ok_rdA hS (by omega) rfl tR_id (by omega) (by omega) (by omega) (fun _ _ _ => ?_)
        | refine ok_rdA hS (by omega) rfl sl_R (by omega) (by omega) (by omega) (fun _ _ _ => ?_)
        | refine ok_rdW hS (by omega) rfl (by omega) (by omega) (by omega) (fun _ => ?_)
        | refine ok_wrAE hS (by omega) rfl (by omega) (by omega) (by omega) (fun L _ hL => tR_set (by omega) L hL) (fun _ hS hF => ?_)
        | refine ok_wrAE hS (by omega) rfl (by omega) (by omega) (by omega) (fun _ _ _ => trivial) (fun _ hS hF => ?_)
        | refine ok_wrF hS (by omega) rfl rfl (⟨_, rfl⟩ : fZ _) (fun _ hS => ?_)
        | refine ok_wrF hS (by omega) rfl rfl (⟨_, rfl⟩ : fL _) (fun _ hS => ?_)
        | refine ok_wrFE hS (by omega) rfl rfl (by omega) (fun _ hS _ => ?_)
        | refine ok_rdT (by omega) (by omega) (fun _ _ _ _ => ?_)
        | (refine ok_if (fun hc => ?_) (fun hc => ?_) <;> try simp (disch := omega) only [wIn] at hc))
    · show Ok (b_X5_roots_3 (g_X5_roots k) k S 0 i0 i1 i2 i3) _
      unfold b_X5_roots_3
      repeat' (first
        | (refine ok_dead ?_; omega)
        | exact ok_some ⟨hS, by first | trivial | omega⟩
        | exact ih 2 _ _ _ _ _ hS (Or.inr (Or.inr (Or.inl ⟨rfl, by omega⟩)))
        | (refine ok_bd2 (tf_X4_setToNext (G := T5 n nd tl rp im E) (by omega) rfl tR_id (fun L i x hx hL => tR_set hx L hL) hS (by first | trivial | omega)) (fun _ _ hQ => ?_); obtain ⟨hS, hQ⟩ := hQ)
        | refine ok_bindE (by assumption) (fun _ => ?_)
        | refine ok_bindE (hF _ _ _ _ (by assumption)) (fun _ => ?_)
        | refine ok_is hS (by omega) rfl ?_
        | refine ok_rdFp hS (by omega) rfl rfl ?_
        | refine ok_rdFiE hS (by omega) rfl rfl (fun _ _ _ _ => ?_)
        | refine ok_rdFz hS (by omega) rfl rfl (fun _ => ?_)
        | refine ok_rdFl hS (by omega) rfl rfl (fun _ => ?_)
        | refine ok_rdA hS (by omega) rfl tR_id (by omega) (by omega) (by omega) (fun _ _ _ => ?_)
        | refine ok_rdA hS (by omega) rfl sl_R (by omega) (by omega) (by omega) (fun _ _ _ => ?_)
        | refine ok_rdW hS (by omega) rfl (by omega) (by omega) (by omega) (fun _ => ?_)
        | refine ok_wrAE hS (by omega) rfl (by omega) (by omega) (by omega) (fun L _ hL => tR_set (by omega) L hL) (fun _ hS hF => ?_)
        | refine ok_wrAE hS (by omega) rfl (by omega) (by omega) (by omega) (fun _ _ _ => trivial) (fun _ hS hF => ?_)
        | refine ok_wrF hS (by omega) rfl rfl (⟨_, rfl⟩ : fZ _) (fun _ hS => ?_)
        | refine ok_wrF hS (by omega) rfl rfl (⟨_, rfl⟩ : fL _) (fun _ hS => ?_)
        | refine ok_wrFE hS (by omega) rfl rfl (by omega) (fun _ hS _ => ?_)
        | (refine ok_if (fun hc => ?_) (fun hc => ?_) <;> try simp (disch := omega) only [wIn] at hc))
theorem tf_X5_roots   (hN : 26 ≤ N) (hn : 2 ≤ n ∧ n ≤ 7) {k : Nat} {S : xS} {i0 : Int} (hS : Hp (T5 n nd tl rp im E) N S) (hp : -2147483648 ≤ i0 ∧ i0 < 2147483648 ∧ 10200 ≤ (k : Int)) : Ok (f_X5_roots k S 0 i0) (fun r S' => Hp (T5 n nd tl rp im E) N S' ∧ True) :=
  tg_X5_roots hN hn k 0 S i0 0 0 0 hS (Or.inl ⟨rfl, hp⟩)
theorem tf_X5_alike   (hN : 26 ≤ N) (hn : 2 ≤ n ∧ n ≤ 7) {k : Nat} {S : xS} {i0 : Int} (hS : Hp (T5 n nd tl rp im E) N S) (hp : -2147483648 ≤ i0 ∧ i0 < 2147483648 ∧ 40 ≤ (k : Int)) : Ok (f_X5_alike k S 0 i0) (fun r S' => Hp (T5 n nd tl rp im E) N S' ∧ True) := by
  unfold f_X5_alike
  repeat' (first
    | (refine ok_dead ?_; omega)
    | exact ok_some ⟨hS, by first | trivial | omega⟩
    | (refine ok_bd2 (tf_X5_isNoRank hN hn hS (by first | trivial | omega)) (fun _ _ hQ => ?_); obtain ⟨rfl, hQ⟩ := hQ)
    | (refine ok_bd2 (tf_X4_setToRank (G := T5 n nd tl rp im E) (by omega) rfl tR_id (fun L i x hx hL => tR_set hx L hL) hS (by first | trivial | omega)) (fun _ _ hQ => ?_); obtain ⟨hS, hQ⟩ := hQ)
    | (refine ok_bd2 (tf_X4_ringMark (G := T5 n nd tl rp im E) (by omega) rfl tR_id hS (by first | trivial | omega)) (fun _ _ hQ => ?_); obtain ⟨rfl, hQ⟩ := hQ)
    | (refine ok_bd2 (tf_X4_ringMark (G := T5 n nd tl rp im E) (by omega) rfl sl_R hS (by first | trivial | omega)) (fun _ _ hQ => ?_); obtain ⟨rfl, hQ⟩ := hQ)
    | (refine ok_bd2 (tf_X5_refuseBad hN hn hS (by first | trivial | omega)) (fun _ _ hQ => ?_); obtain ⟨hS, hQ⟩ := hQ)
    | refine ok_bindE (by assumption) (fun _ => ?_)
    | refine ok_bindE (hF _ _ _ _ (by assumption)) (fun _ => ?_)
    | refine ok_is hS (by omega) rfl ?_
    | refine ok_rdFp hS (by omega) rfl rfl ?_
    | refine ok_rdFiE hS (by omega) rfl rfl (fun _ _ _ _ => ?_)
    | refine ok_rdFz hS (by omega) rfl rfl (fun _ => ?_)
    | refine ok_rdFl hS (by omega) rfl rfl (fun _ => ?_)
    | refine ok_rdA hS (by omega) rfl tR_id (by omega) (by omega) (by omega) (fun _ _ _ => ?_)
    | refine ok_rdA hS (by omega) rfl sl_R (by omega) (by omega) (by omega) (fun _ _ _ => ?_)
    | refine ok_rdW hS (by omega) rfl (by omega) (by omega) (by omega) (fun _ => ?_)
    | refine ok_wrAE hS (by omega) rfl (by omega) (by omega) (by omega) (fun L _ hL => tR_set (by omega) L hL) (fun _ hS hF => ?_)
    | refine ok_wrAE hS (by omega) rfl (by omega) (by omega) (by omega) (fun _ _ _ => trivial) (fun _ hS hF => ?_)
    | refine ok_wrF hS (by omega) rfl rfl (⟨_, rfl⟩ : fZ _) (fun _ hS => ?_)
    | refine ok_wrF hS (by omega) rfl rfl (⟨_, rfl⟩ : fL _) (fun _ hS => ?_)
    | refine ok_wrFE hS (by omega) rfl rfl (by omega) (fun _ hS _ => ?_)
    | (refine ok_if (fun hc => ?_) (fun hc => ?_) <;> try simp (disch := omega) only [wIn] at hc))
theorem tf_X5_even   (hN : 26 ≤ N) (hn : 2 ≤ n ∧ n ≤ 7) {k : Nat} {S : xS} (hS : Hp (T5 n nd tl rp im E) N S) (hp : 100 ≤ (k : Int)) : Ok (f_X5_even k S 0) (fun r S' => Hp (T5 n nd tl rp im E) N S' ∧ True) := by
  unfold f_X5_even
  repeat' (first
    | (refine ok_dead ?_; omega)
    | exact ok_some ⟨hS, by first | trivial | omega⟩
    | (refine ok_bd2 (tf_X4_ringCount (G := T5 n nd tl rp im E) (by omega) rfl sl_R hS (by first | trivial | omega)) (fun _ _ hQ => ?_); obtain ⟨rfl, hQ⟩ := hQ)
    | refine ok_bindE (by assumption) (fun _ => ?_)
    | refine ok_bindE (hF _ _ _ _ (by assumption)) (fun _ => ?_)
    | refine ok_is hS (by omega) rfl ?_
    | refine ok_rdFp hS (by omega) rfl rfl ?_
    | refine ok_rdFiE hS (by omega) rfl rfl (fun _ _ _ _ => ?_)
    | refine ok_rdFz hS (by omega) rfl rfl (fun _ => ?_)
    | refine ok_rdFl hS (by omega) rfl rfl (fun _ => ?_)
    | refine ok_rdA hS (by omega) rfl tR_id (by omega) (by omega) (by omega) (fun _ _ _ => ?_)
    | refine ok_rdA hS (by omega) rfl sl_R (by omega) (by omega) (by omega) (fun _ _ _ => ?_)
    | refine ok_rdW hS (by omega) rfl (by omega) (by omega) (by omega) (fun _ => ?_)
    | refine ok_wrAE hS (by omega) rfl (by omega) (by omega) (by omega) (fun L _ hL => tR_set (by omega) L hL) (fun _ hS hF => ?_)
    | refine ok_wrAE hS (by omega) rfl (by omega) (by omega) (by omega) (fun _ _ _ => trivial) (fun _ hS hF => ?_)
    | refine ok_wrF hS (by omega) rfl rfl (⟨_, rfl⟩ : fZ _) (fun _ hS => ?_)
    | refine ok_wrF hS (by omega) rfl rfl (⟨_, rfl⟩ : fL _) (fun _ hS => ?_)
    | refine ok_wrFE hS (by omega) rfl rfl (by omega) (fun _ hS _ => ?_)
    | (refine ok_if (fun hc => ?_) (fun hc => ?_) <;> try simp (disch := omega) only [wIn] at hc))
theorem tg_X5_mayBe   (hN : 26 ≤ N) (hn : 2 ≤ n ∧ n ≤ 7) : ∀ (k lb : Nat) (S : xS) (i0 : Int) (i1 : Int) (i2 : Int) (i3 : Int), Hp (T5 n nd tl rp im E) N S → ((lb = 0 ∧ -2147483648 ≤ i0 ∧ i0 < 2147483648 ∧ 10200 ≤ (k : Int)) ∨ (lb = 1 ∧ -2147483648 ≤ i0 ∧ i0 < 2147483648 ∧ 2 ≤ i1 ∧ i1 ≤ 7 ∧ 0 ≤ i3 ∧ i3 ≤ 5040 ∧ 2 * (5040 - i3) + 72 ≤ (k : Int)) ∨ (lb = 2 ∧ -2147483648 ≤ i0 ∧ i0 < 2147483648 ∧ 2 ≤ i1 ∧ i1 ≤ 7 ∧ 0 ≤ i3 ∧ i3 < 5040 ∧ 2 * (5040 - i3) + 71 ≤ (k : Int))) → Ok (g_X5_mayBe k lb S 0 i0 i1 i2 i3) (fun r S' => Hp (T5 n nd tl rp im E) N S' ∧ True) := by
  intro k
  induction k with
  | zero => intro lb S i0 i1 i2 i3 hS hp; exfalso; omega
  | succ k ih =>
    intro lb S i0 i1 i2 i3 hS hp
    rcases hp with ⟨rfl, hp⟩ | ⟨rfl, hp⟩ | ⟨rfl, hp⟩
    · show Ok (b_X5_mayBe_0 (g_X5_mayBe k) k S 0 i0 i1 i2 i3) _
      unfold b_X5_mayBe_0
      repeat' (first
        | (refine ok_dead ?_; omega)
        | exact ok_some ⟨hS, by first | trivial | omega⟩
        | exact ih 1 _ _ _ _ _ hS (Or.inr (Or.inl ⟨rfl, by omega⟩))
        | (refine ok_bd2 (tf_X4_setToFirst (G := T5 n nd tl rp im E) (by omega) rfl tR_id (fun L i x hx hL => tR_set hx L hL) hS (by first | trivial | omega)) (fun _ _ hQ => ?_); obtain ⟨hS, hQ⟩ := hQ)
        | (refine ok_bd2 (tf_X5_refuseQuestion hN hn hS (by first | trivial | omega)) (fun _ _ hQ => ?_); obtain ⟨hS, hQ⟩ := hQ)
        | refine ok_bindE (by assumption) (fun _ => ?_)
        | refine ok_bindE (hF _ _ _ _ (by assumption)) (fun _ => ?_)
        | refine ok_is hS (by omega) rfl ?_
        | refine ok_rdFp hS (by omega) rfl rfl ?_
        | refine ok_rdFiE hS (by omega) rfl rfl (fun _ _ _ _ => ?_)
        | refine ok_rdFz hS (by omega) rfl rfl (fun _ => ?_)
        | refine ok_rdFl hS (by omega) rfl rfl (fun _ => ?_)
        | refine ok_rdA hS (by omega) rfl tR_id (by omega) (by omega) (by omega) (fun _ _ _ => ?_)
        | refine ok_rdA hS (by omega) rfl sl_R (by omega) (by omega) (by omega) (fun _ _ _ => ?_)
        | refine ok_rdW hS (by omega) rfl (by omega) (by omega) (by omega) (fun _ => ?_)
        | refine ok_wrAE hS (by omega) rfl (by omega) (by omega) (by omega) (fun L _ hL => tR_set (by omega) L hL) (fun _ hS hF => ?_)
        | refine ok_wrAE hS (by omega) rfl (by omega) (by omega) (by omega) (fun _ _ _ => trivial) (fun _ hS hF => ?_)
        | refine ok_wrF hS (by omega) rfl rfl (⟨_, rfl⟩ : fZ _) (fun _ hS => ?_)
        | refine ok_wrF hS (by omega) rfl rfl (⟨_, rfl⟩ : fL _) (fun _ hS => ?_)
        | refine ok_wrFE hS (by omega) rfl rfl (by omega) (fun _ hS _ => ?_)
        | (refine ok_if (fun hc => ?_) (fun hc => ?_) <;> try simp (disch := omega) only [wIn] at hc))
    · show Ok (b_X5_mayBe_1 (g_X5_mayBe k) k S 0 i0 i1 i2 i3) _
      unfold b_X5_mayBe_1
      repeat' (first
        | (refine ok_dead ?_; omega)
        | exact ok_some ⟨hS, by first | trivial | omega⟩
        | exact ih 2 _ _ _ _ _ hS (Or.inr (Or.inr (⟨rfl, by omega⟩)))
        | (refine ok_bd2 (tf_X5_mayTrialBe hN hn hS (by first | trivial | omega)) (fun _ _ hQ => ?_); obtain ⟨hS, hQ⟩ := hQ)
        | refine ok_bindE (by assumption) (fun _ => ?_)
        | refine ok_bindE (hF _ _ _ _ (by assumption)) (fun _ => ?_)
        | refine ok_is hS (by omega) rfl ?_
        | refine ok_rdFp hS (by omega) rfl rfl ?_
        | refine ok_rdFiE hS (by omega) rfl rfl (fun _ _ _ _ => ?_)
        | refine ok_rdFz hS (by omega) rfl rfl (fun _ => ?_)
        | refine ok_rdFl hS (by omega) rfl rfl (fun _ => ?_)
        | refine ok_rdA hS (by omega) rfl tR_id (by omega) (by omega) (by omega) (fun _ _ _ => ?_)
        | refine ok_rdA hS (by omega) rfl sl_R (by omega) (by omega) (by omega) (fun _ _ _ => ?_)
        | refine ok_rdW hS (by omega) rfl (by omega) (by omega) (by omega) (fun _ => ?_)
        | refine ok_wrAE hS (by omega) rfl (by omega) (by omega) (by omega) (fun L _ hL => tR_set (by omega) L hL) (fun _ hS hF => ?_)
        | refine ok_wrAE hS (by omega) rfl (by omega) (by omega) (by omega) (fun _ _ _ => trivial) (fun _ hS hF => ?_)
        | refine ok_wrF hS (by omega) rfl rfl (⟨_, rfl⟩ : fZ _) (fun _ hS => ?_)
        | refine ok_wrF hS (by omega) rfl rfl (⟨_, rfl⟩ : fL _) (fun _ hS => ?_)
        | refine ok_wrFE hS (by omega) rfl rfl (by omega) (fun _ hS _ => ?_)
        | refine ok_rdT (by omega) (by omega) (fun _ _ _ _ => ?_)
        | (refine ok_if (fun hc => ?_) (fun hc => ?_) <;> try simp (disch := omega) only [wIn] at hc))
    · show Ok (b_X5_mayBe_2 (g_X5_mayBe k) k S 0 i0 i1 i2 i3) _
      unfold b_X5_mayBe_2
      repeat' (first
        | (refine ok_dead ?_; omega)
        | exact ok_some ⟨hS, by first | trivial | omega⟩
        | exact ih 1 _ _ _ _ _ hS (Or.inr (Or.inl ⟨rfl, by omega⟩))
        | (refine ok_bd2 (tf_X4_setToNext (G := T5 n nd tl rp im E) (by omega) rfl tR_id (fun L i x hx hL => tR_set hx L hL) hS (by first | trivial | omega)) (fun _ _ hQ => ?_); obtain ⟨hS, hQ⟩ := hQ)
        | refine ok_bindE (by assumption) (fun _ => ?_)
        | refine ok_bindE (hF _ _ _ _ (by assumption)) (fun _ => ?_)
        | refine ok_is hS (by omega) rfl ?_
        | refine ok_rdFp hS (by omega) rfl rfl ?_
        | refine ok_rdFiE hS (by omega) rfl rfl (fun _ _ _ _ => ?_)
        | refine ok_rdFz hS (by omega) rfl rfl (fun _ => ?_)
        | refine ok_rdFl hS (by omega) rfl rfl (fun _ => ?_)
        | refine ok_rdA hS (by omega) rfl tR_id (by omega) (by omega) (by omega) (fun _ _ _ => ?_)
        | refine ok_rdA hS (by omega) rfl sl_R (by omega) (by omega) (by omega) (fun _ _ _ => ?_)
        | refine ok_rdW hS (by omega) rfl (by omega) (by omega) (by omega) (fun _ => ?_)
        | refine ok_wrAE hS (by omega) rfl (by omega) (by omega) (by omega) (fun L _ hL => tR_set (by omega) L hL) (fun _ hS hF => ?_)
        | refine ok_wrAE hS (by omega) rfl (by omega) (by omega) (by omega) (fun _ _ _ => trivial) (fun _ hS hF => ?_)
        | refine ok_wrF hS (by omega) rfl rfl (⟨_, rfl⟩ : fZ _) (fun _ hS => ?_)
        | refine ok_wrF hS (by omega) rfl rfl (⟨_, rfl⟩ : fL _) (fun _ hS => ?_)
        | refine ok_wrFE hS (by omega) rfl rfl (by omega) (fun _ hS _ => ?_)
        | (refine ok_if (fun hc => ?_) (fun hc => ?_) <;> try simp (disch := omega) only [wIn] at hc))
theorem tf_X5_mayBe   (hN : 26 ≤ N) (hn : 2 ≤ n ∧ n ≤ 7) {k : Nat} {S : xS} {i0 : Int} (hS : Hp (T5 n nd tl rp im E) N S) (hp : -2147483648 ≤ i0 ∧ i0 < 2147483648 ∧ 10200 ≤ (k : Int)) : Ok (f_X5_mayBe k S 0 i0) (fun r S' => Hp (T5 n nd tl rp im E) N S' ∧ True) :=
  tg_X5_mayBe hN hn k 0 S i0 0 0 0 hS (Or.inl ⟨rfl, hp⟩)
theorem tg_X5_chance   (hN : 26 ≤ N) (hn : 2 ≤ n ∧ n ≤ 7) : ∀ (k lb : Nat) (S : xS) (i0 : Int) (i1 : Int) (i2 : Int) (i3 : Int) (i4 : Int) (i5 : Int), Hp (T5 n nd tl rp im E) N S → ((lb = 0 ∧ -2147483648 ≤ i0 ∧ i0 < 2147483648 ∧ 15300 ≤ (k : Int)) ∨ (lb = 1 ∧ 1 ≤ (k : Int)) ∨ (lb = 2 ∧ 2 ≤ i1 ∧ i1 ≤ 7 ∧ 0 ≤ i4 ∧ i4 ≤ 5040 ∧ 3 * (5040 - i4) + 110 ≤ (k : Int)) ∨ (lb = 3 ∧ 2 ≤ i1 ∧ i1 ≤ 7 ∧ 0 ≤ i3 ∧ i3 < 5040 ∧ 3 * (5040 - i3) + 109 ≤ (k : Int)) ∨ (lb = 4 ∧ 2 ≤ i1 ∧ i1 ≤ 7 ∧ 0 ≤ i4 ∧ i4 < 5040 ∧ 3 * (5040 - i4) + 108 ≤ (k : Int))) → Ok (g_X5_chance k lb S 0 i0 i1 i2 i3 i4 i5) (fun r S' => Hp (T5 n nd tl rp im E) N S' ∧ True) := by
  intro k
  induction k with
  | zero => intro lb S i0 i1 i2 i3 i4 i5 hS hp; exfalso; omega
  | succ k ih =>
    intro lb S i0 i1 i2 i3 i4 i5 hS hp
    rcases hp with ⟨rfl, hp⟩ | ⟨rfl, hp⟩ | ⟨rfl, hp⟩ | ⟨rfl, hp⟩ | ⟨rfl, hp⟩
    · show Ok (b_X5_chance_0 (g_X5_chance k) k S 0 i0 i1 i2 i3 i4 i5) _
      unfold b_X5_chance_0
      repeat' (first
        | (refine ok_dead ?_; omega)
        | exact ok_some ⟨hS, by first | trivial | omega⟩
        | exact ih 1 _ _ _ _ _ _ _ hS (Or.inr (Or.inl ⟨rfl, by omega⟩))
        | exact ih 2 _ _ _ _ _ _ _ hS (Or.inr (Or.inr (Or.inl ⟨rfl, by omega⟩)))
        | (refine ok_bd2 (tf_X4_setToFirst (G := T5 n nd tl rp im E) (by omega) rfl tR_id (fun L i x hx hL => tR_set hx L hL) hS (by first | trivial | omega)) (fun _ _ hQ => ?_); obtain ⟨hS, hQ⟩ := hQ)
        | refine ok_bindE (by assumption) (fun _ => ?_)
        | refine ok_bindE (hF _ _ _ _ (by assumption)) (fun _ => ?_)
        | refine ok_is hS (by omega) rfl ?_
        | refine ok_rdFp hS (by omega) rfl rfl ?_
        | refine ok_rdFiE hS (by omega) rfl rfl (fun _ _ _ _ => ?_)
        | refine ok_rdFz hS (by omega) rfl rfl (fun _ => ?_)
        | refine ok_rdFl hS (by omega) rfl rfl (fun _ => ?_)
        | refine ok_rdA hS (by omega) rfl tR_id (by omega) (by omega) (by omega) (fun _ _ _ => ?_)
        | refine ok_rdA hS (by omega) rfl sl_R (by omega) (by omega) (by omega) (fun _ _ _ => ?_)
        | refine ok_rdW hS (by omega) rfl (by omega) (by omega) (by omega) (fun _ => ?_)
        | refine ok_wrAE hS (by omega) rfl (by omega) (by omega) (by omega) (fun L _ hL => tR_set (by omega) L hL) (fun _ hS hF => ?_)
        | refine ok_wrAE hS (by omega) rfl (by omega) (by omega) (by omega) (fun _ _ _ => trivial) (fun _ hS hF => ?_)
        | refine ok_wrF hS (by omega) rfl rfl (⟨_, rfl⟩ : fZ _) (fun _ hS => ?_)
        | refine ok_wrF hS (by omega) rfl rfl (⟨_, rfl⟩ : fL _) (fun _ hS => ?_)
        | refine ok_wrFE hS (by omega) rfl rfl (by omega) (fun _ hS _ => ?_)
        | (refine ok_if (fun hc => ?_) (fun hc => ?_) <;> try simp (disch := omega) only [wIn] at hc))
    · show Ok (b_X5_chance_1 (g_X5_chance k) k S 0 i0 i1 i2 i3 i4 i5) _
      unfold b_X5_chance_1
      repeat' (first
        | (refine ok_dead ?_; omega)
        | exact ok_some ⟨hS, by first | trivial | omega⟩
        | (refine ok_bd2 (tf_X5_refuseBad hN hn hS (by first | trivial | omega)) (fun _ _ hQ => ?_); obtain ⟨hS, hQ⟩ := hQ)
        | refine ok_bindE (by assumption) (fun _ => ?_)
        | refine ok_bindE (hF _ _ _ _ (by assumption)) (fun _ => ?_)
        | refine ok_is hS (by omega) rfl ?_
        | refine ok_rdFp hS (by omega) rfl rfl ?_
        | refine ok_rdFiE hS (by omega) rfl rfl (fun _ _ _ _ => ?_)
        | refine ok_rdFz hS (by omega) rfl rfl (fun _ => ?_)
        | refine ok_rdFl hS (by omega) rfl rfl (fun _ => ?_)
        | refine ok_rdA hS (by omega) rfl tR_id (by omega) (by omega) (by omega) (fun _ _ _ => ?_)
        | refine ok_rdA hS (by omega) rfl sl_R (by omega) (by omega) (by omega) (fun _ _ _ => ?_)
        | refine ok_rdW hS (by omega) rfl (by omega) (by omega) (by omega) (fun _ => ?_)
        | refine ok_wrAE hS (by omega) rfl (by omega) (by omega) (by omega) (fun L _ hL => tR_set (by omega) L hL) (fun _ hS hF => ?_)
        | refine ok_wrAE hS (by omega) rfl (by omega) (by omega) (by omega) (fun _ _ _ => trivial) (fun _ hS hF => ?_)
        | refine ok_wrF hS (by omega) rfl rfl (⟨_, rfl⟩ : fZ _) (fun _ hS => ?_)
        | refine ok_wrF hS (by omega) rfl rfl (⟨_, rfl⟩ : fL _) (fun _ hS => ?_)
        | refine ok_wrFE hS (by omega) rfl rfl (by omega) (fun _ hS _ => ?_)
        | (refine ok_if (fun hc => ?_) (fun hc => ?_) <;> try simp (disch := omega) only [wIn] at hc))
    · show Ok (b_X5_chance_2 (g_X5_chance k) k S 0 i0 i1 i2 i3 i4 i5) _
      unfold b_X5_chance_2
      repeat' (first
        | (refine ok_dead ?_; omega)
        | exact ok_some ⟨hS, by first | trivial | omega⟩
        | exact ih 3 _ _ _ _ _ _ _ hS (Or.inr (Or.inr (Or.inr (Or.inl ⟨rfl, by omega⟩))))
        | exact ih 4 _ _ _ _ _ _ _ hS (Or.inr (Or.inr (Or.inr (Or.inr (⟨rfl, by omega⟩)))))
        | (refine ok_bd2 (tf_X5_refuseNo hN hn hS (by first | trivial | omega)) (fun _ _ hQ => ?_); obtain ⟨hS, hQ⟩ := hQ)
        | (refine ok_bd2 (tf_X5_setFraction hN hn hS (by first | trivial | omega)) (fun _ _ hQ => ?_); obtain ⟨hS, hQ⟩ := hQ)
        | (refine ok_bd2 (tf_X5_mayTrialBe hN hn hS (by first | trivial | omega)) (fun _ _ hQ => ?_); obtain ⟨hS, hQ⟩ := hQ)
        | (refine ok_bd2 (tf_X5_doTheseFind hN hn q1 g1 r1 h1 hS (by first | trivial | omega)) (fun _ _ hQ => ?_); obtain ⟨hS, hQ⟩ := hQ)
        | (refine ok_bd2 (tf_X5_doTheseFind hN hn (by omega) rfl sl_R (by omega) hS (by first | trivial | omega)) (fun _ _ hQ => ?_); obtain ⟨hS, hQ⟩ := hQ)
        | (refine ok_bd2 (tf_X5_doTheseFind hN hn (by omega) rfl tR_id (by omega) hS (by first | trivial | omega)) (fun _ _ hQ => ?_); obtain ⟨hS, hQ⟩ := hQ)
        | refine ok_bindE (by assumption) (fun _ => ?_)
        | refine ok_bindE (hF _ _ _ _ (by assumption)) (fun _ => ?_)
        | refine ok_is hS (by omega) rfl ?_
        | refine ok_rdFp hS (by omega) rfl rfl ?_
        | refine ok_rdFiE hS (by omega) rfl rfl (fun _ _ _ _ => ?_)
        | refine ok_rdFz hS (by omega) rfl rfl (fun _ => ?_)
        | refine ok_rdFl hS (by omega) rfl rfl (fun _ => ?_)
        | refine ok_rdA hS (by omega) rfl tR_id (by omega) (by omega) (by omega) (fun _ _ _ => ?_)
        | refine ok_rdA hS (by omega) rfl sl_R (by omega) (by omega) (by omega) (fun _ _ _ => ?_)
        | refine ok_rdW hS (by omega) rfl (by omega) (by omega) (by omega) (fun _ => ?_)
        | refine ok_wrAE hS (by omega) rfl (by omega) (by omega) (by omega) (fun L _ hL => tR_set (by omega) L hL) (fun _ hS hF => ?_)
        | refine ok_wrAE hS (by omega) rfl (by omega) (by omega) (by omega) (fun _ _ _ => trivial) (fun _ hS hF => ?_)
        | refine ok_wrF hS (by omega) rfl rfl (⟨_, rfl⟩ : fZ _) (fun _ hS => ?_)
        | refine ok_wrF hS (by omega) rfl rfl (⟨_, rfl⟩ : fL _) (fun _ hS => ?_)
        | refine ok_wrFE hS (by omega) rfl rfl (by omega) (fun _ hS _ => ?_)
        | refine ok_rdT (by omega) (by omega) (fun _ _ _ _ => ?_)
        | (refine ok_if (fun hc => ?_) (fun hc => ?_) <;> try simp (disch := omega) only [wIn] at hc))
    · show Ok (b_X5_chance_3 (g_X5_chance k) k S 0 i0 i1 i2 i3 i4 i5) _
      unfold b_X5_chance_3
      repeat' (first
        | (refine ok_dead ?_; omega)
        | exact ok_some ⟨hS, by first | trivial | omega⟩
        | exact ih 4 _ _ _ _ _ _ _ hS (Or.inr (Or.inr (Or.inr (Or.inr (⟨rfl, by omega⟩)))))
        | refine ok_bindE (by assumption) (fun _ => ?_)
        | refine ok_bindE (hF _ _ _ _ (by assumption)) (fun _ => ?_)
        | refine ok_is hS (by omega) rfl ?_
        | refine ok_rdFp hS (by omega) rfl rfl ?_
        | refine ok_rdFiE hS (by omega) rfl rfl (fun _ _ _ _ => ?_)
        | refine ok_rdFz hS (by omega) rfl rfl (fun _ => ?_)
        | refine ok_rdFl hS (by omega) rfl rfl (fun _ => ?_)
        | refine ok_rdA hS (by omega) rfl tR_id (by omega) (by omega) (by omega) (fun _ _ _ => ?_)
        | refine ok_rdA hS (by omega) rfl sl_R (by omega) (by omega) (by omega) (fun _ _ _ => ?_)
        | refine ok_rdW hS (by omega) rfl (by omega) (by omega) (by omega) (fun _ => ?_)
        | refine ok_wrAE hS (by omega) rfl (by omega) (by omega) (by omega) (fun L _ hL => tR_set (by omega) L hL) (fun _ hS hF => ?_)
        | refine ok_wrAE hS (by omega) rfl (by omega) (by omega) (by omega) (fun _ _ _ => trivial) (fun _ hS hF => ?_)
        | refine ok_wrF hS (by omega) rfl rfl (⟨_, rfl⟩ : fZ _) (fun _ hS => ?_)
        | refine ok_wrF hS (by omega) rfl rfl (⟨_, rfl⟩ : fL _) (fun _ hS => ?_)
        | refine ok_wrFE hS (by omega) rfl rfl (by omega) (fun _ hS _ => ?_)
        | (refine ok_if (fun hc => ?_) (fun hc => ?_) <;> try simp (disch := omega) only [wIn] at hc))
    · show Ok (b_X5_chance_4 (g_X5_chance k) k S 0 i0 i1 i2 i3 i4 i5) _
      unfold b_X5_chance_4
      repeat' (first
        | (refine ok_dead ?_; omega)
        | exact ok_some ⟨hS, by first | trivial | omega⟩
        | exact ih 2 _ _ _ _ _ _ _ hS (Or.inr (Or.inr (Or.inl ⟨rfl, by omega⟩)))
        | (refine ok_bd2 (tf_X4_setToNext (G := T5 n nd tl rp im E) (by omega) rfl tR_id (fun L i x hx hL => tR_set hx L hL) hS (by first | trivial | omega)) (fun _ _ hQ => ?_); obtain ⟨hS, hQ⟩ := hQ)
        | refine ok_bindE (by assumption) (fun _ => ?_)
        | refine ok_bindE (hF _ _ _ _ (by assumption)) (fun _ => ?_)
        | refine ok_is hS (by omega) rfl ?_
        | refine ok_rdFp hS (by omega) rfl rfl ?_
        | refine ok_rdFiE hS (by omega) rfl rfl (fun _ _ _ _ => ?_)
        | refine ok_rdFz hS (by omega) rfl rfl (fun _ => ?_)
        | refine ok_rdFl hS (by omega) rfl rfl (fun _ => ?_)
        | refine ok_rdA hS (by omega) rfl tR_id (by omega) (by omega) (by omega) (fun _ _ _ => ?_)
        | refine ok_rdA hS (by omega) rfl sl_R (by omega) (by omega) (by omega) (fun _ _ _ => ?_)
        | refine ok_rdW hS (by omega) rfl (by omega) (by omega) (by omega) (fun _ => ?_)
        | refine ok_wrAE hS (by omega) rfl (by omega) (by omega) (by omega) (fun L _ hL => tR_set (by omega) L hL) (fun _ hS hF => ?_)
        | refine ok_wrAE hS (by omega) rfl (by omega) (by omega) (by omega) (fun _ _ _ => trivial) (fun _ hS hF => ?_)
        | refine ok_wrF hS (by omega) rfl rfl (⟨_, rfl⟩ : fZ _) (fun _ hS => ?_)
        | refine ok_wrF hS (by omega) rfl rfl (⟨_, rfl⟩ : fL _) (fun _ hS => ?_)
        | refine ok_wrFE hS (by omega) rfl rfl (by omega) (fun _ hS _ => ?_)
        | (refine ok_if (fun hc => ?_) (fun hc => ?_) <;> try simp (disch := omega) only [wIn] at hc))
theorem tf_X5_chance   (hN : 26 ≤ N) (hn : 2 ≤ n ∧ n ≤ 7) {k : Nat} {S : xS} {i0 : Int} (hS : Hp (T5 n nd tl rp im E) N S) (hp : -2147483648 ≤ i0 ∧ i0 < 2147483648 ∧ 15300 ≤ (k : Int)) : Ok (f_X5_chance k S 0 i0) (fun r S' => Hp (T5 n nd tl rp im E) N S' ∧ True) :=
  tg_X5_chance hN hn k 0 S i0 0 0 0 0 0 hS (Or.inl ⟨rfl, hp⟩)
theorem tg_X5_tallySlips   (hN : 26 ≤ N) (hn : 2 ≤ n ∧ n ≤ 7) : ∀ (k lb : Nat) (S : xS) (i0 : Int) (i1 : Int) (i2 : Int) (i3 : Int), Hp (T5 n nd tl rp im E) N S → ((lb = 0 ∧ 60600 ≤ (k : Int)) ∨ (lb = 1 ∧ 2 ≤ i0 ∧ i0 ≤ 7 ∧ 0 ≤ i2 ∧ i2 ≤ 5040 ∧ 12 * (5040 - i2) + 70 ≤ (k : Int)) ∨ (lb = 2 ∧ 2 ≤ i0 ∧ i0 ≤ 7 ∧ 0 ≤ i2 ∧ i2 < 5040 ∧ 0 ≤ i3 ∧ i3 ≤ i0 ∧ 12 * (5039 - i2) + 72 + (i0 - i3) ≤ (k : Int)) ∨ (lb = 3 ∧ 2 ≤ i0 ∧ i0 ≤ 7 ∧ 0 ≤ i2 ∧ i2 < 5040 ∧ 12 * (5039 - i2) + 71 ≤ (k : Int))) → Ok (g_X5_tallySlips k lb S 0 i0 i1 i2 i3) (fun r S' => Hp (T5 n nd tl rp im E) N S' ∧ True) := by
  intro k
  induction k with
  | zero => intro lb S i0 i1 i2 i3 hS hp; exfalso; omega
  | succ k ih =>
    intro lb S i0 i1 i2 i3 hS hp
    rcases hp with ⟨rfl, hp⟩ | ⟨rfl, hp⟩ | ⟨rfl, hp⟩ | ⟨rfl, hp⟩
    · show Ok (b_X5_tallySlips_0 (g_X5_tallySlips k) k S 0 i0 i1 i2 i3) _
      unfold b_X5_tallySlips_0
      repeat' (first
        | (refine ok_dead ?_; omega)
        | exact ok_some ⟨hS, by first | trivial | omega⟩
        | exact ih 1 _ _ _ _ _ hS (Or.inr (Or.inl ⟨rfl, by omega⟩))
        | (refine ok_bd2 (tf_J7_fill_53178 (G := T5 n nd tl rp im E) (by omega) rfl (by omega) (fun _ _ _ => trivial) hS (by first | trivial | omega)) (fun _ _ hQ => ?_); obtain ⟨hS, hQ⟩ := hQ)
        | (refine ok_bd2 (tf_X4_setToFirst (G := T5 n nd tl rp im E) (by omega) rfl tR_id (fun L i x hx hL => tR_set hx L hL) hS (by first | trivial | omega)) (fun _ _ hQ => ?_); obtain ⟨hS, hQ⟩ := hQ)
        | refine ok_bindE (by assumption) (fun _ => ?_)
        | refine ok_bindE (hF _ _ _ _ (by assumption)) (fun _ => ?_)
        | refine ok_is hS (by omega) rfl ?_
        | refine ok_rdFp hS (by omega) rfl rfl ?_
        | refine ok_rdFiE hS (by omega) rfl rfl (fun _ _ _ _ => ?_)
        | refine ok_rdFz hS (by omega) rfl rfl (fun _ => ?_)
        | refine ok_rdFl hS (by omega) rfl rfl (fun _ => ?_)
        | refine ok_rdA hS (by omega) rfl tR_id (by omega) (by omega) (by omega) (fun _ _ _ => ?_)
        | refine ok_rdA hS (by omega) rfl sl_R (by omega) (by omega) (by omega) (fun _ _ _ => ?_)
        | refine ok_rdW hS (by omega) rfl (by omega) (by omega) (by omega) (fun _ => ?_)
        | refine ok_wrAE hS (by omega) rfl (by omega) (by omega) (by omega) (fun L _ hL => tR_set (by omega) L hL) (fun _ hS hF => ?_)
        | refine ok_wrAE hS (by omega) rfl (by omega) (by omega) (by omega) (fun _ _ _ => trivial) (fun _ hS hF => ?_)
        | refine ok_wrF hS (by omega) rfl rfl (⟨_, rfl⟩ : fZ _) (fun _ hS => ?_)
        | refine ok_wrF hS (by omega) rfl rfl (⟨_, rfl⟩ : fL _) (fun _ hS => ?_)
        | refine ok_wrFE hS (by omega) rfl rfl (by omega) (fun _ hS _ => ?_)
        | (refine ok_if (fun hc => ?_) (fun hc => ?_) <;> try simp (disch := omega) only [wIn] at hc))
    · show Ok (b_X5_tallySlips_1 (g_X5_tallySlips k) k S 0 i0 i1 i2 i3) _
      unfold b_X5_tallySlips_1
      repeat' (first
        | (refine ok_dead ?_; omega)
        | exact ok_some ⟨hS, by first | trivial | omega⟩
        | exact ih 2 _ _ _ _ _ hS (Or.inr (Or.inr (Or.inl ⟨rfl, by omega⟩)))
        | exact ih 3 _ _ _ _ _ hS (Or.inr (Or.inr (Or.inr (⟨rfl, by omega⟩))))
        | (refine ok_bd2 (tf_X5_mayTrialBe hN hn hS (by first | trivial | omega)) (fun _ _ hQ => ?_); obtain ⟨hS, hQ⟩ := hQ)
        | refine ok_bindE (by assumption) (fun _ => ?_)
        | refine ok_bindE (hF _ _ _ _ (by assumption)) (fun _ => ?_)
        | refine ok_is hS (by omega) rfl ?_
        | refine ok_rdFp hS (by omega) rfl rfl ?_
        | refine ok_rdFiE hS (by omega) rfl rfl (fun _ _ _ _ => ?_)
        | refine ok_rdFz hS (by omega) rfl rfl (fun _ => ?_)
        | refine ok_rdFl hS (by omega) rfl rfl (fun _ => ?_)
        | refine ok_rdA hS (by omega) rfl tR_id (by omega) (by omega) (by omega) (fun _ _ _ => ?_)
        | refine ok_rdA hS (by omega) rfl sl_R (by omega) (by omega) (by omega) (fun _ _ _ => ?_)
        | refine ok_rdW hS (by omega) rfl (by omega) (by omega) (by omega) (fun _ => ?_)
        | refine ok_wrAE hS (by omega) rfl (by omega) (by omega) (by omega) (fun L _ hL => tR_set (by omega) L hL) (fun _ hS hF => ?_)
        | refine ok_wrAE hS (by omega) rfl (by omega) (by omega) (by omega) (fun _ _ _ => trivial) (fun _ hS hF => ?_)
        | refine ok_wrF hS (by omega) rfl rfl (⟨_, rfl⟩ : fZ _) (fun _ hS => ?_)
        | refine ok_wrF hS (by omega) rfl rfl (⟨_, rfl⟩ : fL _) (fun _ hS => ?_)
        | refine ok_wrFE hS (by omega) rfl rfl (by omega) (fun _ hS _ => ?_)
        | refine ok_rdT (by omega) (by omega) (fun _ _ _ _ => ?_)
        | (refine ok_if (fun hc => ?_) (fun hc => ?_) <;> try simp (disch := omega) only [wIn] at hc))
    · show Ok (b_X5_tallySlips_2 (g_X5_tallySlips k) k S 0 i0 i1 i2 i3) _
      unfold b_X5_tallySlips_2
      repeat' (first
        | (refine ok_dead ?_; omega)
        | exact ok_some ⟨hS, by first | trivial | omega⟩
        | exact ih 2 _ _ _ _ _ hS (Or.inr (Or.inr (Or.inl ⟨rfl, by omega⟩)))
        | exact ih 3 _ _ _ _ _ hS (Or.inr (Or.inr (Or.inr (⟨rfl, by omega⟩))))
        | refine ok_bindE (by assumption) (fun _ => ?_)
        | refine ok_bindE (hF _ _ _ _ (by assumption)) (fun _ => ?_)
        | refine ok_is hS (by omega) rfl ?_
        | refine ok_rdFp hS (by omega) rfl rfl ?_
        | refine ok_rdFiE hS (by omega) rfl rfl (fun _ _ _ _ => ?_)
        | refine ok_rdFz hS (by omega) rfl rfl (fun _ => ?_)
        | refine ok_rdFl hS (by omega) rfl rfl (fun _ => ?_)
        | refine ok_rdA hS (by omega) rfl tR_id (by omega) (by omega) (by omega) (fun _ _ _ => ?_)
        | refine ok_rdA hS (by omega) rfl sl_R (by omega) (by omega) (by omega) (fun _ _ _ => ?_)
        | refine ok_rdW hS (by omega) rfl (by omega) (by omega) (by omega) (fun _ => ?_)
        | refine ok_wrAE hS (by omega) rfl (by omega) (by omega) (by omega) (fun L _ hL => tR_set (by omega) L hL) (fun _ hS hF => ?_)
        | refine ok_wrAE hS (by omega) rfl (by omega) (by omega) (by omega) (fun _ _ _ => trivial) (fun _ hS hF => ?_)
        | refine ok_wrF hS (by omega) rfl rfl (⟨_, rfl⟩ : fZ _) (fun _ hS => ?_)
        | refine ok_wrF hS (by omega) rfl rfl (⟨_, rfl⟩ : fL _) (fun _ hS => ?_)
        | refine ok_wrFE hS (by omega) rfl rfl (by omega) (fun _ hS _ => ?_)
        | (refine ok_if (fun hc => ?_) (fun hc => ?_) <;> try simp (disch := omega) only [wIn] at hc))
    · show Ok (b_X5_tallySlips_3 (g_X5_tallySlips k) k S 0 i0 i1 i2 i3) _
      unfold b_X5_tallySlips_3
      repeat' (first
        | (refine ok_dead ?_; omega)
        | exact ok_some ⟨hS, by first | trivial | omega⟩
        | exact ih 1 _ _ _ _ _ hS (Or.inr (Or.inl ⟨rfl, by omega⟩))
        | (refine ok_bd2 (tf_X4_setToNext (G := T5 n nd tl rp im E) (by omega) rfl tR_id (fun L i x hx hL => tR_set hx L hL) hS (by first | trivial | omega)) (fun _ _ hQ => ?_); obtain ⟨hS, hQ⟩ := hQ)
        | refine ok_bindE (by assumption) (fun _ => ?_)
        | refine ok_bindE (hF _ _ _ _ (by assumption)) (fun _ => ?_)
        | refine ok_is hS (by omega) rfl ?_
        | refine ok_rdFp hS (by omega) rfl rfl ?_
        | refine ok_rdFiE hS (by omega) rfl rfl (fun _ _ _ _ => ?_)
        | refine ok_rdFz hS (by omega) rfl rfl (fun _ => ?_)
        | refine ok_rdFl hS (by omega) rfl rfl (fun _ => ?_)
        | refine ok_rdA hS (by omega) rfl tR_id (by omega) (by omega) (by omega) (fun _ _ _ => ?_)
        | refine ok_rdA hS (by omega) rfl sl_R (by omega) (by omega) (by omega) (fun _ _ _ => ?_)
        | refine ok_rdW hS (by omega) rfl (by omega) (by omega) (by omega) (fun _ => ?_)
        | refine ok_wrAE hS (by omega) rfl (by omega) (by omega) (by omega) (fun L _ hL => tR_set (by omega) L hL) (fun _ hS hF => ?_)
        | refine ok_wrAE hS (by omega) rfl (by omega) (by omega) (by omega) (fun _ _ _ => trivial) (fun _ hS hF => ?_)
        | refine ok_wrF hS (by omega) rfl rfl (⟨_, rfl⟩ : fZ _) (fun _ hS => ?_)
        | refine ok_wrF hS (by omega) rfl rfl (⟨_, rfl⟩ : fL _) (fun _ hS => ?_)
        | refine ok_wrFE hS (by omega) rfl rfl (by omega) (fun _ hS _ => ?_)
        | (refine ok_if (fun hc => ?_) (fun hc => ?_) <;> try simp (disch := omega) only [wIn] at hc))
theorem tf_X5_tallySlips   (hN : 26 ≤ N) (hn : 2 ≤ n ∧ n ≤ 7) {k : Nat} {S : xS} (hS : Hp (T5 n nd tl rp im E) N S) (hp : 60600 ≤ (k : Int)) : Ok (f_X5_tallySlips k S 0) (fun r S' => Hp (T5 n nd tl rp im E) N S' ∧ True) :=
  tg_X5_tallySlips hN hn k 0 S 0 0 0 0 hS (Or.inl ⟨rfl, hp⟩)
theorem tg_X5_sumOfSquares   (hN : 26 ≤ N) (hn : 2 ≤ n ∧ n ≤ 7) : ∀ (k lb : Nat) (S : xS) (i0 : Int) (i1 : Int) (i2 : Int), Hp (T5 n nd tl rp im E) N S → ((lb = 0 ∧ 0 ≤ i0 ∧ i0 ≤ 6 ∧ n + 3 ≤ (k : Int)) ∨ (lb = 1 ∧ 0 ≤ i0 ∧ i0 ≤ 6 ∧ 0 ≤ i2 ∧ i2 ≤ n ∧ n - i2 + 1 ≤ (k : Int))) → Ok (g_X5_sumOfSquares k lb S 0 i0 i1 i2) (fun r S' => S' = S ∧ True) := by
  intro k
  induction k with
  | zero => intro lb S i0 i1 i2 hS hp; exfalso; omega
  | succ k ih =>
    intro lb S i0 i1 i2 hS hp
    rcases hp with ⟨rfl, hp⟩ | ⟨rfl, hp⟩
    · show Ok (b_X5_sumOfSquares_0 (g_X5_sumOfSquares k) k S 0 i0 i1 i2) _
      unfold b_X5_sumOfSquares_0
      repeat' (first
        | (refine ok_dead ?_; omega)
        | exact ok_some ⟨rfl, by first | trivial | omega⟩
        | exact ih 1 _ _ _ _ hS (Or.inr (⟨rfl, by omega⟩))
        | refine ok_bindE (by assumption) (fun _ => ?_)
        | refine ok_bindE (hF _ _ _ _ (by assumption)) (fun _ => ?_)
        | refine ok_is hS (by omega) rfl ?_
        | refine ok_rdFp hS (by omega) rfl rfl ?_
        | refine ok_rdFiE hS (by omega) rfl rfl (fun _ _ _ _ => ?_)
        | refine ok_rdFz hS (by omega) rfl rfl (fun _ => ?_)
        | refine ok_rdFl hS (by omega) rfl rfl (fun _ => ?_)
        | refine ok_rdA hS (by omega) rfl tR_id (by omega) (by omega) (by omega) (fun _ _ _ => ?_)
        | refine ok_rdA hS (by omega) rfl sl_R (by omega) (by omega) (by omega) (fun _ _ _ => ?_)
        | refine ok_rdW hS (by omega) rfl (by omega) (by omega) (by omega) (fun _ => ?_)
        | refine ok_wrAE hS (by omega) rfl (by omega) (by omega) (by omega) (fun L _ hL => tR_set (by omega) L hL) (fun _ hS hF => ?_)
        | refine ok_wrAE hS (by omega) rfl (by omega) (by omega) (by omega) (fun _ _ _ => trivial) (fun _ hS hF => ?_)
        | refine ok_wrF hS (by omega) rfl rfl (⟨_, rfl⟩ : fZ _) (fun _ hS => ?_)
        | refine ok_wrF hS (by omega) rfl rfl (⟨_, rfl⟩ : fL _) (fun _ hS => ?_)
        | refine ok_wrFE hS (by omega) rfl rfl (by omega) (fun _ hS _ => ?_)
        | (refine ok_if (fun hc => ?_) (fun hc => ?_) <;> try simp (disch := omega) only [wIn] at hc))
    · show Ok (b_X5_sumOfSquares_1 (g_X5_sumOfSquares k) k S 0 i0 i1 i2) _
      unfold b_X5_sumOfSquares_1
      repeat' (first
        | (refine ok_dead ?_; omega)
        | exact ok_some ⟨rfl, by first | trivial | omega⟩
        | exact ih 1 _ _ _ _ hS (Or.inr (⟨rfl, by omega⟩))
        | refine ok_bindE (by assumption) (fun _ => ?_)
        | refine ok_bindE (hF _ _ _ _ (by assumption)) (fun _ => ?_)
        | refine ok_is hS (by omega) rfl ?_
        | refine ok_rdFp hS (by omega) rfl rfl ?_
        | refine ok_rdFiE hS (by omega) rfl rfl (fun _ _ _ _ => ?_)
        | refine ok_rdFz hS (by omega) rfl rfl (fun _ => ?_)
        | refine ok_rdFl hS (by omega) rfl rfl (fun _ => ?_)
        | refine ok_rdA hS (by omega) rfl tR_id (by omega) (by omega) (by omega) (fun _ _ _ => ?_)
        | refine ok_rdA hS (by omega) rfl sl_R (by omega) (by omega) (by omega) (fun _ _ _ => ?_)
        | refine ok_rdW hS (by omega) rfl (by omega) (by omega) (by omega) (fun _ => ?_)
        | refine ok_wrAE hS (by omega) rfl (by omega) (by omega) (by omega) (fun L _ hL => tR_set (by omega) L hL) (fun _ hS hF => ?_)
        | refine ok_wrAE hS (by omega) rfl (by omega) (by omega) (by omega) (fun _ _ _ => trivial) (fun _ hS hF => ?_)
        | refine ok_wrF hS (by omega) rfl rfl (⟨_, rfl⟩ : fZ _) (fun _ hS => ?_)
        | refine ok_wrF hS (by omega) rfl rfl (⟨_, rfl⟩ : fL _) (fun _ hS => ?_)
        | refine ok_wrFE hS (by omega) rfl rfl (by omega) (fun _ hS _ => ?_)
        | (refine ok_if (fun hc => ?_) (fun hc => ?_) <;> try simp (disch := omega) only [wIn] at hc))
theorem tf_X5_sumOfSquares   (hN : 26 ≤ N) (hn : 2 ≤ n ∧ n ≤ 7) {k : Nat} {S : xS} {i0 : Int} (hS : Hp (T5 n nd tl rp im E) N S) (hp : 0 ≤ i0 ∧ i0 ≤ 6 ∧ n + 3 ≤ (k : Int)) : Ok (f_X5_sumOfSquares k S 0 i0) (fun r S' => S' = S ∧ True) :=
  tg_X5_sumOfSquares hN hn k 0 S i0 0 0 hS (Or.inl ⟨rfl, hp⟩)
theorem tg_X5_look   (hN : 26 ≤ N) (hn : 2 ≤ n ∧ n ≤ 7) : ∀ (k lb : Nat) (S : xS) (i0 : Int) (i1 : Int) (i2 : Int) (i3 : Int), Hp (T5 n nd tl rp im E) N S → ((lb = 0 ∧ 60700 ≤ (k : Int)) ∨ (lb = 1 ∧ 0 ≤ i3 ∧ i3 ≤ n ∧ 3 * (n - i3) + 110 ≤ (k : Int)) ∨ (lb = 2 ∧ 0 ≤ i1 ∧ i1 < n ∧ 3 * (n - i1) + 109 ≤ (k : Int)) ∨ (lb = 3 ∧ 0 ≤ i3 ∧ i3 < n ∧ 3 * (n - i3) + 108 ≤ (k : Int))) → Ok (g_X5_look k lb S 0 i0 i1 i2 i3) (fun r S' => Hp (T5 n nd tl rp im E) N S' ∧ True) := by
  intro k
  induction k with
  | zero => intro lb S i0 i1 i2 i3 hS hp; exfalso; omega
  | succ k ih =>
    intro lb S i0 i1 i2 i3 hS hp
    rcases hp with ⟨rfl, hp⟩ | ⟨rfl, hp⟩ | ⟨rfl, hp⟩ | ⟨rfl, hp⟩
    · show Ok (b_X5_look_0 (g_X5_look k) k S 0 i0 i1 i2 i3) _
      unfold b_X5_look_0
      repeat' (first
        | (refine ok_dead ?_; omega)
        | exact ok_some ⟨hS, by first | trivial | omega⟩
        | exact ih 1 _ _ _ _ _ hS (Or.inr (Or.inl ⟨rfl, by omega⟩))
        | (refine ok_bd2 (tf_X5_tallySlips hN hn hS (by first | trivial | omega)) (fun _ _ hQ => ?_); obtain ⟨hS, hQ⟩ := hQ)
        | (refine ok_bd2 (tf_X5_refuseNo hN hn hS (by first | trivial | omega)) (fun _ _ hQ => ?_); obtain ⟨hS, hQ⟩ := hQ)
        | refine ok_bindE (by assumption) (fun _ => ?_)
        | refine ok_bindE (hF _ _ _ _ (by assumption)) (fun _ => ?_)
        | refine ok_is hS (by omega) rfl ?_
        | refine ok_rdFp hS (by omega) rfl rfl ?_
        | refine ok_rdFiE hS (by omega) rfl rfl (fun _ _ _ _ => ?_)
        | refine ok_rdFz hS (by omega) rfl rfl (fun _ => ?_)
        | refine ok_rdFl hS (by omega) rfl rfl (fun _ => ?_)
        | refine ok_rdA hS (by omega) rfl tR_id (by omega) (by omega) (by omega) (fun _ _ _ => ?_)
        | refine ok_rdA hS (by omega) rfl sl_R (by omega) (by omega) (by omega) (fun _ _ _ => ?_)
        | refine ok_rdW hS (by omega) rfl (by omega) (by omega) (by omega) (fun _ => ?_)
        | refine ok_wrAE hS (by omega) rfl (by omega) (by omega) (by omega) (fun L _ hL => tR_set (by omega) L hL) (fun _ hS hF => ?_)
        | refine ok_wrAE hS (by omega) rfl (by omega) (by omega) (by omega) (fun _ _ _ => trivial) (fun _ hS hF => ?_)
        | refine ok_wrF hS (by omega) rfl rfl (⟨_, rfl⟩ : fZ _) (fun _ hS => ?_)
        | refine ok_wrF hS (by omega) rfl rfl (⟨_, rfl⟩ : fL _) (fun _ hS => ?_)
        | refine ok_wrFE hS (by omega) rfl rfl (by omega) (fun _ hS _ => ?_)
        | (refine ok_if (fun hc => ?_) (fun hc => ?_) <;> try simp (disch := omega) only [wIn] at hc))
    · show Ok (b_X5_look_1 (g_X5_look k) k S 0 i0 i1 i2 i3) _
      unfold b_X5_look_1
      repeat' (first
        | (refine ok_dead ?_; omega)
        | exact ok_some ⟨hS, by first | trivial | omega⟩
        | exact ih 2 _ _ _ _ _ hS (Or.inr (Or.inr (Or.inl ⟨rfl, by omega⟩)))
        | exact ih 3 _ _ _ _ _ hS (Or.inr (Or.inr (Or.inr (⟨rfl, by omega⟩))))
        | (refine ok_bd2 (tf_X5_setFraction hN hn hS (by first | trivial | omega)) (fun _ _ hQ => ?_); obtain ⟨hS, hQ⟩ := hQ)
        | (refine ok_bd2 (tf_X5_sumOfSquares hN hn hS (by first | trivial | omega)) (fun _ _ hQ => ?_); obtain ⟨rfl, hQ⟩ := hQ)
        | refine ok_bindE (by assumption) (fun _ => ?_)
        | refine ok_bindE (hF _ _ _ _ (by assumption)) (fun _ => ?_)
        | refine ok_is hS (by omega) rfl ?_
        | refine ok_rdFp hS (by omega) rfl rfl ?_
        | refine ok_rdFiE hS (by omega) rfl rfl (fun _ _ _ _ => ?_)
        | refine ok_rdFz hS (by omega) rfl rfl (fun _ => ?_)
        | refine ok_rdFl hS (by omega) rfl rfl (fun _ => ?_)
        | refine ok_rdA hS (by omega) rfl tR_id (by omega) (by omega) (by omega) (fun _ _ _ => ?_)
        | refine ok_rdA hS (by omega) rfl sl_R (by omega) (by omega) (by omega) (fun _ _ _ => ?_)
        | refine ok_rdW hS (by omega) rfl (by omega) (by omega) (by omega) (fun _ => ?_)
        | refine ok_wrAE hS (by omega) rfl (by omega) (by omega) (by omega) (fun L _ hL => tR_set (by omega) L hL) (fun _ hS hF => ?_)
        | refine ok_wrAE hS (by omega) rfl (by omega) (by omega) (by omega) (fun _ _ _ => trivial) (fun _ hS hF => ?_)
        | refine ok_wrF hS (by omega) rfl rfl (⟨_, rfl⟩ : fZ _) (fun _ hS => ?_)
        | refine ok_wrF hS (by omega) rfl rfl (⟨_, rfl⟩ : fL _) (fun _ hS => ?_)
        | refine ok_wrFE hS (by omega) rfl rfl (by omega) (fun _ hS _ => ?_)
        | (refine ok_if (fun hc => ?_) (fun hc => ?_) <;> try simp (disch := omega) only [wIn] at hc))
    · show Ok (b_X5_look_2 (g_X5_look k) k S 0 i0 i1 i2 i3) _
      unfold b_X5_look_2
      repeat' (first
        | (refine ok_dead ?_; omega)
        | exact ok_some ⟨hS, by first | trivial | omega⟩
        | exact ih 3 _ _ _ _ _ hS (Or.inr (Or.inr (Or.inr (⟨rfl, by omega⟩))))
        | refine ok_bindE (by assumption) (fun _ => ?_)
        | refine ok_bindE (hF _ _ _ _ (by assumption)) (fun _ => ?_)
        | refine ok_is hS (by omega) rfl ?_
        | refine ok_rdFp hS (by omega) rfl rfl ?_
        | refine ok_rdFiE hS (by omega) rfl rfl (fun _ _ _ _ => ?_)
        | refine ok_rdFz hS (by omega) rfl rfl (fun _ => ?_)
        | refine ok_rdFl hS (by omega) rfl rfl (fun _ => ?_)
        | refine ok_rdA hS (by omega) rfl tR_id (by omega) (by omega) (by omega) (fun _ _ _ => ?_)
        | refine ok_rdA hS (by omega) rfl sl_R (by omega) (by omega) (by omega) (fun _ _ _ => ?_)
        | refine ok_rdW hS (by omega) rfl (by omega) (by omega) (by omega) (fun _ => ?_)
        | refine ok_wrAE hS (by omega) rfl (by omega) (by omega) (by omega) (fun L _ hL => tR_set (by omega) L hL) (fun _ hS hF => ?_)
        | refine ok_wrAE hS (by omega) rfl (by omega) (by omega) (by omega) (fun _ _ _ => trivial) (fun _ hS hF => ?_)
        | refine ok_wrF hS (by omega) rfl rfl (⟨_, rfl⟩ : fZ _) (fun _ hS => ?_)
        | refine ok_wrF hS (by omega) rfl rfl (⟨_, rfl⟩ : fL _) (fun _ hS => ?_)
        | refine ok_wrFE hS (by omega) rfl rfl (by omega) (fun _ hS _ => ?_)
        | (refine ok_if (fun hc => ?_) (fun hc => ?_) <;> try simp (disch := omega) only [wIn] at hc))
    · show Ok (b_X5_look_3 (g_X5_look k) k S 0 i0 i1 i2 i3) _
      unfold b_X5_look_3
      repeat' (first
        | (refine ok_dead ?_; omega)
        | exact ok_some ⟨hS, by first | trivial | omega⟩
        | exact ih 1 _ _ _ _ _ hS (Or.inr (Or.inl ⟨rfl, by omega⟩))
        | refine ok_bindE (by assumption) (fun _ => ?_)
        | refine ok_bindE (hF _ _ _ _ (by assumption)) (fun _ => ?_)
        | refine ok_is hS (by omega) rfl ?_
        | refine ok_rdFp hS (by omega) rfl rfl ?_
        | refine ok_rdFiE hS (by omega) rfl rfl (fun _ _ _ _ => ?_)
        | refine ok_rdFz hS (by omega) rfl rfl (fun _ => ?_)
        | refine ok_rdFl hS (by omega) rfl rfl (fun _ => ?_)
        | refine ok_rdA hS (by omega) rfl tR_id (by omega) (by omega) (by omega) (fun _ _ _ => ?_)
        | refine ok_rdA hS (by omega) rfl sl_R (by omega) (by omega) (by omega) (fun _ _ _ => ?_)
        | refine ok_rdW hS (by omega) rfl (by omega) (by omega) (by omega) (fun _ => ?_)
        | refine ok_wrAE hS (by omega) rfl (by omega) (by omega) (by omega) (fun L _ hL => tR_set (by omega) L hL) (fun _ hS hF => ?_)
        | refine ok_wrAE hS (by omega) rfl (by omega) (by omega) (by omega) (fun _ _ _ => trivial) (fun _ hS hF => ?_)
        | refine ok_wrF hS (by omega) rfl rfl (⟨_, rfl⟩ : fZ _) (fun _ hS => ?_)
        | refine ok_wrF hS (by omega) rfl rfl (⟨_, rfl⟩ : fL _) (fun _ hS => ?_)
        | refine ok_wrFE hS (by omega) rfl rfl (by omega) (fun _ hS _ => ?_)
        | (refine ok_if (fun hc => ?_) (fun hc => ?_) <;> try simp (disch := omega) only [wIn] at hc))
theorem tf_X5_look   (hN : 26 ≤ N) (hn : 2 ≤ n ∧ n ≤ 7) {k : Nat} {S : xS} (hS : Hp (T5 n nd tl rp im E) N S) (hp : 60700 ≤ (k : Int)) : Ok (f_X5_look k S 0) (fun r S' => Hp (T5 n nd tl rp im E) N S' ∧ True) :=
  tg_X5_look hN hn k 0 S 0 0 0 0 hS (Or.inl ⟨rfl, hp⟩)
theorem tg_X5_tallyRules   (hN : 26 ≤ N) (hn : 2 ≤ n ∧ n ≤ 7) : ∀ (k lb : Nat) (S : xS) (p1 : Nat) (i0 : Int) (i1 : Int) (i2 : Int) (i3 : Int) (i4 : Int) (i5 : Int) (i6 : Int), Hp (T5 n nd tl rp im E) N S → ((lb = 0 ∧ 75800 ≤ (k : Int)) ∨ (lb = 1 ∧ 2 ≤ i0 ∧ i0 ≤ 7 ∧ 0 ≤ i2 ∧ i2 ≤ 5040 ∧ 15 * (5040 - i2) + 80 ≤ (k : Int)) ∨ (lb = 2 ∧ 2 ≤ i0 ∧ i0 ≤ 7 ∧ 0 ≤ i2 ∧ i2 < 5040 ∧ 0 ≤ i3 ∧ i3 ≤ 6 ∧ 15 * (5039 - i2) + 82 + 2 * (6 - i3) ≤ (k : Int)) ∨ (lb = 3 ∧ p1 = 25 ∧ 2 ≤ i0 ∧ i0 ≤ 7 ∧ 0 ≤ i2 ∧ i2 < 5040 ∧ 0 ≤ i3 ∧ i3 < 6 ∧ i4 = i3 ∧ 15 * (5039 - i2) + 81 + 2 * (6 - i3) ≤ (k : Int)) ∨ (lb = 4 ∧ 2 ≤ i0 ∧ i0 ≤ 7 ∧ 0 ≤ i2 ∧ i2 < 5040 ∧ 15 * (5039 - i2) + 81 ≤ (k : Int))) → Ok (g_X5_tallyRules k lb S 0 p1 i0 i1 i2 i3 i4 i5 i6) (fun r S' => Hp (T5 n nd tl rp im E) N S' ∧ True) := by
  intro k
  induction k with
  | zero => intro lb S p1 i0 i1 i2 i3 i4 i5 i6 hS hp; exfalso; omega
  | succ k ih =>
    intro lb S p1 i0 i1 i2 i3 i4 i5 i6 hS hp
    rcases hp with ⟨rfl, hp⟩ | ⟨rfl, hp⟩ | ⟨rfl, hp⟩ | ⟨rfl, hp⟩ | ⟨rfl, hp⟩
    · show Ok (b_X5_tallyRules_0 (g_X5_tallyRules k) k S 0 p1 i0 i1 i2 i3 i4 i5 i6) _
      unfold b_X5_tallyRules_0
      repeat' (first
        | (refine ok_dead ?_; omega)
        | exact ok_some ⟨hS, by first | trivial | omega⟩
        | exact ih 1 _ _ _ _ _ _ _ _ _ hS (Or.inr (Or.inl ⟨rfl, by omega⟩))
        | (refine ok_bd2 (tf_J7_fill_53178 (G := T5 n nd tl rp im E) (by omega) rfl (by omega) (fun _ _ _ => trivial) hS (by first | trivial | omega)) (fun _ _ hQ => ?_); obtain ⟨hS, hQ⟩ := hQ)
        | (refine ok_bd2 (tf_X4_setToFirst (G := T5 n nd tl rp im E) (by omega) rfl tR_id (fun L i x hx hL => tR_set hx L hL) hS (by first | trivial | omega)) (fun _ _ hQ => ?_); obtain ⟨hS, hQ⟩ := hQ)
        | (have hp1 : p1 = 25 := (by omega); subst hp1)
        | refine ok_bindE (by assumption) (fun _ => ?_)
        | refine ok_bindE (hF _ _ _ _ (by assumption)) (fun _ => ?_)
        | refine ok_is hS (by omega) rfl ?_
        | refine ok_rdFp hS (by omega) rfl rfl ?_
        | refine ok_rdFiE hS (by omega) rfl rfl (fun _ _ _ _ => ?_)
        | refine ok_rdFz hS (by omega) rfl rfl (fun _ => ?_)
        | refine ok_rdFl hS (by omega) rfl rfl (fun _ => ?_)
        | refine ok_rdA hS (by omega) rfl tR_id (by omega) (by omega) (by omega) (fun _ _ _ => ?_)
        | refine ok_rdA hS (by omega) rfl sl_R (by omega) (by omega) (by omega) (fun _ _ _ => ?_)
        | refine ok_rdW hS (by omega) rfl (by omega) (by omega) (by omega) (fun _ => ?_)
        | refine ok_wrAE hS (by omega) rfl (by omega) (by omega) (by omega) (fun L _ hL => tR_set (by omega) L hL) (fun _ hS hF => ?_)
        | refine ok_wrAE hS (by omega) rfl (by omega) (by omega) (by omega) (fun _ _ _ => trivial) (fun _ hS hF => ?_)
        | refine ok_wrF hS (by omega) rfl rfl (⟨_, rfl⟩ : fZ _) (fun _ hS => ?_)
        | refine ok_wrF hS (by omega) rfl rfl (⟨_, rfl⟩ : fL _) (fun _ hS => ?_)
        | refine ok_wrFE hS (by omega) rfl rfl (by omega) (fun _ hS _ => ?_)
        | (refine ok_if (fun hc => ?_) (fun hc => ?_) <;> try simp (disch := omega) only [wIn] at hc))
    · show Ok (b_X5_tallyRules_1 (g_X5_tallyRules k) k S 0 p1 i0 i1 i2 i3 i4 i5 i6) _
      unfold b_X5_tallyRules_1
      repeat' (first
        | (refine ok_dead ?_; omega)
        | exact ok_some ⟨hS, by first | trivial | omega⟩
        | exact ih 2 _ _ _ _ _ _ _ _ _ hS (Or.inr (Or.inr (Or.inl ⟨rfl, by omega⟩)))
        | exact ih 4 _ _ _ _ _ _ _ _ _ hS (Or.inr (Or.inr (Or.inr (Or.inr (⟨rfl, by omega⟩)))))
        | (refine ok_bd2 (tf_X5_mayTrialBe hN hn hS (by first | trivial | omega)) (fun _ _ hQ => ?_); obtain ⟨hS, hQ⟩ := hQ)
        | (have hp1 : p1 = 25 := (by omega); subst hp1)
        | refine ok_bindE (by assumption) (fun _ => ?_)
        | refine ok_bindE (hF _ _ _ _ (by assumption)) (fun _ => ?_)
        | refine ok_is hS (by omega) rfl ?_
        | refine ok_rdFp hS (by omega) rfl rfl ?_
        | refine ok_rdFiE hS (by omega) rfl rfl (fun _ _ _ _ => ?_)
        | refine ok_rdFz hS (by omega) rfl rfl (fun _ => ?_)
        | refine ok_rdFl hS (by omega) rfl rfl (fun _ => ?_)
        | refine ok_rdA hS (by omega) rfl tR_id (by omega) (by omega) (by omega) (fun _ _ _ => ?_)
        | refine ok_rdA hS (by omega) rfl sl_R (by omega) (by omega) (by omega) (fun _ _ _ => ?_)
        | refine ok_rdW hS (by omega) rfl (by omega) (by omega) (by omega) (fun _ => ?_)
        | refine ok_wrAE hS (by omega) rfl (by omega) (by omega) (by omega) (fun L _ hL => tR_set (by omega) L hL) (fun _ hS hF => ?_)
        | refine ok_wrAE hS (by omega) rfl (by omega) (by omega) (by omega) (fun _ _ _ => trivial) (fun _ hS hF => ?_)
        | refine ok_wrF hS (by omega) rfl rfl (⟨_, rfl⟩ : fZ _) (fun _ hS => ?_)
        | refine ok_wrF hS (by omega) rfl rfl (⟨_, rfl⟩ : fL _) (fun _ hS => ?_)
        | refine ok_wrFE hS (by omega) rfl rfl (by omega) (fun _ hS _ => ?_)
        | refine ok_rdT (by omega) (by omega) (fun _ _ _ _ => ?_)
        | (refine ok_if (fun hc => ?_) (fun hc => ?_) <;> try simp (disch := omega) only [wIn] at hc))
    · show Ok (b_X5_tallyRules_2 (g_X5_tallyRules k) k S 0 p1 i0 i1 i2 i3 i4 i5 i6) _
      unfold b_X5_tallyRules_2
      repeat' (first
        | (refine ok_dead ?_; omega)
        | exact ok_some ⟨hS, by first | trivial | omega⟩
        | exact ih 3 _ _ _ _ _ _ _ _ _ hS (Or.inr (Or.inr (Or.inr (Or.inl ⟨rfl, by omega⟩))))
        | exact ih 4 _ _ _ _ _ _ _ _ _ hS (Or.inr (Or.inr (Or.inr (Or.inr (⟨rfl, by omega⟩)))))
        | (refine ok_bd2 (tf_X5_doAllFindBy hN hn q1 g1 r1 h1 hS (by first | trivial | omega)) (fun _ _ hQ => ?_); obtain ⟨hS, hQ⟩ := hQ)
        | (refine ok_bd2 (tf_X5_doAllFindBy hN hn (by omega) rfl sl_R (by omega) hS (by first | trivial | omega)) (fun _ _ hQ => ?_); obtain ⟨hS, hQ⟩ := hQ)
        | (refine ok_bd2 (tf_X5_doAllFindBy hN hn (by omega) rfl tR_id (by omega) hS (by first | trivial | omega)) (fun _ _ hQ => ?_); obtain ⟨hS, hQ⟩ := hQ)
        | (have hp1 : p1 = 25 := (by omega); subst hp1)
        | refine ok_bindE (by assumption) (fun _ => ?_)
        | refine ok_bindE (hF _ _ _ _ (by assumption)) (fun _ => ?_)
        | refine ok_is hS (by omega) rfl ?_
        | refine ok_rdFp hS (by omega) rfl rfl ?_
        | refine ok_rdFiE hS (by omega) rfl rfl (fun _ _ _ _ => ?_)
        | refine ok_rdFz hS (by omega) rfl rfl (fun _ => ?_)
        | refine ok_rdFl hS (by omega) rfl rfl (fun _ => ?_)
        | refine ok_rdA hS (by omega) rfl tR_id (by omega) (by omega) (by omega) (fun _ _ _ => ?_)
        | refine ok_rdA hS (by omega) rfl sl_R (by omega) (by omega) (by omega) (fun _ _ _ => ?_)
        | refine ok_rdW hS (by omega) rfl (by omega) (by omega) (by omega) (fun _ => ?_)
        | refine ok_wrAE hS (by omega) rfl (by omega) (by omega) (by omega) (fun L _ hL => tR_set (by omega) L hL) (fun _ hS hF => ?_)
        | refine ok_wrAE hS (by omega) rfl (by omega) (by omega) (by omega) (fun _ _ _ => trivial) (fun _ hS hF => ?_)
        | refine ok_wrF hS (by omega) rfl rfl (⟨_, rfl⟩ : fZ _) (fun _ hS => ?_)
        | refine ok_wrF hS (by omega) rfl rfl (⟨_, rfl⟩ : fL _) (fun _ hS => ?_)
        | refine ok_wrFE hS (by omega) rfl rfl (by omega) (fun _ hS _ => ?_)
        | (refine ok_if (fun hc => ?_) (fun hc => ?_) <;> try simp (disch := omega) only [wIn] at hc))
    · show Ok (b_X5_tallyRules_3 (g_X5_tallyRules k) k S 0 p1 i0 i1 i2 i3 i4 i5 i6) _
      unfold b_X5_tallyRules_3
      repeat' (first
        | (refine ok_dead ?_; omega)
        | exact ok_some ⟨hS, by first | trivial | omega⟩
        | exact ih 2 _ _ _ _ _ _ _ _ _ hS (Or.inr (Or.inr (Or.inl ⟨rfl, by omega⟩)))
        | (have hp1 : p1 = 25 := (by omega); subst hp1)
        | refine ok_bindE (by assumption) (fun _ => ?_)
        | refine ok_bindE (hF _ _ _ _ (by assumption)) (fun _ => ?_)
        | refine ok_is hS (by omega) rfl ?_
        | refine ok_rdFp hS (by omega) rfl rfl ?_
        | refine ok_rdFiE hS (by omega) rfl rfl (fun _ _ _ _ => ?_)
        | refine ok_rdFz hS (by omega) rfl rfl (fun _ => ?_)
        | refine ok_rdFl hS (by omega) rfl rfl (fun _ => ?_)
        | refine ok_rdA hS (by omega) rfl tR_id (by omega) (by omega) (by omega) (fun _ _ _ => ?_)
        | refine ok_rdA hS (by omega) rfl sl_R (by omega) (by omega) (by omega) (fun _ _ _ => ?_)
        | refine ok_rdW hS (by omega) rfl (by omega) (by omega) (by omega) (fun _ => ?_)
        | refine ok_wrAE hS (by omega) rfl (by omega) (by omega) (by omega) (fun L _ hL => tR_set (by omega) L hL) (fun _ hS hF => ?_)
        | refine ok_wrAE hS (by omega) rfl (by omega) (by omega) (by omega) (fun _ _ _ => trivial) (fun _ hS hF => ?_)
        | refine ok_wrF hS (by omega) rfl rfl (⟨_, rfl⟩ : fZ _) (fun _ hS => ?_)
        | refine ok_wrF hS (by omega) rfl rfl (⟨_, rfl⟩ : fL _) (fun _ hS => ?_)
        | refine ok_wrFE hS (by omega) rfl rfl (by omega) (fun _ hS _ => ?_)
        | (refine ok_if (fun hc => ?_) (fun hc => ?_) <;> try simp (disch := omega) only [wIn] at hc))
    · show Ok (b_X5_tallyRules_4 (g_X5_tallyRules k) k S 0 p1 i0 i1 i2 i3 i4 i5 i6) _
      unfold b_X5_tallyRules_4
      repeat' (first
        | (refine ok_dead ?_; omega)
        | exact ok_some ⟨hS, by first | trivial | omega⟩
        | exact ih 1 _ _ _ _ _ _ _ _ _ hS (Or.inr (Or.inl ⟨rfl, by omega⟩))
        | (refine ok_bd2 (tf_X4_setToNext (G := T5 n nd tl rp im E) (by omega) rfl tR_id (fun L i x hx hL => tR_set hx L hL) hS (by first | trivial | omega)) (fun _ _ hQ => ?_); obtain ⟨hS, hQ⟩ := hQ)
        | (have hp1 : p1 = 25 := (by omega); subst hp1)
        | refine ok_bindE (by assumption) (fun _ => ?_)
        | refine ok_bindE (hF _ _ _ _ (by assumption)) (fun _ => ?_)
        | refine ok_is hS (by omega) rfl ?_
        | refine ok_rdFp hS (by omega) rfl rfl ?_
        | refine ok_rdFiE hS (by omega) rfl rfl (fun _ _ _ _ => ?_)
        | refine ok_rdFz hS (by omega) rfl rfl (fun _ => ?_)
        | refine ok_rdFl hS (by omega) rfl rfl (fun _ => ?_)
        | refine ok_rdA hS (by omega) rfl tR_id (by omega) (by omega) (by omega) (fun _ _ _ => ?_)
        | refine ok_rdA hS (by omega) rfl sl_R (by omega) (by omega) (by omega) (fun _ _ _ => ?_)
        | refine ok_rdW hS (by omega) rfl (by omega) (by omega) (by omega) (fun _ => ?_)
        | refine ok_wrAE hS (by omega) rfl (by omega) (by omega) (by omega) (fun L _ hL => tR_set (by omega) L hL) (fun _ hS hF => ?_)
        | refine ok_wrAE hS (by omega) rfl (by omega) (by omega) (by omega) (fun _ _ _ => trivial) (fun _ hS hF => ?_)
        | refine ok_wrF hS (by omega) rfl rfl (⟨_, rfl⟩ : fZ _) (fun _ hS => ?_)
        | refine ok_wrF hS (by omega) rfl rfl (⟨_, rfl⟩ : fL _) (fun _ hS => ?_)
        | refine ok_wrFE hS (by omega) rfl rfl (by omega) (fun _ hS _ => ?_)
        | (refine ok_if (fun hc => ?_) (fun hc => ?_) <;> try simp (disch := omega) only [wIn] at hc))
theorem tf_X5_tallyRules   (hN : 26 ≤ N) (hn : 2 ≤ n ∧ n ≤ 7) {k : Nat} {S : xS} (hS : Hp (T5 n nd tl rp im E) N S) (hp : 75800 ≤ (k : Int)) : Ok (f_X5_tallyRules k S 0) (fun r S' => Hp (T5 n nd tl rp im E) N S' ∧ True) :=
  tg_X5_tallyRules hN hn k 0 S 0 0 0 0 0 0 0 0 hS (Or.inl ⟨rfl, hp⟩)
theorem tg_X5_advice   (hN : 26 ≤ N) (hn : 2 ≤ n ∧ n ≤ 7) : ∀ (k lb : Nat) (S : xS) (i0 : Int) (i1 : Int) (i2 : Int), Hp (T5 n nd tl rp im E) N S → ((lb = 0 ∧ 76000 ≤ (k : Int)) ∨ (lb = 1 ∧ 0 ≤ i1 ∧ i1 ≤ 5 ∧ 1 ≤ i2 ∧ i2 ≤ 6 ∧ 2 * (6 - i2) + 110 ≤ (k : Int)) ∨ (lb = 2 ∧ 0 ≤ i1 ∧ i1 ≤ 5 ∧ 1 ≤ i2 ∧ i2 < 6 ∧ 2 * (6 - i2) + 109 ≤ (k : Int))) → Ok (g_X5_advice k lb S 0 i0 i1 i2) (fun r S' => Hp (T5 n nd tl rp im E) N S' ∧ True) := by
  intro k
  induction k with
  | zero => intro lb S i0 i1 i2 hS hp; exfalso; omega
  | succ k ih =>
    intro lb S i0 i1 i2 hS hp
    rcases hp with ⟨rfl, hp⟩ | ⟨rfl, hp⟩ | ⟨rfl, hp⟩
    · show Ok (b_X5_advice_0 (g_X5_advice k) k S 0 i0 i1 i2) _
      unfold b_X5_advice_0
      repeat' (first
        | (refine ok_dead ?_; omega)
        | exact ok_some ⟨hS, by first | trivial | omega⟩
        | exact ih 1 _ _ _ _ hS (Or.inr (Or.inl ⟨rfl, by omega⟩))
        | (refine ok_bd2 (tf_X5_tallyRules hN hn hS (by first | trivial | omega)) (fun _ _ hQ => ?_); obtain ⟨hS, hQ⟩ := hQ)
        | (refine ok_bd2 (tf_X5_refuseNo hN hn hS (by first | trivial | omega)) (fun _ _ hQ => ?_); obtain ⟨hS, hQ⟩ := hQ)
        | refine ok_bindE (by assumption) (fun _ => ?_)
        | refine ok_bindE (hF _ _ _ _ (by assumption)) (fun _ => ?_)
        | refine ok_is hS (by omega) rfl ?_
        | refine ok_rdFp hS (by omega) rfl rfl ?_
        | refine ok_rdFiE hS (by omega) rfl rfl (fun _ _ _ _ => ?_)
        | refine ok_rdFz hS (by omega) rfl rfl (fun _ => ?_)
        | refine ok_rdFl hS (by omega) rfl rfl (fun _ => ?_)
        | refine ok_rdA hS (by omega) rfl tR_id (by omega) (by omega) (by omega) (fun _ _ _ => ?_)
        | refine ok_rdA hS (by omega) rfl sl_R (by omega) (by omega) (by omega) (fun _ _ _ => ?_)
        | refine ok_rdW hS (by omega) rfl (by omega) (by omega) (by omega) (fun _ => ?_)
        | refine ok_wrAE hS (by omega) rfl (by omega) (by omega) (by omega) (fun L _ hL => tR_set (by omega) L hL) (fun _ hS hF => ?_)
        | refine ok_wrAE hS (by omega) rfl (by omega) (by omega) (by omega) (fun _ _ _ => trivial) (fun _ hS hF => ?_)
        | refine ok_wrF hS (by omega) rfl rfl (⟨_, rfl⟩ : fZ _) (fun _ hS => ?_)
        | refine ok_wrF hS (by omega) rfl rfl (⟨_, rfl⟩ : fL _) (fun _ hS => ?_)
        | refine ok_wrFE hS (by omega) rfl rfl (by omega) (fun _ hS _ => ?_)
        | (refine ok_if (fun hc => ?_) (fun hc => ?_) <;> try simp (disch := omega) only [wIn] at hc))
    · show Ok (b_X5_advice_1 (g_X5_advice k) k S 0 i0 i1 i2) _
      unfold b_X5_advice_1
      repeat' (first
        | (refine ok_dead ?_; omega)
        | exact ok_some ⟨hS, by first | trivial | omega⟩
        | exact ih 2 _ _ _ _ hS (Or.inr (Or.inr (⟨rfl, by omega⟩)))
        | (refine ok_bd2 (tf_X5_setFraction hN hn hS (by first | trivial | omega)) (fun _ _ hQ => ?_); obtain ⟨hS, hQ⟩ := hQ)
        | refine ok_bindE (by assumption) (fun _ => ?_)
        | refine ok_bindE (hF _ _ _ _ (by assumption)) (fun _ => ?_)
        | refine ok_is hS (by omega) rfl ?_
        | refine ok_rdFp hS (by omega) rfl rfl ?_
        | refine ok_rdFiE hS (by omega) rfl rfl (fun _ _ _ _ => ?_)
        | refine ok_rdFz hS (by omega) rfl rfl (fun _ => ?_)
        | refine ok_rdFl hS (by omega) rfl rfl (fun _ => ?_)
        | refine ok_rdA hS (by omega) rfl tR_id (by omega) (by omega) (by omega) (fun _ _ _ => ?_)
        | refine ok_rdA hS (by omega) rfl sl_R (by omega) (by omega) (by omega) (fun _ _ _ => ?_)
        | refine ok_rdW hS (by omega) rfl (by omega) (by omega) (by omega) (fun _ => ?_)
        | refine ok_wrAE hS (by omega) rfl (by omega) (by omega) (by omega) (fun L _ hL => tR_set (by omega) L hL) (fun _ hS hF => ?_)
        | refine ok_wrAE hS (by omega) rfl (by omega) (by omega) (by omega) (fun _ _ _ => trivial) (fun _ hS hF => ?_)
        | refine ok_wrF hS (by omega) rfl rfl (⟨_, rfl⟩ : fZ _) (fun _ hS => ?_)
        | refine ok_wrF hS (by omega) rfl rfl (⟨_, rfl⟩ : fL _) (fun _ hS => ?_)
        | refine ok_wrFE hS (by omega) rfl rfl (by omega) (fun _ hS _ => ?_)
        | (refine ok_if (fun hc => ?_) (fun hc => ?_) <;> try simp (disch := omega) only [wIn] at hc))
    · show Ok (b_X5_advice_2 (g_X5_advice k) k S 0 i0 i1 i2) _
      unfold b_X5_advice_2
      repeat' (first
        | (refine ok_dead ?_; omega)
        | exact ok_some ⟨hS, by first | trivial | omega⟩
        | exact ih 1 _ _ _ _ hS (Or.inr (Or.inl ⟨rfl, by omega⟩))
        | refine ok_bindE (by assumption) (fun _ => ?_)
        | refine ok_bindE (hF _ _ _ _ (by assumption)) (fun _ => ?_)
        | refine ok_is hS (by omega) rfl ?_
        | refine ok_rdFp hS (by omega) rfl rfl ?_
        | refine ok_rdFiE hS (by omega) rfl rfl (fun _ _ _ _ => ?_)
        | refine ok_rdFz hS (by omega) rfl rfl (fun _ => ?_)
        | refine ok_rdFl hS (by omega) rfl rfl (fun _ => ?_)
        | refine ok_rdA hS (by omega) rfl tR_id (by omega) (by omega) (by omega) (fun _ _ _ => ?_)
        | refine ok_rdA hS (by omega) rfl sl_R (by omega) (by omega) (by omega) (fun _ _ _ => ?_)
        | refine ok_rdW hS (by omega) rfl (by omega) (by omega) (by omega) (fun _ => ?_)
        | refine ok_wrAE hS (by omega) rfl (by omega) (by omega) (by omega) (fun L _ hL => tR_set (by omega) L hL) (fun _ hS hF => ?_)
        | refine ok_wrAE hS (by omega) rfl (by omega) (by omega) (by omega) (fun _ _ _ => trivial) (fun _ hS hF => ?_)
        | refine ok_wrF hS (by omega) rfl rfl (⟨_, rfl⟩ : fZ _) (fun _ hS => ?_)
        | refine ok_wrF hS (by omega) rfl rfl (⟨_, rfl⟩ : fL _) (fun _ hS => ?_)
        | refine ok_wrFE hS (by omega) rfl rfl (by omega) (fun _ hS _ => ?_)
        | (refine ok_if (fun hc => ?_) (fun hc => ?_) <;> try simp (disch := omega) only [wIn] at hc))
theorem tf_X5_advice   (hN : 26 ≤ N) (hn : 2 ≤ n ∧ n ≤ 7) {k : Nat} {S : xS} (hS : Hp (T5 n nd tl rp im E) N S) (hp : 76000 ≤ (k : Int)) : Ok (f_X5_advice k S 0) (fun r S' => Hp (T5 n nd tl rp im E) N S' ∧ True) :=
  tg_X5_advice hN hn k 0 S 0 0 0 hS (Or.inl ⟨rfl, hp⟩)
theorem tg_X5_worst   (hN : 26 ≤ N) (hn : 2 ≤ n ∧ n ≤ 7) : ∀ (k lb : Nat) (S : xS) (i0 : Int) (i1 : Int) (i2 : Int) (i3 : Int) (i4 : Int), Hp (T5 n nd tl rp im E) N S → ((lb = 0 ∧ -2147483648 ≤ i0 ∧ i0 < 2147483648 ∧ 15400 ≤ (k : Int)) ∨ (lb = 1 ∧ 15350 ≤ (k : Int)) ∨ (lb = 2 ∧ 2 ≤ i1 ∧ i1 ≤ 7 ∧ 0 ≤ i4 ∧ i4 ≤ 5040 ∧ 3 * (5040 - i4) + 80 ≤ (k : Int)) ∨ (lb = 3 ∧ 2 ≤ i1 ∧ i1 ≤ 7 ∧ 0 ≤ i2 ∧ i2 < 5040 ∧ 3 * (5040 - i2) + 79 ≤ (k : Int)) ∨ (lb = 4 ∧ 2 ≤ i1 ∧ i1 ≤ 7 ∧ 0 ≤ i4 ∧ i4 < 5040 ∧ 3 * (5040 - i4) + 78 ≤ (k : Int))) → Ok (g_X5_worst k lb S 0 i0 i1 i2 i3 i4) (fun r S' => Hp (T5 n nd tl rp im E) N S' ∧ True) := by
  intro k
  induction k with
  | zero => intro lb S i0 i1 i2 i3 i4 hS hp; exfalso; omega
  | succ k ih =>
    intro lb S i0 i1 i2 i3 i4 hS hp
    rcases hp with ⟨rfl, hp⟩ | ⟨rfl, hp⟩ | ⟨rfl, hp⟩ | ⟨rfl, hp⟩ | ⟨rfl, hp⟩
    · show Ok (b_X5_worst_0 (g_X5_worst k) k S 0 i0 i1 i2 i3 i4) _
      unfold b_X5_worst_0
      repeat' (first
        | (refine ok_dead ?_; omega)
        | exact ok_some ⟨hS, by first | trivial | omega⟩
        | exact ih 1 _ _ _ _ _ _ hS (Or.inr (Or.inl ⟨rfl, by omega⟩))
        | (refine ok_bd2 (tf_X5_refuseBad hN hn hS (by first | trivial | omega)) (fun _ _ hQ => ?_); obtain ⟨hS, hQ⟩ := hQ)
        | refine ok_bindE (by assumption) (fun _ => ?_)
        | refine ok_bindE (hF _ _ _ _ (by assumption)) (fun _ => ?_)
        | refine ok_is hS (by omega) rfl ?_
        | refine ok_rdFp hS (by omega) rfl rfl ?_
        | refine ok_rdFiE hS (by omega) rfl rfl (fun _ _ _ _ => ?_)
        | refine ok_rdFz hS (by omega) rfl rfl (fun _ => ?_)
        | refine ok_rdFl hS (by omega) rfl rfl (fun _ => ?_)
        | refine ok_rdA hS (by omega) rfl tR_id (by omega) (by omega) (by omega) (fun _ _ _ => ?_)
        | refine ok_rdA hS (by omega) rfl sl_R (by omega) (by omega) (by omega) (fun _ _ _ => ?_)
        | refine ok_rdW hS (by omega) rfl (by omega) (by omega) (by omega) (fun _ => ?_)
        | refine ok_wrAE hS (by omega) rfl (by omega) (by omega) (by omega) (fun L _ hL => tR_set (by omega) L hL) (fun _ hS hF => ?_)
        | refine ok_wrAE hS (by omega) rfl (by omega) (by omega) (by omega) (fun _ _ _ => trivial) (fun _ hS hF => ?_)
        | refine ok_wrF hS (by omega) rfl rfl (⟨_, rfl⟩ : fZ _) (fun _ hS => ?_)
        | refine ok_wrF hS (by omega) rfl rfl (⟨_, rfl⟩ : fL _) (fun _ hS => ?_)
        | refine ok_wrFE hS (by omega) rfl rfl (by omega) (fun _ hS _ => ?_)
        | (refine ok_if (fun hc => ?_) (fun hc => ?_) <;> try simp (disch := omega) only [wIn] at hc))
    · show Ok (b_X5_worst_1 (g_X5_worst k) k S 0 i0 i1 i2 i3 i4) _
      unfold b_X5_worst_1
      repeat' (first
        | (refine ok_dead ?_; omega)
        | exact ok_some ⟨hS, by first | trivial | omega⟩
        | exact ih 2 _ _ _ _ _ _ hS (Or.inr (Or.inr (Or.inl ⟨rfl, by omega⟩)))
        | (refine ok_bd2 (tf_X4_setToFirst (G := T5 n nd tl rp im E) (by omega) rfl tR_id (fun L i x hx hL => tR_set hx L hL) hS (by first | trivial | omega)) (fun _ _ hQ => ?_); obtain ⟨hS, hQ⟩ := hQ)
        | refine ok_bindE (by assumption) (fun _ => ?_)
        | refine ok_bindE (hF _ _ _ _ (by assumption)) (fun _ => ?_)
        | refine ok_is hS (by omega) rfl ?_
        | refine ok_rdFp hS (by omega) rfl rfl ?_
        | refine ok_rdFiE hS (by omega) rfl rfl (fun _ _ _ _ => ?_)
        | refine ok_rdFz hS (by omega) rfl rfl (fun _ => ?_)
        | refine ok_rdFl hS (by omega) rfl rfl (fun _ => ?_)
        | refine ok_rdA hS (by omega) rfl tR_id (by omega) (by omega) (by omega) (fun _ _ _ => ?_)
        | refine ok_rdA hS (by omega) rfl sl_R (by omega) (by omega) (by omega) (fun _ _ _ => ?_)
        | refine ok_rdW hS (by omega) rfl (by omega) (by omega) (by omega) (fun _ => ?_)
        | refine ok_wrAE hS (by omega) rfl (by omega) (by omega) (by omega) (fun L _ hL => tR_set (by omega) L hL) (fun _ hS hF => ?_)
        | refine ok_wrAE hS (by omega) rfl (by omega) (by omega) (by omega) (fun _ _ _ => trivial) (fun _ hS hF => ?_)
        | refine ok_wrF hS (by omega) rfl rfl (⟨_, rfl⟩ : fZ _) (fun _ hS => ?_)
        | refine ok_wrF hS (by omega) rfl rfl (⟨_, rfl⟩ : fL _) (fun _ hS => ?_)
        | refine ok_wrFE hS (by omega) rfl rfl (by omega) (fun _ hS _ => ?_)
        | (refine ok_if (fun hc => ?_) (fun hc => ?_) <;> try simp (disch := omega) only [wIn] at hc))
    · show Ok (b_X5_worst_2 (g_X5_worst k) k S 0 i0 i1 i2 i3 i4) _
      unfold b_X5_worst_2
      repeat' (first
        | (refine ok_dead ?_; omega)
        | exact ok_some ⟨hS, by first | trivial | omega⟩
        | exact ih 3 _ _ _ _ _ _ hS (Or.inr (Or.inr (Or.inr (Or.inl ⟨rfl, by omega⟩))))
        | exact ih 4 _ _ _ _ _ _ hS (Or.inr (Or.inr (Or.inr (Or.inr (⟨rfl, by omega⟩)))))
        | (refine ok_bd2 (tf_X5_refuseNo hN hn hS (by first | trivial | omega)) (fun _ _ hQ => ?_); obtain ⟨hS, hQ⟩ := hQ)
        | (refine ok_bd2 (tf_X5_mayTrialBe hN hn hS (by first | trivial | omega)) (fun _ _ hQ => ?_); obtain ⟨hS, hQ⟩ := hQ)
        | (refine ok_bd2 (tf_X5_findersIn hN hn q1 g1 r1 h1 hS (by first | trivial | omega)) (fun _ _ hQ => ?_); obtain ⟨hS, hQ⟩ := hQ)
        | (refine ok_bd2 (tf_X5_findersIn hN hn (by omega) rfl sl_R (by omega) hS (by first | trivial | omega)) (fun _ _ hQ => ?_); obtain ⟨hS, hQ⟩ := hQ)
        | (refine ok_bd2 (tf_X5_findersIn hN hn (by omega) rfl tR_id (by omega) hS (by first | trivial | omega)) (fun _ _ hQ => ?_); obtain ⟨hS, hQ⟩ := hQ)
        | (refine ok_bd2 (tf_J6_bitCount_0f7a4  hS (by first | trivial | omega)) (fun _ _ hQ => ?_); obtain ⟨rfl, hQ⟩ := hQ)
        | refine ok_bindE (by assumption) (fun _ => ?_)
        | refine ok_bindE (hF _ _ _ _ (by assumption)) (fun _ => ?_)
        | refine ok_is hS (by omega) rfl ?_
        | refine ok_rdFp hS (by omega) rfl rfl ?_
        | refine ok_rdFiE hS (by omega) rfl rfl (fun _ _ _ _ => ?_)
        | refine ok_rdFz hS (by omega) rfl rfl (fun _ => ?_)
        | refine ok_rdFl hS (by omega) rfl rfl (fun _ => ?_)
        | refine ok_rdA hS (by omega) rfl tR_id (by omega) (by omega) (by omega) (fun _ _ _ => ?_)
        | refine ok_rdA hS (by omega) rfl sl_R (by omega) (by omega) (by omega) (fun _ _ _ => ?_)
        | refine ok_rdW hS (by omega) rfl (by omega) (by omega) (by omega) (fun _ => ?_)
        | refine ok_wrAE hS (by omega) rfl (by omega) (by omega) (by omega) (fun L _ hL => tR_set (by omega) L hL) (fun _ hS hF => ?_)
        | refine ok_wrAE hS (by omega) rfl (by omega) (by omega) (by omega) (fun _ _ _ => trivial) (fun _ hS hF => ?_)
        | refine ok_wrF hS (by omega) rfl rfl (⟨_, rfl⟩ : fZ _) (fun _ hS => ?_)
        | refine ok_wrF hS (by omega) rfl rfl (⟨_, rfl⟩ : fL _) (fun _ hS => ?_)
        | refine ok_wrFE hS (by omega) rfl rfl (by omega) (fun _ hS _ => ?_)
        | refine ok_rdT (by omega) (by omega) (fun _ _ _ _ => ?_)
        | (refine ok_if (fun hc => ?_) (fun hc => ?_) <;> try simp (disch := omega) only [wIn] at hc))
    · show Ok (b_X5_worst_3 (g_X5_worst k) k S 0 i0 i1 i2 i3 i4) _
      unfold b_X5_worst_3
      repeat' (first
        | (refine ok_dead ?_; omega)
        | exact ok_some ⟨hS, by first | trivial | omega⟩
        | exact ih 4 _ _ _ _ _ _ hS (Or.inr (Or.inr (Or.inr (Or.inr (⟨rfl, by omega⟩)))))
        | refine ok_bindE (by assumption) (fun _ => ?_)
        | refine ok_bindE (hF _ _ _ _ (by assumption)) (fun _ => ?_)
        | refine ok_is hS (by omega) rfl ?_
        | refine ok_rdFp hS (by omega) rfl rfl ?_
        | refine ok_rdFiE hS (by omega) rfl rfl (fun _ _ _ _ => ?_)
        | refine ok_rdFz hS (by omega) rfl rfl (fun _ => ?_)
        | refine ok_rdFl hS (by omega) rfl rfl (fun _ => ?_)
        | refine ok_rdA hS (by omega) rfl tR_id (by omega) (by omega) (by omega) (fun _ _ _ => ?_)
        | refine ok_rdA hS (by omega) rfl sl_R (by omega) (by omega) (by omega) (fun _ _ _ => ?_)
        | refine ok_rdW hS (by omega) rfl (by omega) (by omega) (by omega) (fun _ => ?_)
        | refine ok_wrAE hS (by omega) rfl (by omega) (by omega) (by omega) (fun L _ hL => tR_set (by omega) L hL) (fun _ hS hF => ?_)
        | refine ok_wrAE hS (by omega) rfl (by omega) (by omega) (by omega) (fun _ _ _ => trivial) (fun _ hS hF => ?_)
        | refine ok_wrF hS (by omega) rfl rfl (⟨_, rfl⟩ : fZ _) (fun _ hS => ?_)
        | refine ok_wrF hS (by omega) rfl rfl (⟨_, rfl⟩ : fL _) (fun _ hS => ?_)
        | refine ok_wrFE hS (by omega) rfl rfl (by omega) (fun _ hS _ => ?_)
        | (refine ok_if (fun hc => ?_) (fun hc => ?_) <;> try simp (disch := omega) only [wIn] at hc))
    · show Ok (b_X5_worst_4 (g_X5_worst k) k S 0 i0 i1 i2 i3 i4) _
      unfold b_X5_worst_4
      repeat' (first
        | (refine ok_dead ?_; omega)
        | exact ok_some ⟨hS, by first | trivial | omega⟩
        | exact ih 2 _ _ _ _ _ _ hS (Or.inr (Or.inr (Or.inl ⟨rfl, by omega⟩)))
        | (refine ok_bd2 (tf_X4_setToNext (G := T5 n nd tl rp im E) (by omega) rfl tR_id (fun L i x hx hL => tR_set hx L hL) hS (by first | trivial | omega)) (fun _ _ hQ => ?_); obtain ⟨hS, hQ⟩ := hQ)
        | refine ok_bindE (by assumption) (fun _ => ?_)
        | refine ok_bindE (hF _ _ _ _ (by assumption)) (fun _ => ?_)
        | refine ok_is hS (by omega) rfl ?_
        | refine ok_rdFp hS (by omega) rfl rfl ?_
        | refine ok_rdFiE hS (by omega) rfl rfl (fun _ _ _ _ => ?_)
        | refine ok_rdFz hS (by omega) rfl rfl (fun _ => ?_)
        | refine ok_rdFl hS (by omega) rfl rfl (fun _ => ?_)
        | refine ok_rdA hS (by omega) rfl tR_id (by omega) (by omega) (by omega) (fun _ _ _ => ?_)
        | refine ok_rdA hS (by omega) rfl sl_R (by omega) (by omega) (by omega) (fun _ _ _ => ?_)
        | refine ok_rdW hS (by omega) rfl (by omega) (by omega) (by omega) (fun _ => ?_)
        | refine ok_wrAE hS (by omega) rfl (by omega) (by omega) (by omega) (fun L _ hL => tR_set (by omega) L hL) (fun _ hS hF => ?_)
        | refine ok_wrAE hS (by omega) rfl (by omega) (by omega) (by omega) (fun _ _ _ => trivial) (fun _ hS hF => ?_)
        | refine ok_wrF hS (by omega) rfl rfl (⟨_, rfl⟩ : fZ _) (fun _ hS => ?_)
        | refine ok_wrF hS (by omega) rfl rfl (⟨_, rfl⟩ : fL _) (fun _ hS => ?_)
        | refine ok_wrFE hS (by omega) rfl rfl (by omega) (fun _ hS _ => ?_)
        | (refine ok_if (fun hc => ?_) (fun hc => ?_) <;> try simp (disch := omega) only [wIn] at hc))
theorem tf_X5_worst   (hN : 26 ≤ N) (hn : 2 ≤ n ∧ n ≤ 7) {k : Nat} {S : xS} {i0 : Int} (hS : Hp (T5 n nd tl rp im E) N S) (hp : -2147483648 ≤ i0 ∧ i0 < 2147483648 ∧ 15400 ≤ (k : Int)) : Ok (f_X5_worst k S 0 i0) (fun r S' => Hp (T5 n nd tl rp im E) N S' ∧ True) :=
  tg_X5_worst hN hn k 0 S i0 0 0 0 0 hS (Or.inl ⟨rfl, hp⟩)
theorem tg_X5_mended   (hN : 26 ≤ N) (hn : 2 ≤ n ∧ n ≤ 7) : ∀ (k lb : Nat) (S : xS) (i0 : Int) (i1 : Int) (i2 : Int), Hp (T5 n nd tl rp im E) N S → ((lb = 0 ∧ 15400 ≤ (k : Int)) ∨ (lb = 1 ∧ 2 ≤ i0 ∧ i0 ≤ 7 ∧ 0 ≤ i2 ∧ i2 ≤ 5040 ∧ 3 * (5040 - i2) + 110 ≤ (k : Int)) ∨ (lb = 2 ∧ 2 ≤ i0 ∧ i0 ≤ 7 ∧ 0 ≤ i1 ∧ i1 < 5040 ∧ 3 * (5040 - i1) + 109 ≤ (k : Int)) ∨ (lb = 3 ∧ 2 ≤ i0 ∧ i0 ≤ 7 ∧ 0 ≤ i2 ∧ i2 < 5040 ∧ 3 * (5040 - i2) + 108 ≤ (k : Int))) → Ok (g_X5_mended k lb S 0 i0 i1 i2) (fun r S' => Hp (T5 n nd tl rp im E) N S' ∧ True) := by
  intro k
  induction k with
  | zero => intro lb S i0 i1 i2 hS hp; exfalso; omega
  | succ k ih =>
    intro lb S i0 i1 i2 hS hp
    rcases hp with ⟨rfl, hp⟩ | ⟨rfl, hp⟩ | ⟨rfl, hp⟩ | ⟨rfl, hp⟩
    · show Ok (b_X5_mended_0 (g_X5_mended k) k S 0 i0 i1 i2) _
      unfold b_X5_mended_0
      repeat' (first
        | (refine ok_dead ?_; omega)
        | exact ok_some ⟨hS, by first | trivial | omega⟩
        | exact ih 1 _ _ _ _ hS (Or.inr (Or.inl ⟨rfl, by omega⟩))
        | (refine ok_bd2 (tf_X4_setToFirst (G := T5 n nd tl rp im E) (by omega) rfl tR_id (fun L i x hx hL => tR_set hx L hL) hS (by first | trivial | omega)) (fun _ _ hQ => ?_); obtain ⟨hS, hQ⟩ := hQ)
        | refine ok_bindE (by assumption) (fun _ => ?_)
        | refine ok_bindE (hF _ _ _ _ (by assumption)) (fun _ => ?_)
        | refine ok_is hS (by omega) rfl ?_
        | refine ok_rdFp hS (by omega) rfl rfl ?_
        | refine ok_rdFiE hS (by omega) rfl rfl (fun _ _ _ _ => ?_)
        | refine ok_rdFz hS (by omega) rfl rfl (fun _ => ?_)
        | refine ok_rdFl hS (by omega) rfl rfl (fun _ => ?_)
        | refine ok_rdA hS (by omega) rfl tR_id (by omega) (by omega) (by omega) (fun _ _ _ => ?_)
        | refine ok_rdA hS (by omega) rfl sl_R (by omega) (by omega) (by omega) (fun _ _ _ => ?_)
        | refine ok_rdW hS (by omega) rfl (by omega) (by omega) (by omega) (fun _ => ?_)
        | refine ok_wrAE hS (by omega) rfl (by omega) (by omega) (by omega) (fun L _ hL => tR_set (by omega) L hL) (fun _ hS hF => ?_)
        | refine ok_wrAE hS (by omega) rfl (by omega) (by omega) (by omega) (fun _ _ _ => trivial) (fun _ hS hF => ?_)
        | refine ok_wrF hS (by omega) rfl rfl (⟨_, rfl⟩ : fZ _) (fun _ hS => ?_)
        | refine ok_wrF hS (by omega) rfl rfl (⟨_, rfl⟩ : fL _) (fun _ hS => ?_)
        | refine ok_wrFE hS (by omega) rfl rfl (by omega) (fun _ hS _ => ?_)
        | (refine ok_if (fun hc => ?_) (fun hc => ?_) <;> try simp (disch := omega) only [wIn] at hc))
    · show Ok (b_X5_mended_1 (g_X5_mended k) k S 0 i0 i1 i2) _
      unfold b_X5_mended_1
      repeat' (first
        | (refine ok_dead ?_; omega)
        | exact ok_some ⟨hS, by first | trivial | omega⟩
        | exact ih 2 _ _ _ _ hS (Or.inr (Or.inr (Or.inl ⟨rfl, by omega⟩)))
        | exact ih 3 _ _ _ _ hS (Or.inr (Or.inr (Or.inr (⟨rfl, by omega⟩))))
        | (refine ok_bd2 (tf_X5_doAllFind hN hn q1 g1 r1 h1 hS (by first | trivial | omega)) (fun _ _ hQ => ?_); obtain ⟨hS, hQ⟩ := hQ)
        | (refine ok_bd2 (tf_X5_doAllFind hN hn (by omega) rfl sl_R (by omega) hS (by first | trivial | omega)) (fun _ _ hQ => ?_); obtain ⟨hS, hQ⟩ := hQ)
        | (refine ok_bd2 (tf_X5_doAllFind hN hn (by omega) rfl tR_id (by omega) hS (by first | trivial | omega)) (fun _ _ hQ => ?_); obtain ⟨hS, hQ⟩ := hQ)
        | (refine ok_bd2 (tf_X4_swapsBetween (G := T5 n nd tl rp im E) (by omega) rfl sl_R (by omega) rfl tR_id hS (by first | trivial | omega)) (fun _ _ hQ => ?_); obtain ⟨rfl, hQ⟩ := hQ)
        | refine ok_bindE (by assumption) (fun _ => ?_)
        | refine ok_bindE (hF _ _ _ _ (by assumption)) (fun _ => ?_)
        | refine ok_is hS (by omega) rfl ?_
        | refine ok_rdFp hS (by omega) rfl rfl ?_
        | refine ok_rdFiE hS (by omega) rfl rfl (fun _ _ _ _ => ?_)
        | refine ok_rdFz hS (by omega) rfl rfl (fun _ => ?_)
        | refine ok_rdFl hS (by omega) rfl rfl (fun _ => ?_)
        | refine ok_rdA hS (by omega) rfl tR_id (by omega) (by omega) (by omega) (fun _ _ _ => ?_)
        | refine ok_rdA hS (by omega) rfl sl_R (by omega) (by omega) (by omega) (fun _ _ _ => ?_)
        | refine ok_rdW hS (by omega) rfl (by omega) (by omega) (by omega) (fun _ => ?_)
        | refine ok_wrAE hS (by omega) rfl (by omega) (by omega) (by omega) (fun L _ hL => tR_set (by omega) L hL) (fun _ hS hF => ?_)
        | refine ok_wrAE hS (by omega) rfl (by omega) (by omega) (by omega) (fun _ _ _ => trivial) (fun _ hS hF => ?_)
        | refine ok_wrF hS (by omega) rfl rfl (⟨_, rfl⟩ : fZ _) (fun _ hS => ?_)
        | refine ok_wrF hS (by omega) rfl rfl (⟨_, rfl⟩ : fL _) (fun _ hS => ?_)
        | refine ok_wrFE hS (by omega) rfl rfl (by omega) (fun _ hS _ => ?_)
        | refine ok_rdT (by omega) (by omega) (fun _ _ _ _ => ?_)
        | (refine ok_if (fun hc => ?_) (fun hc => ?_) <;> try simp (disch := omega) only [wIn] at hc))
    · show Ok (b_X5_mended_2 (g_X5_mended k) k S 0 i0 i1 i2) _
      unfold b_X5_mended_2
      repeat' (first
        | (refine ok_dead ?_; omega)
        | exact ok_some ⟨hS, by first | trivial | omega⟩
        | exact ih 3 _ _ _ _ hS (Or.inr (Or.inr (Or.inr (⟨rfl, by omega⟩))))
        | refine ok_bindE (by assumption) (fun _ => ?_)
        | refine ok_bindE (hF _ _ _ _ (by assumption)) (fun _ => ?_)
        | refine ok_is hS (by omega) rfl ?_
        | refine ok_rdFp hS (by omega) rfl rfl ?_
        | refine ok_rdFiE hS (by omega) rfl rfl (fun _ _ _ _ => ?_)
        | refine ok_rdFz hS (by omega) rfl rfl (fun _ => ?_)
        | refine ok_rdFl hS (by omega) rfl rfl (fun _ => ?_)
        | refine ok_rdA hS (by omega) rfl tR_id (by omega) (by omega) (by omega) (fun _ _ _ => ?_)
        | refine ok_rdA hS (by omega) rfl sl_R (by omega) (by omega) (by omega) (fun _ _ _ => ?_)
        | refine ok_rdW hS (by omega) rfl (by omega) (by omega) (by omega) (fun _ => ?_)
        | refine ok_wrAE hS (by omega) rfl (by omega) (by omega) (by omega) (fun L _ hL => tR_set (by omega) L hL) (fun _ hS hF => ?_)
        | refine ok_wrAE hS (by omega) rfl (by omega) (by omega) (by omega) (fun _ _ _ => trivial) (fun _ hS hF => ?_)
        | refine ok_wrF hS (by omega) rfl rfl (⟨_, rfl⟩ : fZ _) (fun _ hS => ?_)
        | refine ok_wrF hS (by omega) rfl rfl (⟨_, rfl⟩ : fL _) (fun _ hS => ?_)
        | refine ok_wrFE hS (by omega) rfl rfl (by omega) (fun _ hS _ => ?_)
        | (refine ok_if (fun hc => ?_) (fun hc => ?_) <;> try simp (disch := omega) only [wIn] at hc))
    · show Ok (b_X5_mended_3 (g_X5_mended k) k S 0 i0 i1 i2) _
      unfold b_X5_mended_3
      repeat' (first
        | (refine ok_dead ?_; omega)
        | exact ok_some ⟨hS, by first | trivial | omega⟩
        | exact ih 1 _ _ _ _ hS (Or.inr (Or.inl ⟨rfl, by omega⟩))
        | (refine ok_bd2 (tf_X4_setToNext (G := T5 n nd tl rp im E) (by omega) rfl tR_id (fun L i x hx hL => tR_set hx L hL) hS (by first | trivial | omega)) (fun _ _ hQ => ?_); obtain ⟨hS, hQ⟩ := hQ)
        | refine ok_bindE (by assumption) (fun _ => ?_)
        | refine ok_bindE (hF _ _ _ _ (by assumption)) (fun _ => ?_)
        | refine ok_is hS (by omega) rfl ?_
        | refine ok_rdFp hS (by omega) rfl rfl ?_
        | refine ok_rdFiE hS (by omega) rfl rfl (fun _ _ _ _ => ?_)
        | refine ok_rdFz hS (by omega) rfl rfl (fun _ => ?_)
        | refine ok_rdFl hS (by omega) rfl rfl (fun _ => ?_)
        | refine ok_rdA hS (by omega) rfl tR_id (by omega) (by omega) (by omega) (fun _ _ _ => ?_)
        | refine ok_rdA hS (by omega) rfl sl_R (by omega) (by omega) (by omega) (fun _ _ _ => ?_)
        | refine ok_rdW hS (by omega) rfl (by omega) (by omega) (by omega) (fun _ => ?_)
        | refine ok_wrAE hS (by omega) rfl (by omega) (by omega) (by omega) (fun L _ hL => tR_set (by omega) L hL) (fun _ hS hF => ?_)
        | refine ok_wrAE hS (by omega) rfl (by omega) (by omega) (by omega) (fun _ _ _ => trivial) (fun _ hS hF => ?_)
        | refine ok_wrF hS (by omega) rfl rfl (⟨_, rfl⟩ : fZ _) (fun _ hS => ?_)
        | refine ok_wrF hS (by omega) rfl rfl (⟨_, rfl⟩ : fL _) (fun _ hS => ?_)
        | refine ok_wrFE hS (by omega) rfl rfl (by omega) (fun _ hS _ => ?_)
        | (refine ok_if (fun hc => ?_) (fun hc => ?_) <;> try simp (disch := omega) only [wIn] at hc))
theorem tf_X5_mended   (hN : 26 ≤ N) (hn : 2 ≤ n ∧ n ≤ 7) {k : Nat} {S : xS} (hS : Hp (T5 n nd tl rp im E) N S) (hp : 15400 ≤ (k : Int)) : Ok (f_X5_mended k S 0) (fun r S' => Hp (T5 n nd tl rp im E) N S' ∧ True) :=
  tg_X5_mended hN hn k 0 S 0 0 0 hS (Or.inl ⟨rfl, hp⟩)
theorem tg_X5_third   (hN : 26 ≤ N) (hn : 2 ≤ n ∧ n ≤ 7) : ∀ (k lb : Nat) (S : xS) (i0 : Int) (i1 : Int) (i2 : Int) (i3 : Int) (i4 : Int) (i5 : Int), Hp (T5 n nd tl rp im E) N S → ((lb = 0 ∧ -2147483648 ≤ i0 ∧ i0 < 2147483648 ∧ 400 ≤ (k : Int)) ∨ (lb = 1 ∧ 390 ≤ (k : Int)) ∨ (lb = 2 ∧ 380 ≤ (k : Int)) ∨ (lb = 3 ∧ 2 ≤ i1 ∧ i1 ≤ 7 ∧ 0 ≤ i4 ∧ i4 ≤ i1 ∧ 20 * (7 - i4) + 60 ≤ (k : Int)) ∨ (lb = 4 ∧ 2 ≤ i1 ∧ i1 ≤ 7 ∧ 0 ≤ i4 ∧ i4 < i1 ∧ i4 < i5 ∧ i5 ≤ i1 ∧ 20 * (6 - i4) + 61 + 2 * (8 - i5) ≤ (k : Int)) ∨ (lb = 5 ∧ 2 ≤ i1 ∧ i1 ≤ 7 ∧ 0 ≤ i4 ∧ i4 < i1 ∧ i4 < i5 ∧ i5 < i1 ∧ 20 * (6 - i4) + 60 + 2 * (8 - i5) ≤ (k : Int))) → Ok (g_X5_third k lb S 0 i0 i1 i2 i3 i4 i5) (fun r S' => Hp (T5 n nd tl rp im E) N S' ∧ True) := by
  intro k
  induction k with
  | zero => intro lb S i0 i1 i2 i3 i4 i5 hS hp; exfalso; omega
  | succ k ih =>
    intro lb S i0 i1 i2 i3 i4 i5 hS hp
    rcases hp with ⟨rfl, hp⟩ | ⟨rfl, hp⟩ | ⟨rfl, hp⟩ | ⟨rfl, hp⟩ | ⟨rfl, hp⟩ | ⟨rfl, hp⟩
    · show Ok (b_X5_third_0 (g_X5_third k) k S 0 i0 i1 i2 i3 i4 i5) _
      unfold b_X5_third_0
      repeat' (first
        | (refine ok_dead ?_; omega)
        | exact ok_some ⟨hS, by first | trivial | omega⟩
        | exact ih 1 _ _ _ _ _ _ _ hS (Or.inr (Or.inl ⟨rfl, by omega⟩))
        | (refine ok_bd2 (tf_X5_refuseBad hN hn hS (by first | trivial | omega)) (fun _ _ hQ => ?_); obtain ⟨hS, hQ⟩ := hQ)
        | refine ok_cpy hS (by omega) (by omega) rfl rfl (by omega) (fun L M _ _ hL hM x hx => (cpy_mem hx).elim (hL.1 x) (hM x)) (fun _ hS hF => ?_)
        | refine ok_bindE (by assumption) (fun _ => ?_)
        | refine ok_bindE (hF _ _ _ _ (by assumption)) (fun _ => ?_)
        | refine ok_is hS (by omega) rfl ?_
        | refine ok_rdFp hS (by omega) rfl rfl ?_
        | refine ok_rdFiE hS (by omega) rfl rfl (fun _ _ _ _ => ?_)
        | refine ok_rdFz hS (by omega) rfl rfl (fun _ => ?_)
        | refine ok_rdFl hS (by omega) rfl rfl (fun _ => ?_)
        | refine ok_rdA hS (by omega) rfl tR_id (by omega) (by omega) (by omega) (fun _ _ _ => ?_)
        | refine ok_rdA hS (by omega) rfl sl_R (by omega) (by omega) (by omega) (fun _ _ _ => ?_)
        | refine ok_rdW hS (by omega) rfl (by omega) (by omega) (by omega) (fun _ => ?_)
        | refine ok_wrAE hS (by omega) rfl (by omega) (by omega) (by omega) (fun L _ hL => tR_set (by omega) L hL) (fun _ hS hF => ?_)
        | refine ok_wrAE hS (by omega) rfl (by omega) (by omega) (by omega) (fun _ _ _ => trivial) (fun _ hS hF => ?_)
        | refine ok_wrF hS (by omega) rfl rfl (⟨_, rfl⟩ : fZ _) (fun _ hS => ?_)
        | refine ok_wrF hS (by omega) rfl rfl (⟨_, rfl⟩ : fL _) (fun _ hS => ?_)
        | refine ok_wrFE hS (by omega) rfl rfl (by omega) (fun _ hS _ => ?_)
        | (refine ok_if (fun hc => ?_) (fun hc => ?_) <;> try simp (disch := omega) only [wIn] at hc))
    · show Ok (b_X5_third_1 (g_X5_third k) k S 0 i0 i1 i2 i3 i4 i5) _
      unfold b_X5_third_1
      repeat' (first
        | (refine ok_dead ?_; omega)
        | exact ok_some ⟨hS, by first | trivial | omega⟩
        | exact ih 2 _ _ _ _ _ _ _ hS (Or.inr (Or.inr (Or.inl ⟨rfl, by omega⟩)))
        | refine ok_cpy hS (by omega) (by omega) rfl rfl (by omega) (fun L M _ _ hL hM x hx => (cpy_mem hx).elim (hL.1 x) (hM x)) (fun _ hS hF => ?_)
        | refine ok_bindE (by assumption) (fun _ => ?_)
        | refine ok_bindE (hF _ _ _ _ (by assumption)) (fun _ => ?_)
        | refine ok_is hS (by omega) rfl ?_
        | refine ok_rdFp hS (by omega) rfl rfl ?_
        | refine ok_rdFiE hS (by omega) rfl rfl (fun _ _ _ _ => ?_)
        | refine ok_rdFz hS (by omega) rfl rfl (fun _ => ?_)
        | refine ok_rdFl hS (by omega) rfl rfl (fun _ => ?_)
        | refine ok_rdA hS (by omega) rfl tR_id (by omega) (by omega) (by omega) (fun _ _ _ => ?_)
        | refine ok_rdA hS (by omega) rfl sl_R (by omega) (by omega) (by omega) (fun _ _ _ => ?_)
        | refine ok_rdW hS (by omega) rfl (by omega) (by omega) (by omega) (fun _ => ?_)
        | refine ok_wrAE hS (by omega) rfl (by omega) (by omega) (by omega) (fun L _ hL => tR_set (by omega) L hL) (fun _ hS hF => ?_)
        | refine ok_wrAE hS (by omega) rfl (by omega) (by omega) (by omega) (fun _ _ _ => trivial) (fun _ hS hF => ?_)
        | refine ok_wrF hS (by omega) rfl rfl (⟨_, rfl⟩ : fZ _) (fun _ hS => ?_)
        | refine ok_wrF hS (by omega) rfl rfl (⟨_, rfl⟩ : fL _) (fun _ hS => ?_)
        | refine ok_wrFE hS (by omega) rfl rfl (by omega) (fun _ hS _ => ?_)
        | (refine ok_if (fun hc => ?_) (fun hc => ?_) <;> try simp (disch := omega) only [wIn] at hc))
    · show Ok (b_X5_third_2 (g_X5_third k) k S 0 i0 i1 i2 i3 i4 i5) _
      unfold b_X5_third_2
      repeat' (first
        | (refine ok_dead ?_; omega)
        | exact ok_some ⟨hS, by first | trivial | omega⟩
        | exact ih 3 _ _ _ _ _ _ _ hS (Or.inr (Or.inr (Or.inr (Or.inl ⟨rfl, by omega⟩))))
        | (refine ok_bd2 (tf_X5_findersIn hN hn q1 g1 r1 h1 hS (by first | trivial | omega)) (fun _ _ hQ => ?_); obtain ⟨hS, hQ⟩ := hQ)
        | (refine ok_bd2 (tf_X5_findersIn hN hn (by omega) rfl sl_R (by omega) hS (by first | trivial | omega)) (fun _ _ hQ => ?_); obtain ⟨hS, hQ⟩ := hQ)
        | (refine ok_bd2 (tf_X5_findersIn hN hn (by omega) rfl tR_id (by omega) hS (by first | trivial | omega)) (fun _ _ hQ => ?_); obtain ⟨hS, hQ⟩ := hQ)
        | (refine ok_bd2 (tf_J6_bitCount_0f7a4  hS (by first | trivial | omega)) (fun _ _ hQ => ?_); obtain ⟨rfl, hQ⟩ := hQ)
        | refine ok_cpy hS (by omega) (by omega) rfl rfl (by omega) (fun L M _ _ hL hM x hx => (cpy_mem hx).elim (hL.1 x) (hM x)) (fun _ hS hF => ?_)
        | refine ok_bindE (by assumption) (fun _ => ?_)
        | refine ok_bindE (hF _ _ _ _ (by assumption)) (fun _ => ?_)
        | refine ok_is hS (by omega) rfl ?_
        | refine ok_rdFp hS (by omega) rfl rfl ?_
        | refine ok_rdFiE hS (by omega) rfl rfl (fun _ _ _ _ => ?_)
        | refine ok_rdFz hS (by omega) rfl rfl (fun _ => ?_)
        | refine ok_rdFl hS (by omega) rfl rfl (fun _ => ?_)
        | refine ok_rdA hS (by omega) rfl tR_id (by omega) (by omega) (by omega) (fun _ _ _ => ?_)
        | refine ok_rdA hS (by omega) rfl sl_R (by omega) (by omega) (by omega) (fun _ _ _ => ?_)
        | refine ok_rdW hS (by omega) rfl (by omega) (by omega) (by omega) (fun _ => ?_)
        | refine ok_wrAE hS (by omega) rfl (by omega) (by omega) (by omega) (fun L _ hL => tR_set (by omega) L hL) (fun _ hS hF => ?_)
        | refine ok_wrAE hS (by omega) rfl (by omega) (by omega) (by omega) (fun _ _ _ => trivial) (fun _ hS hF => ?_)
        | refine ok_wrF hS (by omega) rfl rfl (⟨_, rfl⟩ : fZ _) (fun _ hS => ?_)
        | refine ok_wrF hS (by omega) rfl rfl (⟨_, rfl⟩ : fL _) (fun _ hS => ?_)
        | refine ok_wrFE hS (by omega) rfl rfl (by omega) (fun _ hS _ => ?_)
        | (refine ok_if (fun hc => ?_) (fun hc => ?_) <;> try simp (disch := omega) only [wIn] at hc))
    · show Ok (b_X5_third_3 (g_X5_third k) k S 0 i0 i1 i2 i3 i4 i5) _
      unfold b_X5_third_3
      repeat' (first
        | (refine ok_dead ?_; omega)
        | exact ok_some ⟨hS, by first | trivial | omega⟩
        | exact ih 4 _ _ _ _ _ _ _ hS (Or.inr (Or.inr (Or.inr (Or.inr (Or.inl ⟨rfl, by omega⟩)))))
        | refine ok_cpy hS (by omega) (by omega) rfl rfl (by omega) (fun L M _ _ hL hM x hx => (cpy_mem hx).elim (hL.1 x) (hM x)) (fun _ hS hF => ?_)
        | refine ok_bindE (by assumption) (fun _ => ?_)
        | refine ok_bindE (hF _ _ _ _ (by assumption)) (fun _ => ?_)
        | refine ok_is hS (by omega) rfl ?_
        | refine ok_rdFp hS (by omega) rfl rfl ?_
        | refine ok_rdFiE hS (by omega) rfl rfl (fun _ _ _ _ => ?_)
        | refine ok_rdFz hS (by omega) rfl rfl (fun _ => ?_)
        | refine ok_rdFl hS (by omega) rfl rfl (fun _ => ?_)
        | refine ok_rdA hS (by omega) rfl tR_id (by omega) (by omega) (by omega) (fun _ _ _ => ?_)
        | refine ok_rdA hS (by omega) rfl sl_R (by omega) (by omega) (by omega) (fun _ _ _ => ?_)
        | refine ok_rdW hS (by omega) rfl (by omega) (by omega) (by omega) (fun _ => ?_)
        | refine ok_wrAE hS (by omega) rfl (by omega) (by omega) (by omega) (fun L _ hL => tR_set (by omega) L hL) (fun _ hS hF => ?_)
        | refine ok_wrAE hS (by omega) rfl (by omega) (by omega) (by omega) (fun _ _ _ => trivial) (fun _ hS hF => ?_)
        | refine ok_wrF hS (by omega) rfl rfl (⟨_, rfl⟩ : fZ _) (fun _ hS => ?_)
        | refine ok_wrF hS (by omega) rfl rfl (⟨_, rfl⟩ : fL _) (fun _ hS => ?_)
        | refine ok_wrFE hS (by omega) rfl rfl (by omega) (fun _ hS _ => ?_)
        | (refine ok_if (fun hc => ?_) (fun hc => ?_) <;> try simp (disch := omega) only [wIn] at hc))
    · show Ok (b_X5_third_4 (g_X5_third k) k S 0 i0 i1 i2 i3 i4 i5) _
      unfold b_X5_third_4
      repeat' (first
        | (refine ok_dead ?_; omega)
        | exact ok_some ⟨hS, by first | trivial | omega⟩
        | exact ih 3 _ _ _ _ _ _ _ hS (Or.inr (Or.inr (Or.inr (Or.inl ⟨rfl, by omega⟩))))
        | exact ih 5 _ _ _ _ _ _ _ hS (Or.inr (Or.inr (Or.inr (Or.inr (Or.inr (⟨rfl, by omega⟩))))))
        | (refine ok_bd2 (tf_X4_exchange (G := T5 n nd tl rp im E) (by omega) rfl tR_id (fun L i x hx hL => tR_set hx L hL) hS (by first | trivial | omega)) (fun _ _ hQ => ?_); obtain ⟨hS, hQ⟩ := hQ)
        | (refine ok_bd2 (tf_X5_findersIn hN hn q1 g1 r1 h1 hS (by first | trivial | omega)) (fun _ _ hQ => ?_); obtain ⟨hS, hQ⟩ := hQ)
        | (refine ok_bd2 (tf_X5_findersIn hN hn (by omega) rfl sl_R (by omega) hS (by first | trivial | omega)) (fun _ _ hQ => ?_); obtain ⟨hS, hQ⟩ := hQ)
        | (refine ok_bd2 (tf_X5_findersIn hN hn (by omega) rfl tR_id (by omega) hS (by first | trivial | omega)) (fun _ _ hQ => ?_); obtain ⟨hS, hQ⟩ := hQ)
        | (refine ok_bd2 (tf_J6_bitCount_0f7a4  hS (by first | trivial | omega)) (fun _ _ hQ => ?_); obtain ⟨rfl, hQ⟩ := hQ)
        | refine ok_cpy hS (by omega) (by omega) rfl rfl (by omega) (fun L M _ _ hL hM x hx => (cpy_mem hx).elim (hL.1 x) (hM x)) (fun _ hS hF => ?_)
        | refine ok_bindE (by assumption) (fun _ => ?_)
        | refine ok_bindE (hF _ _ _ _ (by assumption)) (fun _ => ?_)
        | refine ok_is hS (by omega) rfl ?_
        | refine ok_rdFp hS (by omega) rfl rfl ?_
        | refine ok_rdFiE hS (by omega) rfl rfl (fun _ _ _ _ => ?_)
        | refine ok_rdFz hS (by omega) rfl rfl (fun _ => ?_)
        | refine ok_rdFl hS (by omega) rfl rfl (fun _ => ?_)
        | refine ok_rdA hS (by omega) rfl tR_id (by omega) (by omega) (by omega) (fun _ _ _ => ?_)
        | refine ok_rdA hS (by omega) rfl sl_R (by omega) (by omega) (by omega) (fun _ _ _ => ?_)
        | refine ok_rdW hS (by omega) rfl (by omega) (by omega) (by omega) (fun _ => ?_)
        | refine ok_wrAE hS (by omega) rfl (by omega) (by omega) (by omega) (fun L _ hL => tR_set (by omega) L hL) (fun _ hS hF => ?_)
        | refine ok_wrAE hS (by omega) rfl (by omega) (by omega) (by omega) (fun _ _ _ => trivial) (fun _ hS hF => ?_)
        | refine ok_wrF hS (by omega) rfl rfl (⟨_, rfl⟩ : fZ _) (fun _ hS => ?_)
        | refine ok_wrF hS (by omega) rfl rfl (⟨_, rfl⟩ : fL _) (fun _ hS => ?_)
        | refine ok_wrFE hS (by omega) rfl rfl (by omega) (fun _ hS _ => ?_)
        | (refine ok_if (fun hc => ?_) (fun hc => ?_) <;> try simp (disch := omega) only [wIn] at hc))
    · show Ok (b_X5_third_5 (g_X5_third k) k S 0 i0 i1 i2 i3 i4 i5) _
      unfold b_X5_third_5
      repeat' (first
        | (refine ok_dead ?_; omega)
        | exact ok_some ⟨hS, by first | trivial | omega⟩
        | exact ih 4 _ _ _ _ _ _ _ hS (Or.inr (Or.inr (Or.inr (Or.inr (Or.inl ⟨rfl, by omega⟩)))))
        | refine ok_cpy hS (by omega) (by omega) rfl rfl (by omega) (fun L M _ _ hL hM x hx => (cpy_mem hx).elim (hL.1 x) (hM x)) (fun _ hS hF => ?_)
        | refine ok_bindE (by assumption) (fun _ => ?_)
        | refine ok_bindE (hF _ _ _ _ (by assumption)) (fun _ => ?_)
        | refine ok_is hS (by omega) rfl ?_
        | refine ok_rdFp hS (by omega) rfl rfl ?_
        | refine ok_rdFiE hS (by omega) rfl rfl (fun _ _ _ _ => ?_)
        | refine ok_rdFz hS (by omega) rfl rfl (fun _ => ?_)
        | refine ok_rdFl hS (by omega) rfl rfl (fun _ => ?_)
        | refine ok_rdA hS (by omega) rfl tR_id (by omega) (by omega) (by omega) (fun _ _ _ => ?_)
        | refine ok_rdA hS (by omega) rfl sl_R (by omega) (by omega) (by omega) (fun _ _ _ => ?_)
        | refine ok_rdW hS (by omega) rfl (by omega) (by omega) (by omega) (fun _ => ?_)
        | refine ok_wrAE hS (by omega) rfl (by omega) (by omega) (by omega) (fun L _ hL => tR_set (by omega) L hL) (fun _ hS hF => ?_)
        | refine ok_wrAE hS (by omega) rfl (by omega) (by omega) (by omega) (fun _ _ _ => trivial) (fun _ hS hF => ?_)
        | refine ok_wrF hS (by omega) rfl rfl (⟨_, rfl⟩ : fZ _) (fun _ hS => ?_)
        | refine ok_wrF hS (by omega) rfl rfl (⟨_, rfl⟩ : fL _) (fun _ hS => ?_)
        | refine ok_wrFE hS (by omega) rfl rfl (by omega) (fun _ hS _ => ?_)
        | (refine ok_if (fun hc => ?_) (fun hc => ?_) <;> try simp (disch := omega) only [wIn] at hc))
theorem tf_X5_third   (hN : 26 ≤ N) (hn : 2 ≤ n ∧ n ≤ 7) {k : Nat} {S : xS} {i0 : Int} (hS : Hp (T5 n nd tl rp im E) N S) (hp : -2147483648 ≤ i0 ∧ i0 < 2147483648 ∧ 400 ≤ (k : Int)) : Ok (f_X5_third k S 0 i0) (fun r S' => Hp (T5 n nd tl rp im E) N S' ∧ True) :=
  tg_X5_third hN hn k 0 S i0 0 0 0 0 0 hS (Or.inl ⟨rfl, hp⟩)
theorem tg_X5_laid   (hN : 26 ≤ N) (hn : 2 ≤ n ∧ n ≤ 7) : ∀ (k lb : Nat) (S : xS) (i0 : Int), Hp (T5 n nd tl rp im E) N S → ((lb = 0 ∧ -2147483648 ≤ i0 ∧ i0 < 2147483648 ∧ 30 ≤ (k : Int)) ∨ (lb = 1 ∧ 1 ≤ (k : Int))) → Ok (g_X5_laid k lb S 0 i0) (fun r S' => Hp (T5 n nd tl rp im E) N S' ∧ True) := by
  intro k
  induction k with
  | zero => intro lb S i0 hS hp; exfalso; omega
  | succ k ih =>
    intro lb S i0 hS hp
    rcases hp with ⟨rfl, hp⟩ | ⟨rfl, hp⟩
    · show Ok (b_X5_laid_0 (g_X5_laid k) k S 0 i0) _
      unfold b_X5_laid_0
      repeat' (first
        | (refine ok_dead ?_; omega)
        | exact ok_some ⟨hS, by first | trivial | omega⟩
        | exact ih 1 _ _ hS (Or.inr (⟨rfl, by omega⟩))
        | (refine ok_bd2 (tf_X4_setBySeed (G := T5 n nd tl rp im E) (by omega) rfl tR_id (fun L i x hx hL => tR_set hx L hL) hS (by first | trivial | omega)) (fun _ _ hQ => ?_); obtain ⟨hS, hQ⟩ := hQ)
        | (refine ok_bd2 (tf_X4_rankOf (G := T5 n nd tl rp im E) (by omega) rfl sl_R hS (by first | trivial | omega)) (fun _ _ hQ => ?_); obtain ⟨rfl, hQ⟩ := hQ)
        | (refine ok_bd2 (tf_X4_rankOf (G := T5 n nd tl rp im E) (by omega) rfl tR_id hS (by first | trivial | omega)) (fun _ _ hQ => ?_); obtain ⟨rfl, hQ⟩ := hQ)
        | refine ok_bindE (by assumption) (fun _ => ?_)
        | refine ok_bindE (hF _ _ _ _ (by assumption)) (fun _ => ?_)
        | refine ok_is hS (by omega) rfl ?_
        | refine ok_rdFp hS (by omega) rfl rfl ?_
        | refine ok_rdFiE hS (by omega) rfl rfl (fun _ _ _ _ => ?_)
        | refine ok_rdFz hS (by omega) rfl rfl (fun _ => ?_)
        | refine ok_rdFl hS (by omega) rfl rfl (fun _ => ?_)
        | refine ok_rdA hS (by omega) rfl tR_id (by omega) (by omega) (by omega) (fun _ _ _ => ?_)
        | refine ok_rdA hS (by omega) rfl sl_R (by omega) (by omega) (by omega) (fun _ _ _ => ?_)
        | refine ok_rdW hS (by omega) rfl (by omega) (by omega) (by omega) (fun _ => ?_)
        | refine ok_wrAE hS (by omega) rfl (by omega) (by omega) (by omega) (fun L _ hL => tR_set (by omega) L hL) (fun _ hS hF => ?_)
        | refine ok_wrAE hS (by omega) rfl (by omega) (by omega) (by omega) (fun _ _ _ => trivial) (fun _ hS hF => ?_)
        | refine ok_wrF hS (by omega) rfl rfl (⟨_, rfl⟩ : fZ _) (fun _ hS => ?_)
        | refine ok_wrF hS (by omega) rfl rfl (⟨_, rfl⟩ : fL _) (fun _ hS => ?_)
        | refine ok_wrFE hS (by omega) rfl rfl (by omega) (fun _ hS _ => ?_)
        | (refine ok_if (fun hc => ?_) (fun hc => ?_) <;> try simp (disch := omega) only [wIn] at hc))
    · show Ok (b_X5_laid_1 (g_X5_laid k) k S 0 i0) _
      unfold b_X5_laid_1
      repeat' (first
        | (refine ok_dead ?_; omega)
        | exact ok_some ⟨hS, by first | trivial | omega⟩
        | (refine ok_bd2 (tf_X5_refuseBad hN hn hS (by first | trivial | omega)) (fun _ _ hQ => ?_); obtain ⟨hS, hQ⟩ := hQ)
        | refine ok_bindE (by assumption) (fun _ => ?_)
        | refine ok_bindE (hF _ _ _ _ (by assumption)) (fun _ => ?_)
        | refine ok_is hS (by omega) rfl ?_
        | refine ok_rdFp hS (by omega) rfl rfl ?_
        | refine ok_rdFiE hS (by omega) rfl rfl (fun _ _ _ _ => ?_)
        | refine ok_rdFz hS (by omega) rfl rfl (fun _ => ?_)
        | refine ok_rdFl hS (by omega) rfl rfl (fun _ => ?_)
        | refine ok_rdA hS (by omega) rfl tR_id (by omega) (by omega) (by omega) (fun _ _ _ => ?_)
        | refine ok_rdA hS (by omega) rfl sl_R (by omega) (by omega) (by omega) (fun _ _ _ => ?_)
        | refine ok_rdW hS (by omega) rfl (by omega) (by omega) (by omega) (fun _ => ?_)
        | refine ok_wrAE hS (by omega) rfl (by omega) (by omega) (by omega) (fun L _ hL => tR_set (by omega) L hL) (fun _ hS hF => ?_)
        | refine ok_wrAE hS (by omega) rfl (by omega) (by omega) (by omega) (fun _ _ _ => trivial) (fun _ hS hF => ?_)
        | refine ok_wrF hS (by omega) rfl rfl (⟨_, rfl⟩ : fZ _) (fun _ hS => ?_)
        | refine ok_wrF hS (by omega) rfl rfl (⟨_, rfl⟩ : fL _) (fun _ hS => ?_)
        | refine ok_wrFE hS (by omega) rfl rfl (by omega) (fun _ hS _ => ?_)
        | (refine ok_if (fun hc => ?_) (fun hc => ?_) <;> try simp (disch := omega) only [wIn] at hc))
theorem tf_X5_laid   (hN : 26 ≤ N) (hn : 2 ≤ n ∧ n ≤ 7) {k : Nat} {S : xS} {i0 : Int} (hS : Hp (T5 n nd tl rp im E) N S) (hp : -2147483648 ≤ i0 ∧ i0 < 2147483648 ∧ 30 ≤ (k : Int)) : Ok (f_X5_laid k S 0 i0) (fun r S' => Hp (T5 n nd tl rp im E) N S' ∧ True) :=
  tg_X5_laid hN hn k 0 S i0 hS (Or.inl ⟨rfl, hp⟩)
theorem tg_X5_lucky   (hN : 26 ≤ N) (hn : 2 ≤ n ∧ n ≤ 7) : ∀ (k lb : Nat) (S : xS) (i0 : Int) (i1 : Int) (i2 : Int) (i3 : Int) (i4 : Int), Hp (T5 n nd tl rp im E) N S → ((lb = 0 ∧ -2147483648 ≤ i0 ∧ i0 < 2147483648 ∧ -2147483648 ≤ i1 ∧ i1 < 2147483648 ∧ 200 ≤ (k : Int)) ∨ (lb = 1 ∧ 1 ≤ (k : Int)) ∨ (lb = 2 ∧ 0 ≤ i0 ∧ i0 ≤ 999999 ∧ 0 ≤ i1 ∧ i1 ≤ 60 ∧ 0 ≤ i3 ∧ i3 ≤ i1 ∧ 2 * (i1 - i3) + 60 ≤ (k : Int)) ∨ (lb = 3 ∧ 0 ≤ i0 ∧ i0 ≤ 999999 ∧ 0 ≤ i1 ∧ i1 ≤ 60 ∧ 0 ≤ i2 ∧ i2 < i1 ∧ 2 * (i1 - i2) + 59 ≤ (k : Int))) → Ok (g_X5_lucky k lb S 0 i0 i1 i2 i3 i4) (fun r S' => Hp (T5 n nd tl rp im E) N S' ∧ True) := by
  intro k
  induction k with
  | zero => intro lb S i0 i1 i2 i3 i4 hS hp; exfalso; omega
  | succ k ih =>
    intro lb S i0 i1 i2 i3 i4 hS hp
    rcases hp with ⟨rfl, hp⟩ | ⟨rfl, hp⟩ | ⟨rfl, hp⟩ | ⟨rfl, hp⟩
    · show Ok (b_X5_lucky_0 (g_X5_lucky k) k S 0 i0 i1 i2 i3 i4) _
      unfold b_X5_lucky_0
      repeat' (first
        | (refine ok_dead ?_; omega)
        | exact ok_some ⟨hS, by first | trivial | omega⟩
        | exact ih 1 _ _ _ _ _ _ hS (Or.inr (Or.inl ⟨rfl, by omega⟩))
        | exact ih 2 _ _ _ _ _ _ hS (Or.inr (Or.inr (Or.inl ⟨rfl, by omega⟩)))
        | refine ok_bindE (by assumption) (fun _ => ?_)
        | refine ok_bindE (hF _ _ _ _ (by assumption)) (fun _ => ?_)
        | refine ok_is hS (by omega) rfl ?_
        | refine ok_rdFp hS (by omega) rfl rfl ?_
        | refine ok_rdFiE hS (by omega) rfl rfl (fun _ _ _ _ => ?_)
        | refine ok_rdFz hS (by omega) rfl rfl (fun _ => ?_)
        | refine ok_rdFl hS (by omega) rfl rfl (fun _ => ?_)
        | refine ok_rdA hS (by omega) rfl tR_id (by omega) (by omega) (by omega) (fun _ _ _ => ?_)
        | refine ok_rdA hS (by omega) rfl sl_R (by omega) (by omega) (by omega) (fun _ _ _ => ?_)
        | refine ok_rdW hS (by omega) rfl (by omega) (by omega) (by omega) (fun _ => ?_)
        | refine ok_wrAE hS (by omega) rfl (by omega) (by omega) (by omega) (fun L _ hL => tR_set (by omega) L hL) (fun _ hS hF => ?_)
        | refine ok_wrAE hS (by omega) rfl (by omega) (by omega) (by omega) (fun _ _ _ => trivial) (fun _ hS hF => ?_)
        | refine ok_wrF hS (by omega) rfl rfl (⟨_, rfl⟩ : fZ _) (fun _ hS => ?_)
        | refine ok_wrF hS (by omega) rfl rfl (⟨_, rfl⟩ : fL _) (fun _ hS => ?_)
        | refine ok_wrFE hS (by omega) rfl rfl (by omega) (fun _ hS _ => ?_)
        | (refine ok_if (fun hc => ?_) (fun hc => ?_) <;> try simp (disch := omega) only [wIn] at hc))
    · show Ok (b_X5_lucky_1 (g_X5_lucky k) k S 0 i0 i1 i2 i3 i4) _
      unfold b_X5_lucky_1
      repeat' (first
        | (refine ok_dead ?_; omega)
        | exact ok_some ⟨hS, by first | trivial | omega⟩
        | (refine ok_bd2 (tf_X5_refuseBad hN hn hS (by first | trivial | omega)) (fun _ _ hQ => ?_); obtain ⟨hS, hQ⟩ := hQ)
        | refine ok_bindE (by assumption) (fun _ => ?_)
        | refine ok_bindE (hF _ _ _ _ (by assumption)) (fun _ => ?_)
        | refine ok_is hS (by omega) rfl ?_
        | refine ok_rdFp hS (by omega) rfl rfl ?_
        | refine ok_rdFiE hS (by omega) rfl rfl (fun _ _ _ _ => ?_)
        | refine ok_rdFz hS (by omega) rfl rfl (fun _ => ?_)
        | refine ok_rdFl hS (by omega) rfl rfl (fun _ => ?_)
        | refine ok_rdA hS (by omega) rfl tR_id (by omega) (by omega) (by omega) (fun _ _ _ => ?_)
        | refine ok_rdA hS (by omega) rfl sl_R (by omega) (by omega) (by omega) (fun _ _ _ => ?_)
        | refine ok_rdW hS (by omega) rfl (by omega) (by omega) (by omega) (fun _ => ?_)
        | refine ok_wrAE hS (by omega) rfl (by omega) (by omega) (by omega) (fun L _ hL => tR_set (by omega) L hL) (fun _ hS hF => ?_)
        | refine ok_wrAE hS (by omega) rfl (by omega) (by omega) (by omega) (fun _ _ _ => trivial) (fun _ hS hF => ?_)
        | refine ok_wrF hS (by omega) rfl rfl (⟨_, rfl⟩ : fZ _) (fun _ hS => ?_)
        | refine ok_wrF hS (by omega) rfl rfl (⟨_, rfl⟩ : fL _) (fun _ hS => ?_)
        | refine ok_wrFE hS (by omega) rfl rfl (by omega) (fun _ hS _ => ?_)
        | (refine ok_if (fun hc => ?_) (fun hc => ?_) <;> try simp (disch := omega) only [wIn] at hc))
    · show Ok (b_X5_lucky_2 (g_X5_lucky k) k S 0 i0 i1 i2 i3 i4) _
      unfold b_X5_lucky_2
      repeat' (first
        | (refine ok_dead ?_; omega)
        | exact ok_some ⟨hS, by first | trivial | omega⟩
        | exact ih 3 _ _ _ _ _ _ hS (Or.inr (Or.inr (Or.inr (⟨rfl, by omega⟩))))
        | (refine ok_bd2 (tf_X4_setBySeed (G := T5 n nd tl rp im E) (by omega) rfl tR_id (fun L i x hx hL => tR_set hx L hL) hS (by first | trivial | omega)) (fun _ _ hQ => ?_); obtain ⟨hS, hQ⟩ := hQ)
        | (refine ok_bd2 (tf_X5_doAllFind hN hn q1 g1 r1 h1 hS (by first | trivial | omega)) (fun _ _ hQ => ?_); obtain ⟨hS, hQ⟩ := hQ)
        | (refine ok_bd2 (tf_X5_doAllFind hN hn (by omega) rfl sl_R (by omega) hS (by first | trivial | omega)) (fun _ _ hQ => ?_); obtain ⟨hS, hQ⟩ := hQ)
        | (refine ok_bd2 (tf_X5_doAllFind hN hn (by omega) rfl tR_id (by omega) hS (by first | trivial | omega)) (fun _ _ hQ => ?_); obtain ⟨hS, hQ⟩ := hQ)
        | refine ok_bindE (by assumption) (fun _ => ?_)
        | refine ok_bindE (hF _ _ _ _ (by assumption)) (fun _ => ?_)
        | refine ok_is hS (by omega) rfl ?_
        | refine ok_rdFp hS (by omega) rfl rfl ?_
        | refine ok_rdFiE hS (by omega) rfl rfl (fun _ _ _ _ => ?_)
        | refine ok_rdFz hS (by omega) rfl rfl (fun _ => ?_)
        | refine ok_rdFl hS (by omega) rfl rfl (fun _ => ?_)
        | refine ok_rdA hS (by omega) rfl tR_id (by omega) (by omega) (by omega) (fun _ _ _ => ?_)
        | refine ok_rdA hS (by omega) rfl sl_R (by omega) (by omega) (by omega) (fun _ _ _ => ?_)
        | refine ok_rdW hS (by omega) rfl (by omega) (by omega) (by omega) (fun _ => ?_)
        | refine ok_wrAE hS (by omega) rfl (by omega) (by omega) (by omega) (fun L _ hL => tR_set (by omega) L hL) (fun _ hS hF => ?_)
        | refine ok_wrAE hS (by omega) rfl (by omega) (by omega) (by omega) (fun _ _ _ => trivial) (fun _ hS hF => ?_)
        | refine ok_wrF hS (by omega) rfl rfl (⟨_, rfl⟩ : fZ _) (fun _ hS => ?_)
        | refine ok_wrF hS (by omega) rfl rfl (⟨_, rfl⟩ : fL _) (fun _ hS => ?_)
        | refine ok_wrFE hS (by omega) rfl rfl (by omega) (fun _ hS _ => ?_)
        | (refine ok_if (fun hc => ?_) (fun hc => ?_) <;> try simp (disch := omega) only [wIn] at hc))
    · show Ok (b_X5_lucky_3 (g_X5_lucky k) k S 0 i0 i1 i2 i3 i4) _
      unfold b_X5_lucky_3
      repeat' (first
        | (refine ok_dead ?_; omega)
        | exact ok_some ⟨hS, by first | trivial | omega⟩
        | exact ih 2 _ _ _ _ _ _ hS (Or.inr (Or.inr (Or.inl ⟨rfl, by omega⟩)))
        | refine ok_bindE (by assumption) (fun _ => ?_)
        | refine ok_bindE (hF _ _ _ _ (by assumption)) (fun _ => ?_)
        | refine ok_is hS (by omega) rfl ?_
        | refine ok_rdFp hS (by omega) rfl rfl ?_
        | refine ok_rdFiE hS (by omega) rfl rfl (fun _ _ _ _ => ?_)
        | refine ok_rdFz hS (by omega) rfl rfl (fun _ => ?_)
        | refine ok_rdFl hS (by omega) rfl rfl (fun _ => ?_)
        | refine ok_rdA hS (by omega) rfl tR_id (by omega) (by omega) (by omega) (fun _ _ _ => ?_)
        | refine ok_rdA hS (by omega) rfl sl_R (by omega) (by omega) (by omega) (fun _ _ _ => ?_)
        | refine ok_rdW hS (by omega) rfl (by omega) (by omega) (by omega) (fun _ => ?_)
        | refine ok_wrAE hS (by omega) rfl (by omega) (by omega) (by omega) (fun L _ hL => tR_set (by omega) L hL) (fun _ hS hF => ?_)
        | refine ok_wrAE hS (by omega) rfl (by omega) (by omega) (by omega) (fun _ _ _ => trivial) (fun _ hS hF => ?_)
        | refine ok_wrF hS (by omega) rfl rfl (⟨_, rfl⟩ : fZ _) (fun _ hS => ?_)
        | refine ok_wrF hS (by omega) rfl rfl (⟨_, rfl⟩ : fL _) (fun _ hS => ?_)
        | refine ok_wrFE hS (by omega) rfl rfl (by omega) (fun _ hS _ => ?_)
        | (refine ok_if (fun hc => ?_) (fun hc => ?_) <;> try simp (disch := omega) only [wIn] at hc))
theorem tf_X5_lucky   (hN : 26 ≤ N) (hn : 2 ≤ n ∧ n ≤ 7) {k : Nat} {S : xS} {i0 : Int} {i1 : Int} (hS : Hp (T5 n nd tl rp im E) N S) (hp : -2147483648 ≤ i0 ∧ i0 < 2147483648 ∧ -2147483648 ≤ i1 ∧ i1 < 2147483648 ∧ 200 ≤ (k : Int)) : Ok (f_X5_lucky k S 0 i0 i1) (fun r S' => Hp (T5 n nd tl rp im E) N S' ∧ True) :=
  tg_X5_lucky hN hn k 0 S i0 i1 0 0 0 hS (Or.inl ⟨rfl, hp⟩)
theorem tf_X5_part   (hN : 26 ≤ N) (hn : 2 ≤ n ∧ n ≤ 7) {k : Nat} {S : xS} {i0 : Int} (hS : Hp (T5 n nd tl rp im E) N S) (hp : -2147483648 ≤ i0 ∧ i0 < 2147483648) : Ok (f_X5_part k S 0 i0) (fun r S' => Hp (T5 n nd tl rp im E) N S' ∧ True) := by
  unfold f_X5_part
  repeat' (first
    | (refine ok_dead ?_; omega)
    | exact ok_some ⟨hS, by first | trivial | omega⟩
    | (refine ok_bd2 (tf_X5_refuseBad hN hn hS (by first | trivial | omega)) (fun _ _ hQ => ?_); obtain ⟨hS, hQ⟩ := hQ)
    | refine ok_bindE (by assumption) (fun _ => ?_)
    | refine ok_bindE (hF _ _ _ _ (by assumption)) (fun _ => ?_)
    | refine ok_is hS (by omega) rfl ?_
    | refine ok_rdFp hS (by omega) rfl rfl ?_
    | refine ok_rdFiE hS (by omega) rfl rfl (fun _ _ _ _ => ?_)
    | refine ok_rdFz hS (by omega) rfl rfl (fun _ => ?_)
    | refine ok_rdFl hS (by omega) rfl rfl (fun _ => ?_)
    | refine ok_rdA hS (by omega) rfl tR_id (by omega) (by omega) (by omega) (fun _ _ _ => ?_)
    | refine ok_rdA hS (by omega) rfl sl_R (by omega) (by omega) (by omega) (fun _ _ _ => ?_)
    | refine ok_rdW hS (by omega) rfl (by omega) (by omega) (by omega) (fun _ => ?_)
    | refine ok_wrAE hS (by omega) rfl (by omega) (by omega) (by omega) (fun L _ hL => tR_set (by omega) L hL) (fun _ hS hF => ?_)
    | refine ok_wrAE hS (by omega) rfl (by omega) (by omega) (by omega) (fun _ _ _ => trivial) (fun _ hS hF => ?_)
    | refine ok_wrF hS (by omega) rfl rfl (⟨_, rfl⟩ : fZ _) (fun _ hS => ?_)
    | refine ok_wrF hS (by omega) rfl rfl (⟨_, rfl⟩ : fL _) (fun _ hS => ?_)
    | refine ok_wrFE hS (by omega) rfl rfl (by omega) (fun _ hS _ => ?_)
    | (refine ok_if (fun hc => ?_) (fun hc => ?_) <;> try simp (disch := omega) only [wIn] at hc))
theorem tf_X5_status   (hN : 26 ≤ N) (hn : 2 ≤ n ∧ n ≤ 7) {k : Nat} {S : xS} {i0 : Int} (hS : Hp (T5 n nd tl rp im E) N S) (hp : -2147483648 ≤ i0 ∧ i0 < 2147483648) : Ok (f_X5_status k S 0 i0) (fun r S' => Hp (T5 n nd tl rp im E) N S' ∧ True) := by
  unfold f_X5_status
  repeat' (first
    | (refine ok_dead ?_; omega)
    | exact ok_some ⟨hS, by first | trivial | omega⟩
    | (refine ok_bd2 (tf_X5_refuseBad hN hn hS (by first | trivial | omega)) (fun _ _ hQ => ?_); obtain ⟨hS, hQ⟩ := hQ)
    | refine ok_bindE (by assumption) (fun _ => ?_)
    | refine ok_bindE (hF _ _ _ _ (by assumption)) (fun _ => ?_)
    | refine ok_is hS (by omega) rfl ?_
    | refine ok_rdFp hS (by omega) rfl rfl ?_
    | refine ok_rdFiE hS (by omega) rfl rfl (fun _ _ _ _ => ?_)
    | refine ok_rdFz hS (by omega) rfl rfl (fun _ => ?_)
    | refine ok_rdFl hS (by omega) rfl rfl (fun _ => ?_)
    | refine ok_rdA hS (by omega) rfl tR_id (by omega) (by omega) (by omega) (fun _ _ _ => ?_)
    | refine ok_rdA hS (by omega) rfl sl_R (by omega) (by omega) (by omega) (fun _ _ _ => ?_)
    | refine ok_rdW hS (by omega) rfl (by omega) (by omega) (by omega) (fun _ => ?_)
    | refine ok_wrAE hS (by omega) rfl (by omega) (by omega) (by omega) (fun L _ hL => tR_set (by omega) L hL) (fun _ hS hF => ?_)
    | refine ok_wrAE hS (by omega) rfl (by omega) (by omega) (by omega) (fun _ _ _ => trivial) (fun _ hS hF => ?_)
    | refine ok_wrF hS (by omega) rfl rfl (⟨_, rfl⟩ : fZ _) (fun _ hS => ?_)
    | refine ok_wrF hS (by omega) rfl rfl (⟨_, rfl⟩ : fL _) (fun _ hS => ?_)
    | refine ok_wrFE hS (by omega) rfl rfl (by omega) (fun _ hS _ => ?_)
    | (refine ok_if (fun hc => ?_) (fun hc => ?_) <;> try simp (disch := omega) only [wIn] at hc))
theorem tf_X5_howMany   (hN : 26 ≤ N) (hn : 2 ≤ n ∧ n ≤ 7) {k : Nat} {S : xS} {i0 : Int} (hS : Hp (T5 n nd tl rp im E) N S) (hp : -2147483648 ≤ i0 ∧ i0 < 2147483648 ∧ 30 ≤ (k : Int)) : Ok (f_X5_howMany k S 0 i0) (fun r S' => S' = S ∧ True) := by
  unfold f_X5_howMany
  repeat' (first
    | (refine ok_dead ?_; omega)
    | exact ok_some ⟨rfl, by first | trivial | omega⟩
    | (refine ok_bd2 (tf_X1_knownCount hN hn hS (by first | trivial | omega)) (fun _ _ hQ => ?_); obtain ⟨rfl, hQ⟩ := hQ)
    | refine ok_bindE (by assumption) (fun _ => ?_)
    | refine ok_bindE (hF _ _ _ _ (by assumption)) (fun _ => ?_)
    | refine ok_is hS (by omega) rfl ?_
    | refine ok_rdFp hS (by omega) rfl rfl ?_
    | refine ok_rdFiE hS (by omega) rfl rfl (fun _ _ _ _ => ?_)
    | refine ok_rdFz hS (by omega) rfl rfl (fun _ => ?_)
    | refine ok_rdFl hS (by omega) rfl rfl (fun _ => ?_)
    | refine ok_rdA hS (by omega) rfl tR_id (by omega) (by omega) (by omega) (fun _ _ _ => ?_)
    | refine ok_rdA hS (by omega) rfl sl_R (by omega) (by omega) (by omega) (fun _ _ _ => ?_)
    | refine ok_rdW hS (by omega) rfl (by omega) (by omega) (by omega) (fun _ => ?_)
    | refine ok_wrAE hS (by omega) rfl (by omega) (by omega) (by omega) (fun L _ hL => tR_set (by omega) L hL) (fun _ hS hF => ?_)
    | refine ok_wrAE hS (by omega) rfl (by omega) (by omega) (by omega) (fun _ _ _ => trivial) (fun _ hS hF => ?_)
    | refine ok_wrF hS (by omega) rfl rfl (⟨_, rfl⟩ : fZ _) (fun _ hS => ?_)
    | refine ok_wrF hS (by omega) rfl rfl (⟨_, rfl⟩ : fL _) (fun _ hS => ?_)
    | refine ok_wrFE hS (by omega) rfl rfl (by omega) (fun _ hS _ => ?_)
    | (refine ok_if (fun hc => ?_) (fun hc => ?_) <;> try simp (disch := omega) only [wIn] at hc))
theorem tg_X5_count   (hN : 26 ≤ N) (hn : 2 ≤ n ∧ n ≤ 7) : ∀ (k lb : Nat) (S : xS) (i0 : Int), Hp (T5 n nd tl rp im E) N S → ((lb = 0 ∧ -2147483648 ≤ i0 ∧ i0 < 2147483648 ∧ 33 ≤ (k : Int)) ∨ (lb = 1 ∧ 1 ≤ (k : Int))) → Ok (g_X5_count k lb S 0 i0) (fun r S' => Hp (T5 n nd tl rp im E) N S' ∧ True) := by
  intro k
  induction k with
  | zero => intro lb S i0 hS hp; exfalso; omega
  | succ k ih =>
    intro lb S i0 hS hp
    rcases hp with ⟨rfl, hp⟩ | ⟨rfl, hp⟩
    · show Ok (b_X5_count_0 (g_X5_count k) k S 0 i0) _
      unfold b_X5_count_0
      repeat' (first
        | (refine ok_dead ?_; omega)
        | exact ok_some ⟨hS, by first | trivial | omega⟩
        | exact ih 1 _ _ hS (Or.inr (⟨rfl, by omega⟩))
        | (refine ok_bd2 (tf_X5_howMany hN hn hS (by first | trivial | omega)) (fun _ _ hQ => ?_); obtain ⟨rfl, hQ⟩ := hQ)
        | refine ok_bindE (by assumption) (fun _ => ?_)
        | refine ok_bindE (hF _ _ _ _ (by assumption)) (fun _ => ?_)
        | refine ok_is hS (by omega) rfl ?_
        | refine ok_rdFp hS (by omega) rfl rfl ?_
        | refine ok_rdFiE hS (by omega) rfl rfl (fun _ _ _ _ => ?_)
        | refine ok_rdFz hS (by omega) rfl rfl (fun _ => ?_)
        | refine ok_rdFl hS (by omega) rfl rfl (fun _ => ?_)
        | refine ok_rdA hS (by omega) rfl tR_id (by omega) (by omega) (by omega) (fun _ _ _ => ?_)
        | refine ok_rdA hS (by omega) rfl sl_R (by omega) (by omega) (by omega) (fun _ _ _ => ?_)
        | refine ok_rdW hS (by omega) rfl (by omega) (by omega) (by omega) (fun _ => ?_)
        | refine ok_wrAE hS (by omega) rfl (by omega) (by omega) (by omega) (fun L _ hL => tR_set (by omega) L hL) (fun _ hS hF => ?_)
        | refine ok_wrAE hS (by omega) rfl (by omega) (by omega) (by omega) (fun _ _ _ => trivial) (fun _ hS hF => ?_)
        | refine ok_wrF hS (by omega) rfl rfl (⟨_, rfl⟩ : fZ _) (fun _ hS => ?_)
        | refine ok_wrF hS (by omega) rfl rfl (⟨_, rfl⟩ : fL _) (fun _ hS => ?_)
        | refine ok_wrFE hS (by omega) rfl rfl (by omega) (fun _ hS _ => ?_)
        | (refine ok_if (fun hc => ?_) (fun hc => ?_) <;> try simp (disch := omega) only [wIn] at hc))
    · show Ok (b_X5_count_1 (g_X5_count k) k S 0 i0) _
      unfold b_X5_count_1
      repeat' (first
        | (refine ok_dead ?_; omega)
        | exact ok_some ⟨hS, by first | trivial | omega⟩
        | (refine ok_bd2 (tf_X5_refuseBad hN hn hS (by first | trivial | omega)) (fun _ _ hQ => ?_); obtain ⟨hS, hQ⟩ := hQ)
        | refine ok_bindE (by assumption) (fun _ => ?_)
        | refine ok_bindE (hF _ _ _ _ (by assumption)) (fun _ => ?_)
        | refine ok_is hS (by omega) rfl ?_
        | refine ok_rdFp hS (by omega) rfl rfl ?_
        | refine ok_rdFiE hS (by omega) rfl rfl (fun _ _ _ _ => ?_)
        | refine ok_rdFz hS (by omega) rfl rfl (fun _ => ?_)
        | refine ok_rdFl hS (by omega) rfl rfl (fun _ => ?_)
        | refine ok_rdA hS (by omega) rfl tR_id (by omega) (by omega) (by omega) (fun _ _ _ => ?_)
        | refine ok_rdA hS (by omega) rfl sl_R (by omega) (by omega) (by omega) (fun _ _ _ => ?_)
        | refine ok_rdW hS (by omega) rfl (by omega) (by omega) (by omega) (fun _ => ?_)
        | refine ok_wrAE hS (by omega) rfl (by omega) (by omega) (by omega) (fun L _ hL => tR_set (by omega) L hL) (fun _ hS hF => ?_)
        | refine ok_wrAE hS (by omega) rfl (by omega) (by omega) (by omega) (fun _ _ _ => trivial) (fun _ hS hF => ?_)
        | refine ok_wrF hS (by omega) rfl rfl (⟨_, rfl⟩ : fZ _) (fun _ hS => ?_)
        | refine ok_wrF hS (by omega) rfl rfl (⟨_, rfl⟩ : fL _) (fun _ hS => ?_)
        | refine ok_wrFE hS (by omega) rfl rfl (by omega) (fun _ hS _ => ?_)
        | (refine ok_if (fun hc => ?_) (fun hc => ?_) <;> try simp (disch := omega) only [wIn] at hc))
theorem tf_X5_count   (hN : 26 ≤ N) (hn : 2 ≤ n ∧ n ≤ 7) {k : Nat} {S : xS} {i0 : Int} (hS : Hp (T5 n nd tl rp im E) N S) (hp : -2147483648 ≤ i0 ∧ i0 < 2147483648 ∧ 33 ≤ (k : Int)) : Ok (f_X5_count k S 0 i0) (fun r S' => Hp (T5 n nd tl rp im E) N S' ∧ True) :=
  tg_X5_count hN hn k 0 S i0 hS (Or.inl ⟨rfl, hp⟩)
theorem tg_X5_digest   (hN : 26 ≤ N) (hn : 2 ≤ n ∧ n ≤ 7) : ∀ (k lb : Nat) (S : xS) (i0 : Int) (i1 : Int), Hp (T5 n nd tl rp im E) N S → ((lb = 0 ∧ 100 ≤ (k : Int)) ∨ (lb = 1 ∧ 0 ≤ i1 ∧ i1 ≤ 8 ∧ 8 - i1 + 70 ≤ (k : Int)) ∨ (lb = 2 ∧ 0 ≤ i1 ∧ i1 ≤ n ∧ n - i1 + 60 ≤ (k : Int)) ∨ (lb = 3 ∧ 0 ≤ i1 ∧ i1 ≤ n ∧ n - i1 + 40 ≤ (k : Int)) ∨ (lb = 4 ∧ 0 ≤ i1 ∧ i1 ≤ 8 ∧ 8 - i1 + 20 ≤ (k : Int)) ∨ (lb = 5 ∧ 0 ≤ i1 ∧ i1 ≤ 4 ∧ 4 - i1 + 2 ≤ (k : Int))) → Ok (g_X5_digest k lb S 0 i0 i1) (fun r S' => S' = S ∧ True) := by
  intro k
  induction k with
  | zero => intro lb S i0 i1 hS hp; exfalso; omega
  | succ k ih =>
    intro lb S i0 i1 hS hp
    rcases hp with ⟨rfl, hp⟩ | ⟨rfl, hp⟩ | ⟨rfl, hp⟩ | ⟨rfl, hp⟩ | ⟨rfl, hp⟩ | ⟨rfl, hp⟩
    · show Ok (b_X5_digest_0 (g_X5_digest k) k S 0 i0 i1) _
      unfold b_X5_digest_0
      repeat' (first
        | (refine ok_dead ?_; omega)
        | exact ok_some ⟨rfl, by first | trivial | omega⟩
        | exact ih 1 _ _ _ hS (Or.inr (Or.inl ⟨rfl, by omega⟩))
        | refine ok_bindE (by assumption) (fun _ => ?_)
        | refine ok_bindE (hF _ _ _ _ (by assumption)) (fun _ => ?_)
        | refine ok_is hS (by omega) rfl ?_
        | refine ok_rdFp hS (by omega) rfl rfl ?_
        | refine ok_rdFiE hS (by omega) rfl rfl (fun _ _ _ _ => ?_)
        | refine ok_rdFz hS (by omega) rfl rfl (fun _ => ?_)
        | refine ok_rdFl hS (by omega) rfl rfl (fun _ => ?_)
        | refine ok_rdA hS (by omega) rfl tR_id (by omega) (by omega) (by omega) (fun _ _ _ => ?_)
        | refine ok_rdA hS (by omega) rfl sl_R (by omega) (by omega) (by omega) (fun _ _ _ => ?_)
        | refine ok_rdW hS (by omega) rfl (by omega) (by omega) (by omega) (fun _ => ?_)
        | refine ok_wrAE hS (by omega) rfl (by omega) (by omega) (by omega) (fun L _ hL => tR_set (by omega) L hL) (fun _ hS hF => ?_)
        | refine ok_wrAE hS (by omega) rfl (by omega) (by omega) (by omega) (fun _ _ _ => trivial) (fun _ hS hF => ?_)
        | refine ok_wrF hS (by omega) rfl rfl (⟨_, rfl⟩ : fZ _) (fun _ hS => ?_)
        | refine ok_wrF hS (by omega) rfl rfl (⟨_, rfl⟩ : fL _) (fun _ hS => ?_)
        | refine ok_wrFE hS (by omega) rfl rfl (by omega) (fun _ hS _ => ?_)
        | (refine ok_if (fun hc => ?_) (fun hc => ?_) <;> try simp (disch := omega) only [wIn] at hc))
    · show Ok (b_X5_digest_1 (g_X5_digest k) k S 0 i0 i1) _
      unfold b_X5_digest_1
      repeat' (first
        | (refine ok_dead ?_; omega)
        | exact ok_some ⟨rfl, by first | trivial | omega⟩
        | exact ih 1 _ _ _ hS (Or.inr (Or.inl ⟨rfl, by omega⟩))
        | exact ih 2 _ _ _ hS (Or.inr (Or.inr (Or.inl ⟨rfl, by omega⟩)))
        | (refine ok_bd2 (tf_X5_howMany hN hn hS (by first | trivial | omega)) (fun _ _ hQ => ?_); obtain ⟨rfl, hQ⟩ := hQ)
        | refine ok_bindE (by assumption) (fun _ => ?_)
        | refine ok_bindE (hF _ _ _ _ (by assumption)) (fun _ => ?_)
        | refine ok_is hS (by omega) rfl ?_
        | refine ok_rdFp hS (by omega) rfl rfl ?_
        | refine ok_rdFiE hS (by omega) rfl rfl (fun _ _ _ _ => ?_)
        | refine ok_rdFz hS (by omega) rfl rfl (fun _ => ?_)
        | refine ok_rdFl hS (by omega) rfl rfl (fun _ => ?_)
        | refine ok_rdA hS (by omega) rfl tR_id (by omega) (by omega) (by omega) (fun _ _ _ => ?_)
        | refine ok_rdA hS (by omega) rfl sl_R (by omega) (by omega) (by omega) (fun _ _ _ => ?_)
        | refine ok_rdW hS (by omega) rfl (by omega) (by omega) (by omega) (fun _ => ?_)
        | refine ok_wrAE hS (by omega) rfl (by omega) (by omega) (by omega) (fun L _ hL => tR_set (by omega) L hL) (fun _ hS hF => ?_)
        | refine ok_wrAE hS (by omega) rfl (by omega) (by omega) (by omega) (fun _ _ _ => trivial) (fun _ hS hF => ?_)
        | refine ok_wrF hS (by omega) rfl rfl (⟨_, rfl⟩ : fZ _) (fun _ hS => ?_)
        | refine ok_wrF hS (by omega) rfl rfl (⟨_, rfl⟩ : fL _) (fun _ hS => ?_)
        | refine ok_wrFE hS (by omega) rfl rfl (by omega) (fun _ hS _ => ?_)
        | (refine ok_if (fun hc => ?_) (fun hc => ?_) <;> try simp (disch := omega) only [wIn] at hc))
    · show Ok (b_X5_digest_2 (g_X5_digest k) k S 0 i0 i1) _
      unfold b_X5_digest_2
      repeat' (first
        | (refine ok_dead ?_; omega)
        | exact ok_some ⟨rfl, by first | trivial | omega⟩
        | exact ih 2 _ _ _ hS (Or.inr (Or.inr (Or.inl ⟨rfl, by omega⟩)))
        | exact ih 3 _ _ _ hS (Or.inr (Or.inr (Or.inr (Or.inl ⟨rfl, by omega⟩))))
        | refine ok_bindE (by assumption) (fun _ => ?_)
        | refine ok_bindE (hF _ _ _ _ (by assumption)) (fun _ => ?_)
        | refine ok_is hS (by omega) rfl ?_
        | refine ok_rdFp hS (by omega) rfl rfl ?_
        | refine ok_rdFiE hS (by omega) rfl rfl (fun _ _ _ _ => ?_)
        | refine ok_rdFz hS (by omega) rfl rfl (fun _ => ?_)
        | refine ok_rdFl hS (by omega) rfl rfl (fun _ => ?_)
        | refine ok_rdA hS (by omega) rfl tR_id (by omega) (by omega) (by omega) (fun _ _ _ => ?_)
        | refine ok_rdA hS (by omega) rfl sl_R (by omega) (by omega) (by omega) (fun _ _ _ => ?_)
        | refine ok_rdW hS (by omega) rfl (by omega) (by omega) (by omega) (fun _ => ?_)
        | refine ok_wrAE hS (by omega) rfl (by omega) (by omega) (by omega) (fun L _ hL => tR_set (by omega) L hL) (fun _ hS hF => ?_)
        | refine ok_wrAE hS (by omega) rfl (by omega) (by omega) (by omega) (fun _ _ _ => trivial) (fun _ hS hF => ?_)
        | refine ok_wrF hS (by omega) rfl rfl (⟨_, rfl⟩ : fZ _) (fun _ hS => ?_)
        | refine ok_wrF hS (by omega) rfl rfl (⟨_, rfl⟩ : fL _) (fun _ hS => ?_)
        | refine ok_wrFE hS (by omega) rfl rfl (by omega) (fun _ hS _ => ?_)
        | (refine ok_if (fun hc => ?_) (fun hc => ?_) <;> try simp (disch := omega) only [wIn] at hc))
    · show Ok (b_X5_digest_3 (g_X5_digest k) k S 0 i0 i1) _
      unfold b_X5_digest_3
      repeat' (first
        | (refine ok_dead ?_; omega)
        | exact ok_some ⟨rfl, by first | trivial | omega⟩
        | exact ih 3 _ _ _ hS (Or.inr (Or.inr (Or.inr (Or.inl ⟨rfl, by omega⟩))))
        | exact ih 4 _ _ _ hS (Or.inr (Or.inr (Or.inr (Or.inr (Or.inl ⟨rfl, by omega⟩)))))
        | refine ok_bindE (by assumption) (fun _ => ?_)
        | refine ok_bindE (hF _ _ _ _ (by assumption)) (fun _ => ?_)
        | refine ok_is hS (by omega) rfl ?_
        | refine ok_rdFp hS (by omega) rfl rfl ?_
        | refine ok_rdFiE hS (by omega) rfl rfl (fun _ _ _ _ => ?_)
        | refine ok_rdFz hS (by omega) rfl rfl (fun _ => ?_)
        | refine ok_rdFl hS (by omega) rfl rfl (fun _ => ?_)
        | refine ok_rdA hS (by omega) rfl tR_id (by omega) (by omega) (by omega) (fun _ _ _ => ?_)
        | refine ok_rdA hS (by omega) rfl sl_R (by omega) (by omega) (by omega) (fun _ _ _ => ?_)
        | refine ok_rdW hS (by omega) rfl (by omega) (by omega) (by omega) (fun _ => ?_)
        | refine ok_wrAE hS (by omega) rfl (by omega) (by omega) (by omega) (fun L _ hL => tR_set (by omega) L hL) (fun _ hS hF => ?_)
        | refine ok_wrAE hS (by omega) rfl (by omega) (by omega) (by omega) (fun _ _ _ => trivial) (fun _ hS hF => ?_)
        | refine ok_wrF hS (by omega) rfl rfl (⟨_, rfl⟩ : fZ _) (fun _ hS => ?_)
        | refine ok_wrF hS (by omega) rfl rfl (⟨_, rfl⟩ : fL _) (fun _ hS => ?_)
        | refine ok_wrFE hS (by omega) rfl rfl (by omega) (fun _ hS _ => ?_)
        | (refine ok_if (fun hc => ?_) (fun hc => ?_) <;> try simp (disch := omega) only [wIn] at hc))
    · show Ok (b_X5_digest_4 (g_X5_digest k) k S 0 i0 i1) _
      unfold b_X5_digest_4
      repeat' (first
        | (refine ok_dead ?_; omega)
        | exact ok_some ⟨rfl, by first | trivial | omega⟩
        | exact ih 4 _ _ _ hS (Or.inr (Or.inr (Or.inr (Or.inr (Or.inl ⟨rfl, by omega⟩)))))
        | exact ih 5 _ _ _ hS (Or.inr (Or.inr (Or.inr (Or.inr (Or.inr (⟨rfl, by omega⟩))))))
        | refine ok_bindE (by assumption) (fun _ => ?_)
        | refine ok_bindE (hF _ _ _ _ (by assumption)) (fun _ => ?_)
        | refine ok_is hS (by omega) rfl ?_
        | refine ok_rdFp hS (by omega) rfl rfl ?_
        | refine ok_rdFiE hS (by omega) rfl rfl (fun _ _ _ _ => ?_)
        | refine ok_rdFz hS (by omega) rfl rfl (fun _ => ?_)
        | refine ok_rdFl hS (by omega) rfl rfl (fun _ => ?_)
        | refine ok_rdA hS (by omega) rfl tR_id (by omega) (by omega) (by omega) (fun _ _ _ => ?_)
        | refine ok_rdA hS (by omega) rfl sl_R (by omega) (by omega) (by omega) (fun _ _ _ => ?_)
        | refine ok_rdW hS (by omega) rfl (by omega) (by omega) (by omega) (fun _ => ?_)
        | refine ok_wrAE hS (by omega) rfl (by omega) (by omega) (by omega) (fun L _ hL => tR_set (by omega) L hL) (fun _ hS hF => ?_)
        | refine ok_wrAE hS (by omega) rfl (by omega) (by omega) (by omega) (fun _ _ _ => trivial) (fun _ hS hF => ?_)
        | refine ok_wrF hS (by omega) rfl rfl (⟨_, rfl⟩ : fZ _) (fun _ hS => ?_)
        | refine ok_wrF hS (by omega) rfl rfl (⟨_, rfl⟩ : fL _) (fun _ hS => ?_)
        | refine ok_wrFE hS (by omega) rfl rfl (by omega) (fun _ hS _ => ?_)
        | (refine ok_if (fun hc => ?_) (fun hc => ?_) <;> try simp (disch := omega) only [wIn] at hc))
    · show Ok (b_X5_digest_5 (g_X5_digest k) k S 0 i0 i1) _
      unfold b_X5_digest_5
      repeat' (first
        | (refine ok_dead ?_; omega)
        | exact ok_some ⟨rfl, by first | trivial | omega⟩
        | exact ih 5 _ _ _ hS (Or.inr (Or.inr (Or.inr (Or.inr (Or.inr (⟨rfl, by omega⟩))))))
        | refine ok_bindE (by assumption) (fun _ => ?_)
        | refine ok_bindE (hF _ _ _ _ (by assumption)) (fun _ => ?_)
        | refine ok_is hS (by omega) rfl ?_
        | refine ok_rdFp hS (by omega) rfl rfl ?_
        | refine ok_rdFiE hS (by omega) rfl rfl (fun _ _ _ _ => ?_)
        | refine ok_rdFz hS (by omega) rfl rfl (fun _ => ?_)
        | refine ok_rdFl hS (by omega) rfl rfl (fun _ => ?_)
        | refine ok_rdA hS (by omega) rfl tR_id (by omega) (by omega) (by omega) (fun _ _ _ => ?_)
        | refine ok_rdA hS (by omega) rfl sl_R (by omega) (by omega) (by omega) (fun _ _ _ => ?_)
        | refine ok_rdW hS (by omega) rfl (by omega) (by omega) (by omega) (fun _ => ?_)
        | refine ok_wrAE hS (by omega) rfl (by omega) (by omega) (by omega) (fun L _ hL => tR_set (by omega) L hL) (fun _ hS hF => ?_)
        | refine ok_wrAE hS (by omega) rfl (by omega) (by omega) (by omega) (fun _ _ _ => trivial) (fun _ hS hF => ?_)
        | refine ok_wrF hS (by omega) rfl rfl (⟨_, rfl⟩ : fZ _) (fun _ hS => ?_)
        | refine ok_wrF hS (by omega) rfl rfl (⟨_, rfl⟩ : fL _) (fun _ hS => ?_)
        | refine ok_wrFE hS (by omega) rfl rfl (by omega) (fun _ hS _ => ?_)
        | (refine ok_if (fun hc => ?_) (fun hc => ?_) <;> try simp (disch := omega) only [wIn] at hc))
theorem tf_X5_digest   (hN : 26 ≤ N) (hn : 2 ≤ n ∧ n ≤ 7) {k : Nat} {S : xS} (hS : Hp (T5 n nd tl rp im E) N S) (hp : 100 ≤ (k : Int)) : Ok (f_X5_digest k S 0) (fun r S' => S' = S ∧ True) :=
  tg_X5_digest hN hn k 0 S 0 0 hS (Or.inl ⟨rfl, hp⟩)
theorem tg_X5_putLeave   (hN : 26 ≤ N) (hn : 2 ≤ n ∧ n ≤ 7) : ∀ (k lb : Nat) (S : xS) (i0 : Int), Hp (T5 n nd tl rp im E) N S → ((lb = 0 ∧ -2147483648 ≤ i0 ∧ i0 < 2147483648 ∧ 2 ≤ (k : Int)) ∨ (lb = 1 ∧ 1 ≤ (k : Int))) → Ok (g_X5_putLeave k lb S 0 i0) (fun r S' => Hp (T5 n nd tl rp im E) N S' ∧ True) := by
  intro k
  induction k with
  | zero => intro lb S i0 hS hp; exfalso; omega
  | succ k ih =>
    intro lb S i0 hS hp
    rcases hp with ⟨rfl, hp⟩ | ⟨rfl, hp⟩
    · show Ok (b_X5_putLeave_0 (g_X5_putLeave k) k S 0 i0) _
      unfold b_X5_putLeave_0
      repeat' (first
        | (refine ok_dead ?_; omega)
        | exact ok_some ⟨hS, by first | trivial | omega⟩
        | exact ih 1 _ _ hS (Or.inr (⟨rfl, by omega⟩))
        | refine ok_bindE (by assumption) (fun _ => ?_)
        | refine ok_bindE (hF _ _ _ _ (by assumption)) (fun _ => ?_)
        | refine ok_is hS (by omega) rfl ?_
        | refine ok_rdFp hS (by omega) rfl rfl ?_
        | refine ok_rdFiE hS (by omega) rfl rfl (fun _ _ _ _ => ?_)
        | refine ok_rdFz hS (by omega) rfl rfl (fun _ => ?_)
        | refine ok_rdFl hS (by omega) rfl rfl (fun _ => ?_)
        | refine ok_rdA hS (by omega) rfl tR_id (by omega) (by omega) (by omega) (fun _ _ _ => ?_)
        | refine ok_rdA hS (by omega) rfl sl_R (by omega) (by omega) (by omega) (fun _ _ _ => ?_)
        | refine ok_rdW hS (by omega) rfl (by omega) (by omega) (by omega) (fun _ => ?_)
        | refine ok_wrAE hS (by omega) rfl (by omega) (by omega) (by omega) (fun L _ hL => tR_set (by omega) L hL) (fun _ hS hF => ?_)
        | refine ok_wrAE hS (by omega) rfl (by omega) (by omega) (by omega) (fun _ _ _ => trivial) (fun _ hS hF => ?_)
        | refine ok_wrF hS (by omega) rfl rfl (⟨_, rfl⟩ : fZ _) (fun _ hS => ?_)
        | refine ok_wrF hS (by omega) rfl rfl (⟨_, rfl⟩ : fL _) (fun _ hS => ?_)
        | refine ok_wrFE hS (by omega) rfl rfl (by omega) (fun _ hS _ => ?_)
        | (refine ok_if (fun hc => ?_) (fun hc => ?_) <;> try simp (disch := omega) only [wIn] at hc))
    · show Ok (b_X5_putLeave_1 (g_X5_putLeave k) k S 0 i0) _
      unfold b_X5_putLeave_1
      repeat' (first
        | (refine ok_dead ?_; omega)
        | exact ok_some ⟨hS, by first | trivial | omega⟩
        | (refine ok_bd2 (tf_X5_refuseBad hN hn hS (by first | trivial | omega)) (fun _ _ hQ => ?_); obtain ⟨hS, hQ⟩ := hQ)
        | refine ok_bindE (by assumption) (fun _ => ?_)
        | refine ok_bindE (hF _ _ _ _ (by assumption)) (fun _ => ?_)
        | refine ok_is hS (by omega) rfl ?_
        | refine ok_rdFp hS (by omega) rfl rfl ?_
        | refine ok_rdFiE hS (by omega) rfl rfl (fun _ _ _ _ => ?_)
        | refine ok_rdFz hS (by omega) rfl rfl (fun _ => ?_)
        | refine ok_rdFl hS (by omega) rfl rfl (fun _ => ?_)
        | refine ok_rdA hS (by omega) rfl tR_id (by omega) (by omega) (by omega) (fun _ _ _ => ?_)
        | refine ok_rdA hS (by omega) rfl sl_R (by omega) (by omega) (by omega) (fun _ _ _ => ?_)
        | refine ok_rdW hS (by omega) rfl (by omega) (by omega) (by omega) (fun _ => ?_)
        | refine ok_wrAE hS (by omega) rfl (by omega) (by omega) (by omega) (fun L _ hL => tR_set (by omega) L hL) (fun _ hS hF => ?_)
        | refine ok_wrAE hS (by omega) rfl (by omega) (by omega) (by omega) (fun _ _ _ => trivial) (fun _ hS hF => ?_)
        | refine ok_wrF hS (by omega) rfl rfl (⟨_, rfl⟩ : fZ _) (fun _ hS => ?_)
        | refine ok_wrF hS (by omega) rfl rfl (⟨_, rfl⟩ : fL _) (fun _ hS => ?_)
        | refine ok_wrFE hS (by omega) rfl rfl (by omega) (fun _ hS _ => ?_)
        | (refine ok_if (fun hc => ?_) (fun hc => ?_) <;> try simp (disch := omega) only [wIn] at hc))
theorem tf_X5_putLeave   (hN : 26 ≤ N) (hn : 2 ≤ n ∧ n ≤ 7) {k : Nat} {S : xS} {i0 : Int} (hS : Hp (T5 n nd tl rp im E) N S) (hp : -2147483648 ≤ i0 ∧ i0 < 2147483648 ∧ 2 ≤ (k : Int)) : Ok (f_X5_putLeave k S 0 i0) (fun r S' => Hp (T5 n nd tl rp im E) N S' ∧ True) :=
  tg_X5_putLeave hN hn k 0 S i0 hS (Or.inl ⟨rfl, hp⟩)
theorem tg_X5_put   (hN : 26 ≤ N) (hn : 2 ≤ n ∧ n ≤ 7) : ∀ (k lb : Nat) (S : xS) (i0 : Int) (i1 : Int), Hp (T5 n nd tl rp im E) N S → ((lb = 0 ∧ -2147483648 ≤ i0 ∧ i0 < 2147483648 ∧ -2147483648 ≤ i1 ∧ i1 < 2147483648 ∧ 4 ≤ (k : Int)) ∨ (lb = 1 ∧ 1 ≤ (k : Int))) → Ok (g_X5_put k lb S 0 i0 i1) (fun r S' => Hp (T5 n nd tl rp im E) N S' ∧ True) := by
  intro k
  induction k with
  | zero => intro lb S i0 i1 hS hp; exfalso; omega
  | succ k ih =>
    intro lb S i0 i1 hS hp
    rcases hp with ⟨rfl, hp⟩ | ⟨rfl, hp⟩
    · show Ok (b_X5_put_0 (g_X5_put k) k S 0 i0 i1) _
      unfold b_X5_put_0
      repeat' (first
        | (refine ok_dead ?_; omega)
        | exact ok_some ⟨hS, by first | trivial | omega⟩
        | exact ih 1 _ _ _ hS (Or.inr (⟨rfl, by omega⟩))
        | (refine ok_bd2 (tf_X5_putLeave hN hn hS (by first | trivial | omega)) (fun _ _ hQ => ?_); obtain ⟨hS, hQ⟩ := hQ)
        | refine ok_bindE (by assumption) (fun _ => ?_)
        | refine ok_bindE (hF _ _ _ _ (by assumption)) (fun _ => ?_)
        | refine ok_is hS (by omega) rfl ?_
        | refine ok_rdFp hS (by omega) rfl rfl ?_
        | refine ok_rdFiE hS (by omega) rfl rfl (fun _ _ _ _ => ?_)
        | refine ok_rdFz hS (by omega) rfl rfl (fun _ => ?_)
        | refine ok_rdFl hS (by omega) rfl rfl (fun _ => ?_)
        | refine ok_rdA hS (by omega) rfl tR_id (by omega) (by omega) (by omega) (fun _ _ _ => ?_)
        | refine ok_rdA hS (by omega) rfl sl_R (by omega) (by omega) (by omega) (fun _ _ _ => ?_)
        | refine ok_rdW hS (by omega) rfl (by omega) (by omega) (by omega) (fun _ => ?_)
        | refine ok_wrAE hS (by omega) rfl (by omega) (by omega) (by omega) (fun L _ hL => tR_set (by omega) L hL) (fun _ hS hF => ?_)
        | refine ok_wrAE hS (by omega) rfl (by omega) (by omega) (by omega) (fun _ _ _ => trivial) (fun _ hS hF => ?_)
        | refine ok_wrF hS (by omega) rfl rfl (⟨_, rfl⟩ : fZ _) (fun _ hS => ?_)
        | refine ok_wrF hS (by omega) rfl rfl (⟨_, rfl⟩ : fL _) (fun _ hS => ?_)
        | refine ok_wrFE hS (by omega) rfl rfl (by omega) (fun _ hS _ => ?_)
        | (refine ok_if (fun hc => ?_) (fun hc => ?_) <;> try simp (disch := omega) only [wIn] at hc))
    · show Ok (b_X5_put_1 (g_X5_put k) k S 0 i0 i1) _
      unfold b_X5_put_1
      repeat' (first
        | (refine ok_dead ?_; omega)
        | exact ok_some ⟨hS, by first | trivial | omega⟩
        | (refine ok_bd2 (tf_X5_refuseBad hN hn hS (by first | trivial | omega)) (fun _ _ hQ => ?_); obtain ⟨hS, hQ⟩ := hQ)
        | refine ok_bindE (by assumption) (fun _ => ?_)
        | refine ok_bindE (hF _ _ _ _ (by assumption)) (fun _ => ?_)
        | refine ok_is hS (by omega) rfl ?_
        | refine ok_rdFp hS (by omega) rfl rfl ?_
        | refine ok_rdFiE hS (by omega) rfl rfl (fun _ _ _ _ => ?_)
        | refine ok_rdFz hS (by omega) rfl rfl (fun _ => ?_)
        | refine ok_rdFl hS (by omega) rfl rfl (fun _ => ?_)
        | refine ok_rdA hS (by omega) rfl tR_id (by omega) (by omega) (by omega) (fun _ _ _ => ?_)
        | refine ok_rdA hS (by omega) rfl sl_R (by omega) (by omega) (by omega) (fun _ _ _ => ?_)
        | refine ok_rdW hS (by omega) rfl (by omega) (by omega) (by omega) (fun _ => ?_)
        | refine ok_wrAE hS (by omega) rfl (by omega) (by omega) (by omega) (fun L _ hL => tR_set (by omega) L hL) (fun _ hS hF => ?_)
        | refine ok_wrAE hS (by omega) rfl (by omega) (by omega) (by omega) (fun _ _ _ => trivial) (fun _ hS hF => ?_)
        | refine ok_wrF hS (by omega) rfl rfl (⟨_, rfl⟩ : fZ _) (fun _ hS => ?_)
        | refine ok_wrF hS (by omega) rfl rfl (⟨_, rfl⟩ : fL _) (fun _ hS => ?_)
        | refine ok_wrFE hS (by omega) rfl rfl (by omega) (fun _ hS _ => ?_)
        | (refine ok_if (fun hc => ?_) (fun hc => ?_) <;> try simp (disch := omega) only [wIn] at hc))
theorem tf_X5_put   (hN : 26 ≤ N) (hn : 2 ≤ n ∧ n ≤ 7) {k : Nat} {S : xS} {i0 : Int} {i1 : Int} (hS : Hp (T5 n nd tl rp im E) N S) (hp : -2147483648 ≤ i0 ∧ i0 < 2147483648 ∧ -2147483648 ≤ i1 ∧ i1 < 2147483648 ∧ 4 ≤ (k : Int)) : Ok (f_X5_put k S 0 i0 i1) (fun r S' => Hp (T5 n nd tl rp im E) N S' ∧ True) :=
  tg_X5_put hN hn k 0 S i0 i1 hS (Or.inl ⟨rfl, hp⟩)
theorem tg_X5_rule   (hN : 26 ≤ N) (hn : 2 ≤ n ∧ n ≤ 7) : ∀ (k lb : Nat) (S : xS) (i0 : Int) (i1 : Int), Hp (T5 n nd tl rp im E) N S → ((lb = 0 ∧ -2147483648 ≤ i0 ∧ i0 < 2147483648 ∧ -2147483648 ≤ i1 ∧ i1 < 2147483648 ∧ 4 ≤ (k : Int)) ∨ (lb = 1 ∧ 1 ≤ (k : Int))) → Ok (g_X5_rule k lb S 0 i0 i1) (fun r S' => Hp (T5 n nd tl rp im E) N S' ∧ True) := by
  intro k
  induction k with
  | zero => intro lb S i0 i1 hS hp; exfalso; omega
  | succ k ih =>
    intro lb S i0 i1 hS hp
    rcases hp with ⟨rfl, hp⟩ | ⟨rfl, hp⟩
    · show Ok (b_X5_rule_0 (g_X5_rule k) k S 0 i0 i1) _
      unfold b_X5_rule_0
      repeat' (first
        | (refine ok_dead ?_; omega)
        | exact ok_some ⟨hS, by first | trivial | omega⟩
        | exact ih 1 _ _ _ hS (Or.inr (⟨rfl, by omega⟩))
        | (refine ok_bd2 (tf_X5_isNoBox hN hn hS (by first | trivial | omega)) (fun _ _ hQ => ?_); obtain ⟨rfl, hQ⟩ := hQ)
        | refine ok_bindE (by assumption) (fun _ => ?_)
        | refine ok_bindE (hF _ _ _ _ (by assumption)) (fun _ => ?_)
        | refine ok_is hS (by omega) rfl ?_
        | refine ok_rdFp hS (by omega) rfl rfl ?_
        | refine ok_rdFiE hS (by omega) rfl rfl (fun _ _ _ _ => ?_)
        | refine ok_rdFz hS (by omega) rfl rfl (fun _ => ?_)
        | refine ok_rdFl hS (by omega) rfl rfl (fun _ => ?_)
        | refine ok_rdA hS (by omega) rfl tR_id (by omega) (by omega) (by omega) (fun _ _ _ => ?_)
        | refine ok_rdA hS (by omega) rfl sl_R (by omega) (by omega) (by omega) (fun _ _ _ => ?_)
        | refine ok_rdW hS (by omega) rfl (by omega) (by omega) (by omega) (fun _ => ?_)
        | refine ok_wrAE hS (by omega) rfl (by omega) (by omega) (by omega) (fun L _ hL => tR_set (by omega) L hL) (fun _ hS hF => ?_)
        | refine ok_wrAE hS (by omega) rfl (by omega) (by omega) (by omega) (fun _ _ _ => trivial) (fun _ hS hF => ?_)
        | refine ok_wrF hS (by omega) rfl rfl (⟨_, rfl⟩ : fZ _) (fun _ hS => ?_)
        | refine ok_wrF hS (by omega) rfl rfl (⟨_, rfl⟩ : fL _) (fun _ hS => ?_)
        | refine ok_wrFE hS (by omega) rfl rfl (by omega) (fun _ hS _ => ?_)
        | (refine ok_if (fun hc => ?_) (fun hc => ?_) <;> try simp (disch := omega) only [wIn] at hc))
    · show Ok (b_X5_rule_1 (g_X5_rule k) k S 0 i0 i1) _
      unfold b_X5_rule_1
      repeat' (first
        | (refine ok_dead ?_; omega)
        | exact ok_some ⟨hS, by first | trivial | omega⟩
        | (refine ok_bd2 (tf_X5_refuseBad hN hn hS (by first | trivial | omega)) (fun _ _ hQ => ?_); obtain ⟨hS, hQ⟩ := hQ)
        | refine ok_bindE (by assumption) (fun _ => ?_)
        | refine ok_bindE (hF _ _ _ _ (by assumption)) (fun _ => ?_)
        | refine ok_is hS (by omega) rfl ?_
        | refine ok_rdFp hS (by omega) rfl rfl ?_
        | refine ok_rdFiE hS (by omega) rfl rfl (fun _ _ _ _ => ?_)
        | refine ok_rdFz hS (by omega) rfl rfl (fun _ => ?_)
        | refine ok_rdFl hS (by omega) rfl rfl (fun _ => ?_)
        | refine ok_rdA hS (by omega) rfl tR_id (by omega) (by omega) (by omega) (fun _ _ _ => ?_)
        | refine ok_rdA hS (by omega) rfl sl_R (by omega) (by omega) (by omega) (fun _ _ _ => ?_)
        | refine ok_rdW hS (by omega) rfl (by omega) (by omega) (by omega) (fun _ => ?_)
        | refine ok_wrAE hS (by omega) rfl (by omega) (by omega) (by omega) (fun L _ hL => tR_set (by omega) L hL) (fun _ hS hF => ?_)
        | refine ok_wrAE hS (by omega) rfl (by omega) (by omega) (by omega) (fun _ _ _ => trivial) (fun _ hS hF => ?_)
        | refine ok_wrF hS (by omega) rfl rfl (⟨_, rfl⟩ : fZ _) (fun _ hS => ?_)
        | refine ok_wrF hS (by omega) rfl rfl (⟨_, rfl⟩ : fL _) (fun _ hS => ?_)
        | refine ok_wrFE hS (by omega) rfl rfl (by omega) (fun _ hS _ => ?_)
        | (refine ok_if (fun hc => ?_) (fun hc => ?_) <;> try simp (disch := omega) only [wIn] at hc))
theorem tf_X5_rule   (hN : 26 ≤ N) (hn : 2 ≤ n ∧ n ≤ 7) {k : Nat} {S : xS} {i0 : Int} {i1 : Int} (hS : Hp (T5 n nd tl rp im E) N S) (hp : -2147483648 ≤ i0 ∧ i0 < 2147483648 ∧ -2147483648 ≤ i1 ∧ i1 < 2147483648 ∧ 4 ≤ (k : Int)) : Ok (f_X5_rule k S 0 i0 i1) (fun r S' => Hp (T5 n nd tl rp im E) N S' ∧ True) :=
  tg_X5_rule hN hn k 0 S i0 i1 hS (Or.inl ⟨rfl, hp⟩)
theorem tg_X5_know   (hN : 26 ≤ N) (hn : 2 ≤ n ∧ n ≤ 7) : ∀ (k lb : Nat) (S : xS) (i0 : Int) (i1 : Int), Hp (T5 n nd tl rp im E) N S → ((lb = 0 ∧ -2147483648 ≤ i0 ∧ i0 < 2147483648 ∧ -2147483648 ≤ i1 ∧ i1 < 2147483648 ∧ 30 ≤ (k : Int)) ∨ (lb = 1 ∧ 1 ≤ (k : Int)) ∨ (lb = 2 ∧ 1 ≤ (k : Int))) → Ok (g_X5_know k lb S 0 i0 i1) (fun r S' => Hp (T5 n nd tl rp im E) N S' ∧ True) := by
  intro k
  induction k with
  | zero => intro lb S i0 i1 hS hp; exfalso; omega
  | succ k ih =>
    intro lb S i0 i1 hS hp
    rcases hp with ⟨rfl, hp⟩ | ⟨rfl, hp⟩ | ⟨rfl, hp⟩
    · show Ok (b_X5_know_0 (g_X5_know k) k S 0 i0 i1) _
      unfold b_X5_know_0
      repeat' (first
        | (refine ok_dead ?_; omega)
        | exact ok_some ⟨hS, by first | trivial | omega⟩
        | exact ih 1 _ _ _ hS (Or.inr (Or.inl ⟨rfl, by omega⟩))
        | exact ih 2 _ _ _ hS (Or.inr (Or.inr (⟨rfl, by omega⟩)))
        | (refine ok_bd2 (tf_X5_isNoBox hN hn hS (by first | trivial | omega)) (fun _ _ hQ => ?_); obtain ⟨rfl, hQ⟩ := hQ)
        | (refine ok_bd2 (tf_X1_isKnownSlip hN hn hS (by first | trivial | omega)) (fun _ _ hQ => ?_); obtain ⟨rfl, hQ⟩ := hQ)
        | refine ok_bindE (by assumption) (fun _ => ?_)
        | refine ok_bindE (hF _ _ _ _ (by assumption)) (fun _ => ?_)
        | refine ok_is hS (by omega) rfl ?_
        | refine ok_rdFp hS (by omega) rfl rfl ?_
        | refine ok_rdFiE hS (by omega) rfl rfl (fun _ _ _ _ => ?_)
        | refine ok_rdFz hS (by omega) rfl rfl (fun _ => ?_)
        | refine ok_rdFl hS (by omega) rfl rfl (fun _ => ?_)
        | refine ok_rdA hS (by omega) rfl tR_id (by omega) (by omega) (by omega) (fun _ _ _ => ?_)
        | refine ok_rdA hS (by omega) rfl sl_R (by omega) (by omega) (by omega) (fun _ _ _ => ?_)
        | refine ok_rdW hS (by omega) rfl (by omega) (by omega) (by omega) (fun _ => ?_)
        | refine ok_wrAE hS (by omega) rfl (by omega) (by omega) (by omega) (fun L _ hL => tR_set (by omega) L hL) (fun _ hS hF => ?_)
        | refine ok_wrAE hS (by omega) rfl (by omega) (by omega) (by omega) (fun _ _ _ => trivial) (fun _ hS hF => ?_)
        | refine ok_wrF hS (by omega) rfl rfl (⟨_, rfl⟩ : fZ _) (fun _ hS => ?_)
        | refine ok_wrF hS (by omega) rfl rfl (⟨_, rfl⟩ : fL _) (fun _ hS => ?_)
        | refine ok_wrFE hS (by omega) rfl rfl (by omega) (fun _ hS _ => ?_)
        | (refine ok_if (fun hc => ?_) (fun hc => ?_) <;> try simp (disch := omega) only [wIn] at hc))
    · show Ok (b_X5_know_1 (g_X5_know k) k S 0 i0 i1) _
      unfold b_X5_know_1
      repeat' (first
        | (refine ok_dead ?_; omega)
        | exact ok_some ⟨hS, by first | trivial | omega⟩
        | (refine ok_bd2 (tf_X5_refuseBad hN hn hS (by first | trivial | omega)) (fun _ _ hQ => ?_); obtain ⟨hS, hQ⟩ := hQ)
        | refine ok_bindE (by assumption) (fun _ => ?_)
        | refine ok_bindE (hF _ _ _ _ (by assumption)) (fun _ => ?_)
        | refine ok_is hS (by omega) rfl ?_
        | refine ok_rdFp hS (by omega) rfl rfl ?_
        | refine ok_rdFiE hS (by omega) rfl rfl (fun _ _ _ _ => ?_)
        | refine ok_rdFz hS (by omega) rfl rfl (fun _ => ?_)
        | refine ok_rdFl hS (by omega) rfl rfl (fun _ => ?_)
        | refine ok_rdA hS (by omega) rfl tR_id (by omega) (by omega) (by omega) (fun _ _ _ => ?_)
        | refine ok_rdA hS (by omega) rfl sl_R (by omega) (by omega) (by omega) (fun _ _ _ => ?_)
        | refine ok_rdW hS (by omega) rfl (by omega) (by omega) (by omega) (fun _ => ?_)
        | refine ok_wrAE hS (by omega) rfl (by omega) (by omega) (by omega) (fun L _ hL => tR_set (by omega) L hL) (fun _ hS hF => ?_)
        | refine ok_wrAE hS (by omega) rfl (by omega) (by omega) (by omega) (fun _ _ _ => trivial) (fun _ hS hF => ?_)
        | refine ok_wrF hS (by omega) rfl rfl (⟨_, rfl⟩ : fZ _) (fun _ hS => ?_)
        | refine ok_wrF hS (by omega) rfl rfl (⟨_, rfl⟩ : fL _) (fun _ hS => ?_)
        | refine ok_wrFE hS (by omega) rfl rfl (by omega) (fun _ hS _ => ?_)
        | (refine ok_if (fun hc => ?_) (fun hc => ?_) <;> try simp (disch := omega) only [wIn] at hc))
    · show Ok (b_X5_know_2 (g_X5_know k) k S 0 i0 i1) _
      unfold b_X5_know_2
      repeat' (first
        | (refine ok_dead ?_; omega)
        | exact ok_some ⟨hS, by first | trivial | omega⟩
        | (refine ok_bd2 (tf_X5_refuseNo hN hn hS (by first | trivial | omega)) (fun _ _ hQ => ?_); obtain ⟨hS, hQ⟩ := hQ)
        | refine ok_bindE (by assumption) (fun _ => ?_)
        | refine ok_bindE (hF _ _ _ _ (by assumption)) (fun _ => ?_)
        | refine ok_is hS (by omega) rfl ?_
        | refine ok_rdFp hS (by omega) rfl rfl ?_
        | refine ok_rdFiE hS (by omega) rfl rfl (fun _ _ _ _ => ?_)
        | refine ok_rdFz hS (by omega) rfl rfl (fun _ => ?_)
        | refine ok_rdFl hS (by omega) rfl rfl (fun _ => ?_)
        | refine ok_rdA hS (by omega) rfl tR_id (by omega) (by omega) (by omega) (fun _ _ _ => ?_)
        | refine ok_rdA hS (by omega) rfl sl_R (by omega) (by omega) (by omega) (fun _ _ _ => ?_)
        | refine ok_rdW hS (by omega) rfl (by omega) (by omega) (by omega) (fun _ => ?_)
        | refine ok_wrAE hS (by omega) rfl (by omega) (by omega) (by omega) (fun L _ hL => tR_set (by omega) L hL) (fun _ hS hF => ?_)
        | refine ok_wrAE hS (by omega) rfl (by omega) (by omega) (by omega) (fun _ _ _ => trivial) (fun _ hS hF => ?_)
        | refine ok_wrF hS (by omega) rfl rfl (⟨_, rfl⟩ : fZ _) (fun _ hS => ?_)
        | refine ok_wrF hS (by omega) rfl rfl (⟨_, rfl⟩ : fL _) (fun _ hS => ?_)
        | refine ok_wrFE hS (by omega) rfl rfl (by omega) (fun _ hS _ => ?_)
        | (refine ok_if (fun hc => ?_) (fun hc => ?_) <;> try simp (disch := omega) only [wIn] at hc))
theorem tf_X5_know   (hN : 26 ≤ N) (hn : 2 ≤ n ∧ n ≤ 7) {k : Nat} {S : xS} {i0 : Int} {i1 : Int} (hS : Hp (T5 n nd tl rp im E) N S) (hp : -2147483648 ≤ i0 ∧ i0 < 2147483648 ∧ -2147483648 ≤ i1 ∧ i1 < 2147483648 ∧ 30 ≤ (k : Int)) : Ok (f_X5_know k S 0 i0 i1) (fun r S' => Hp (T5 n nd tl rp im E) N S' ∧ True) :=
  tg_X5_know hN hn k 0 S i0 i1 hS (Or.inl ⟨rfl, hp⟩)
theorem tg_X5_report   (hN : 26 ≤ N) (hn : 2 ≤ n ∧ n ≤ 7) : ∀ (k lb : Nat) (S : xS) (i0 : Int) (i1 : Int), Hp (T5 n nd tl rp im E) N S → ((lb = 0 ∧ -2147483648 ≤ i0 ∧ i0 < 2147483648 ∧ -2147483648 ≤ i1 ∧ i1 < 2147483648 ∧ 4 ≤ (k : Int)) ∨ (lb = 1 ∧ 1 ≤ (k : Int))) → Ok (g_X5_report k lb S 0 i0 i1) (fun r S' => Hp (T5 n nd tl rp im E) N S' ∧ True) := by
  intro k
  induction k with
  | zero => intro lb S i0 i1 hS hp; exfalso; omega
  | succ k ih =>
    intro lb S i0 i1 hS hp
    rcases hp with ⟨rfl, hp⟩ | ⟨rfl, hp⟩
    · show Ok (b_X5_report_0 (g_X5_report k) k S 0 i0 i1) _
      unfold b_X5_report_0
      repeat' (first
        | (refine ok_dead ?_; omega)
        | exact ok_some ⟨hS, by first | trivial | omega⟩
        | exact ih 1 _ _ _ hS (Or.inr (⟨rfl, by omega⟩))
        | (refine ok_bd2 (tf_X5_isNoBox hN hn hS (by first | trivial | omega)) (fun _ _ hQ => ?_); obtain ⟨rfl, hQ⟩ := hQ)
        | (refine ok_bd2 (tf_X1_addReport hN hn hS (by first | trivial | omega)) (fun _ _ hQ => ?_); obtain ⟨hS, hQ⟩ := hQ)
        | (refine ok_bd2 (tf_X5_refuseFull hN hn hS (by first | trivial | omega)) (fun _ _ hQ => ?_); obtain ⟨hS, hQ⟩ := hQ)
        | refine ok_bindE (by assumption) (fun _ => ?_)
        | refine ok_bindE (hF _ _ _ _ (by assumption)) (fun _ => ?_)
        | refine ok_is hS (by omega) rfl ?_
        | refine ok_rdFp hS (by omega) rfl rfl ?_
        | refine ok_rdFiE hS (by omega) rfl rfl (fun _ _ _ _ => ?_)
        | refine ok_rdFz hS (by omega) rfl rfl (fun _ => ?_)
        | refine ok_rdFl hS (by omega) rfl rfl (fun _ => ?_)
        | refine ok_rdA hS (by omega) rfl tR_id (by omega) (by omega) (by omega) (fun _ _ _ => ?_)
        | refine ok_rdA hS (by omega) rfl sl_R (by omega) (by omega) (by omega) (fun _ _ _ => ?_)
        | refine ok_rdW hS (by omega) rfl (by omega) (by omega) (by omega) (fun _ => ?_)
        | refine ok_wrAE hS (by omega) rfl (by omega) (by omega) (by omega) (fun L _ hL => tR_set (by omega) L hL) (fun _ hS hF => ?_)
        | refine ok_wrAE hS (by omega) rfl (by omega) (by omega) (by omega) (fun _ _ _ => trivial) (fun _ hS hF => ?_)
        | refine ok_wrF hS (by omega) rfl rfl (⟨_, rfl⟩ : fZ _) (fun _ hS => ?_)
        | refine ok_wrF hS (by omega) rfl rfl (⟨_, rfl⟩ : fL _) (fun _ hS => ?_)
        | refine ok_wrFE hS (by omega) rfl rfl (by omega) (fun _ hS _ => ?_)
        | (refine ok_if (fun hc => ?_) (fun hc => ?_) <;> try simp (disch := omega) only [wIn] at hc))
    · show Ok (b_X5_report_1 (g_X5_report k) k S 0 i0 i1) _
      unfold b_X5_report_1
      repeat' (first
        | (refine ok_dead ?_; omega)
        | exact ok_some ⟨hS, by first | trivial | omega⟩
        | (refine ok_bd2 (tf_X5_refuseBad hN hn hS (by first | trivial | omega)) (fun _ _ hQ => ?_); obtain ⟨hS, hQ⟩ := hQ)
        | refine ok_bindE (by assumption) (fun _ => ?_)
        | refine ok_bindE (hF _ _ _ _ (by assumption)) (fun _ => ?_)
        | refine ok_is hS (by omega) rfl ?_
        | refine ok_rdFp hS (by omega) rfl rfl ?_
        | refine ok_rdFiE hS (by omega) rfl rfl (fun _ _ _ _ => ?_)
        | refine ok_rdFz hS (by omega) rfl rfl (fun _ => ?_)
        | refine ok_rdFl hS (by omega) rfl rfl (fun _ => ?_)
        | refine ok_rdA hS (by omega) rfl tR_id (by omega) (by omega) (by omega) (fun _ _ _ => ?_)
        | refine ok_rdA hS (by omega) rfl sl_R (by omega) (by omega) (by omega) (fun _ _ _ => ?_)
        | refine ok_rdW hS (by omega) rfl (by omega) (by omega) (by omega) (fun _ => ?_)
        | refine ok_wrAE hS (by omega) rfl (by omega) (by omega) (by omega) (fun L _ hL => tR_set (by omega) L hL) (fun _ hS hF => ?_)
        | refine ok_wrAE hS (by omega) rfl (by omega) (by omega) (by omega) (fun _ _ _ => trivial) (fun _ hS hF => ?_)
        | refine ok_wrF hS (by omega) rfl rfl (⟨_, rfl⟩ : fZ _) (fun _ hS => ?_)
        | refine ok_wrF hS (by omega) rfl rfl (⟨_, rfl⟩ : fL _) (fun _ hS => ?_)
        | refine ok_wrFE hS (by omega) rfl rfl (by omega) (fun _ hS _ => ?_)
        | (refine ok_if (fun hc => ?_) (fun hc => ?_) <;> try simp (disch := omega) only [wIn] at hc))
theorem tf_X5_report   (hN : 26 ≤ N) (hn : 2 ≤ n ∧ n ≤ 7) {k : Nat} {S : xS} {i0 : Int} {i1 : Int} (hS : Hp (T5 n nd tl rp im E) N S) (hp : -2147483648 ≤ i0 ∧ i0 < 2147483648 ∧ -2147483648 ≤ i1 ∧ i1 < 2147483648 ∧ 4 ≤ (k : Int)) : Ok (f_X5_report k S 0 i0 i1) (fun r S' => Hp (T5 n nd tl rp im E) N S' ∧ True) :=
  tg_X5_report hN hn k 0 S i0 i1 hS (Or.inl ⟨rfl, hp⟩)
theorem tf_X5_forget   (hN : 26 ≤ N) (hn : 2 ≤ n ∧ n ≤ 7) {k : Nat} {S : xS} {i0 : Int} (hS : Hp (T5 n nd tl rp im E) N S) (hp : -2147483648 ≤ i0 ∧ i0 < 2147483648 ∧ 30 ≤ (k : Int)) : Ok (f_X5_forget k S 0 i0) (fun r S' => Hp (T5 n nd tl rp im E) N S' ∧ True) := by
  unfold f_X5_forget
  repeat' (first
    | (refine ok_dead ?_; omega)
    | exact ok_some ⟨hS, by first | trivial | omega⟩
    | (refine ok_bd2 (tf_X1_knownCount hN hn hS (by first | trivial | omega)) (fun _ _ hQ => ?_); obtain ⟨rfl, hQ⟩ := hQ)
    | (refine ok_bd2 (tf_J7_fill_53178 (G := T5 n nd tl rp im E) (by omega) rfl (by omega) (fun _ _ _ => trivial) hS (by first | trivial | omega)) (fun _ _ hQ => ?_); obtain ⟨hS, hQ⟩ := hQ)
    | (refine ok_bd2 (tf_X5_refuseBad hN hn hS (by first | trivial | omega)) (fun _ _ hQ => ?_); obtain ⟨hS, hQ⟩ := hQ)
    | refine ok_bindE (by assumption) (fun _ => ?_)
    | refine ok_bindE (hF _ _ _ _ (by assumption)) (fun _ => ?_)
    | refine ok_is hS (by omega) rfl ?_
    | refine ok_rdFp hS (by omega) rfl rfl ?_
    | refine ok_rdFiE hS (by omega) rfl rfl (fun _ _ _ _ => ?_)
    | refine ok_rdFz hS (by omega) rfl rfl (fun _ => ?_)
    | refine ok_rdFl hS (by omega) rfl rfl (fun _ => ?_)
    | refine ok_rdA hS (by omega) rfl tR_id (by omega) (by omega) (by omega) (fun _ _ _ => ?_)
    | refine ok_rdA hS (by omega) rfl sl_R (by omega) (by omega) (by omega) (fun _ _ _ => ?_)
    | refine ok_rdW hS (by omega) rfl (by omega) (by omega) (by omega) (fun _ => ?_)
    | refine ok_wrAE hS (by omega) rfl (by omega) (by omega) (by omega) (fun L _ hL => tR_set (by omega) L hL) (fun _ hS hF => ?_)
    | refine ok_wrAE hS (by omega) rfl (by omega) (by omega) (by omega) (fun _ _ _ => trivial) (fun _ hS hF => ?_)
    | refine ok_wrF hS (by omega) rfl rfl (⟨_, rfl⟩ : fZ _) (fun _ hS => ?_)
    | refine ok_wrF hS (by omega) rfl rfl (⟨_, rfl⟩ : fL _) (fun _ hS => ?_)
    | refine ok_wrFE hS (by omega) rfl rfl (by omega) (fun _ hS _ => ?_)
    | (refine ok_if (fun hc => ?_) (fun hc => ?_) <;> try simp (disch := omega) only [wIn] at hc))
theorem tf_X5_move   (hN : 26 ≤ N) (hn : 2 ≤ n ∧ n ≤ 7) {k : Nat} {S : xS} {i0 : Int} (hS : Hp (T5 n nd tl rp im E) N S) (hp : -2147483648 ≤ i0 ∧ i0 < 2147483648 ∧ 4 ≤ (k : Int)) : Ok (f_X5_move k S 0 i0) (fun r S' => Hp (T5 n nd tl rp im E) N S' ∧ True) := by
  unfold f_X5_move
  repeat' (first
    | (refine ok_dead ?_; omega)
    | exact ok_some ⟨hS, by first | trivial | omega⟩
    | (refine ok_bd2 (tf_X5_isNoRank hN hn hS (by first | trivial | omega)) (fun _ _ hQ => ?_); obtain ⟨rfl, hQ⟩ := hQ)
    | (refine ok_bd2 (tf_X1_addMove hN hn hS (by first | trivial | omega)) (fun _ _ hQ => ?_); obtain ⟨hS, hQ⟩ := hQ)
    | (refine ok_bd2 (tf_X5_refuseFull hN hn hS (by first | trivial | omega)) (fun _ _ hQ => ?_); obtain ⟨hS, hQ⟩ := hQ)
    | (refine ok_bd2 (tf_X5_refuseBad hN hn hS (by first | trivial | omega)) (fun _ _ hQ => ?_); obtain ⟨hS, hQ⟩ := hQ)
    | refine ok_bindE (by assumption) (fun _ => ?_)
    | refine ok_bindE (hF _ _ _ _ (by assumption)) (fun _ => ?_)
    | refine ok_is hS (by omega) rfl ?_
    | refine ok_rdFp hS (by omega) rfl rfl ?_
    | refine ok_rdFiE hS (by omega) rfl rfl (fun _ _ _ _ => ?_)
    | refine ok_rdFz hS (by omega) rfl rfl (fun _ => ?_)
    | refine ok_rdFl hS (by omega) rfl rfl (fun _ => ?_)
    | refine ok_rdA hS (by omega) rfl tR_id (by omega) (by omega) (by omega) (fun _ _ _ => ?_)
    | refine ok_rdA hS (by omega) rfl sl_R (by omega) (by omega) (by omega) (fun _ _ _ => ?_)
    | refine ok_rdW hS (by omega) rfl (by omega) (by omega) (by omega) (fun _ => ?_)
    | refine ok_wrAE hS (by omega) rfl (by omega) (by omega) (by omega) (fun L _ hL => tR_set (by omega) L hL) (fun _ hS hF => ?_)
    | refine ok_wrAE hS (by omega) rfl (by omega) (by omega) (by omega) (fun _ _ _ => trivial) (fun _ hS hF => ?_)
    | refine ok_wrF hS (by omega) rfl rfl (⟨_, rfl⟩ : fZ _) (fun _ hS => ?_)
    | refine ok_wrF hS (by omega) rfl rfl (⟨_, rfl⟩ : fL _) (fun _ hS => ?_)
    | refine ok_wrFE hS (by omega) rfl rfl (by omega) (fun _ hS _ => ?_)
    | (refine ok_if (fun hc => ?_) (fun hc => ?_) <;> try simp (disch := omega) only [wIn] at hc))
theorem tf_X5_drop   (hN : 26 ≤ N) (hn : 2 ≤ n ∧ n ≤ 7) {k : Nat} {S : xS} (hS : Hp (T5 n nd tl rp im E) N S) (hp : True) : Ok (f_X5_drop k S 0) (fun r S' => Hp (T5 n nd tl rp im E) N S' ∧ True) := by
  unfold f_X5_drop
  repeat' (first
    | (refine ok_dead ?_; omega)
    | exact ok_some ⟨hS, by first | trivial | omega⟩
    | (refine ok_bd2 (tf_X5_refuseNo hN hn hS (by first | trivial | omega)) (fun _ _ hQ => ?_); obtain ⟨hS, hQ⟩ := hQ)
    | refine ok_bindE (by assumption) (fun _ => ?_)
    | refine ok_bindE (hF _ _ _ _ (by assumption)) (fun _ => ?_)
    | refine ok_is hS (by omega) rfl ?_
    | refine ok_rdFp hS (by omega) rfl rfl ?_
    | refine ok_rdFiE hS (by omega) rfl rfl (fun _ _ _ _ => ?_)
    | refine ok_rdFz hS (by omega) rfl rfl (fun _ => ?_)
    | refine ok_rdFl hS (by omega) rfl rfl (fun _ => ?_)
    | refine ok_rdA hS (by omega) rfl tR_id (by omega) (by omega) (by omega) (fun _ _ _ => ?_)
    | refine ok_rdA hS (by omega) rfl sl_R (by omega) (by omega) (by omega) (fun _ _ _ => ?_)
    | refine ok_rdW hS (by omega) rfl (by omega) (by omega) (by omega) (fun _ => ?_)
    | refine ok_wrAE hS (by omega) rfl (by omega) (by omega) (by omega) (fun L _ hL => tR_set (by omega) L hL) (fun _ hS hF => ?_)
    | refine ok_wrAE hS (by omega) rfl (by omega) (by omega) (by omega) (fun _ _ _ => trivial) (fun _ hS hF => ?_)
    | refine ok_wrF hS (by omega) rfl rfl (⟨_, rfl⟩ : fZ _) (fun _ hS => ?_)
    | refine ok_wrF hS (by omega) rfl rfl (⟨_, rfl⟩ : fL _) (fun _ hS => ?_)
    | refine ok_wrFE hS (by omega) rfl rfl (by omega) (fun _ hS _ => ?_)
    | (refine ok_if (fun hc => ?_) (fun hc => ?_) <;> try simp (disch := omega) only [wIn] at hc))
