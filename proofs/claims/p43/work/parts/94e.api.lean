variable {n nd tl : Int} {rp : Option Nat} {im : List (Option Nat)} {E : xT} {N : Nat}
theorem tg_J7_fill_53178 {G : xT} {N : Nat} {p0 : Nat} {i0 : Int} {len : Nat} {P0 : List Int → Prop} (q0 : p0 < N) (g0 : G p0 = tA 0 len P0) (l0 : (len : Int) < 6000) (w0 : ∀ (L : List Int) (i : Nat), P0 L → P0 (L.set i i0)) : ∀ (k lb : Nat) (S : xS) (i1 : Int) (i2 : Int), Hp G N S → ((lb = 0 ∧ (len : Int) + 2 ≤ (k : Int)) ∨ (lb = 1 ∧ i2 = (len : Int) ∧ 0 ≤ i1 ∧ i1 ≤ i2 ∧ i2 - i1 + 1 ≤ (k : Int))) → Ok (g_J7_fill_53178 k lb S p0 i0 i1 i2) (fun r S' => Hp G N S' ∧ True) := by
  intro k
  induction k with
  | zero => intro lb S i1 i2 hS hp; exfalso; omega
  | succ k ih =>
    intro lb S i1 i2 hS hp
    rcases hp with ⟨rfl, hp⟩ | ⟨rfl, hp⟩
    · show Ok (b_J7_fill_53178_0 (g_J7_fill_53178 k) k S p0 i0 i1 i2) _
      unfold b_J7_fill_53178_0
      repeat' (first
        | (refine ok_dead ?_; omega)
        | exact ok_some ⟨hS, by first | trivial | omega⟩
        | exact ih 1 _ _ _ hS (Or.inr (⟨rfl, by omega⟩))
        | refine ok_len hS q0 g0 ?_
        | refine ok_wrA hS q0 g0 (by omega) (by omega) (by omega) (fun L _ hL => w0 L _ hL) (fun _ hS => ?_)
        | (refine ok_if (fun hc => ?_) (fun hc => ?_) <;> try simp (disch := omega) only [wIn] at hc))
    · show Ok (b_J7_fill_53178_1 (g_J7_fill_53178 k) k S p0 i0 i1 i2) _
      unfold b_J7_fill_53178_1
      repeat' (first
        | (refine ok_dead ?_; omega)
        | exact ok_some ⟨hS, by first | trivial | omega⟩
        | exact ih 1 _ _ _ hS (Or.inr (⟨rfl, by omega⟩))
        | refine ok_len hS q0 g0 ?_
        | refine ok_wrA hS q0 g0 (by omega) (by omega) (by omega) (fun L _ hL => w0 L _ hL) (fun _ hS => ?_)
        | (refine ok_if (fun hc => ?_) (fun hc => ?_) <;> try simp (disch := omega) only [wIn] at hc))
theorem tf_J7_fill_53178 {G : xT} {N : Nat} {p0 : Nat} {i0 : Int} {len : Nat} {P0 : List Int → Prop} (q0 : p0 < N) (g0 : G p0 = tA 0 len P0) (l0 : (len : Int) < 6000) (w0 : ∀ (L : List Int) (i : Nat), P0 L → P0 (L.set i i0)) {k : Nat} {S : xS} (hS : Hp G N S) (hp : (len : Int) + 2 ≤ (k : Int)) : Ok (f_J7_fill_53178 k S p0 i0) (fun r S' => Hp G N S' ∧ True) :=
  tg_J7_fill_53178 q0 g0 l0 w0 k 0 S 0 0 hS (Or.inl ⟨rfl, hp⟩)
theorem t_sd {v b : Int} (hv : 0 ≤ v ∧ v < 2147483648) (hb : 1 ≤ b ∧ b ≤ 6) : 0 ≤ (wL ((wL v).tdiv (wL 65536))).tmod (wL (wI (b + 1))) ∧ (wL ((wL v).tdiv (wL 65536))).tmod (wL (wI (b + 1))) ≤ 6 := by
  have e : (wL v).tdiv (wL 65536) = v / 65536 := by rw [wL_id (by omega) (by omega), show wL 65536 = 65536 from by decide, Int.tdiv_eq_ediv_of_nonneg hv.1]
  rw [e, wIn (n := b + 1) (by omega) (by omega), wL_id (z := b + 1) (by omega) (by omega), wL_id (by omega) (by omega)]
  have h1 := Int.tmod_nonneg (b + 1) (show 0 ≤ v / 65536 by omega)
  have h2 := Int.tmod_lt_of_pos (v / 65536) (show 0 < b + 1 by omega)
  omega
theorem t_sx {x : Int} (hx : 0 ≤ x ∧ x < 2147483648) : 0 ≤ (wL ((x * 1103515245) + 12345)).tmod (wL 2147483648) ∧ (wL ((x * 1103515245) + 12345)).tmod (wL 2147483648) < 2147483648 := by
  rw [wL_id (by omega) (by omega), show wL 2147483648 = 2147483648 from by decide]
  exact ⟨Int.tmod_nonneg _ (by omega), Int.tmod_lt_of_pos _ (by omega)⟩
theorem tg_X4_setBySeed {G : xT} {N : Nat} {p0 : Nat} {P0 : List Int → Prop} (q0 : p0 < N) (g0 : G p0 = tA 0 7 P0) (r0 : ∀ L, P0 L → tR 0 6 L) (w0 : ∀ (L : List Int) (i : Nat) (x : Int), 0 ≤ x ∧ x ≤ 6 → P0 L → P0 (L.set i x)) : ∀ (k : Nat) (S : xS) (i0 i1 : Int), Hp G N S → (0 ≤ i0 ∧ i0 < 2147483648 ∧ 0 ≤ i1 ∧ i1 ≤ 6 ∧ i1 + 2 ≤ (k : Int)) → Ok (g_X4_setBySeed k 1 S p0 i0 i1) (fun r S' => Hp G N S' ∧ True) := by
  intro k
  induction k with
  | zero => intro S i0 i1 hS hp; exfalso; omega
  | succ k ih =>
    intro S i0 i1 hS hp
    show Ok (b_X4_setBySeed_1 (g_X4_setBySeed k) k S p0 i0 i1) _
    unfold b_X4_setBySeed_1
    refine ok_if (fun hc => ?_) (fun hc => ?_)
    · exact ok_some ⟨hS, trivial⟩
    · rw [wIn (n := i1) (by omega) (by omega), wIn (n := 1) (by omega) (by omega)] at hc
      refine ok_neg (by decide) ?_
      have hx := t_sx (x := i0) (by omega)
      show Ok (if wL 65536 = 0 then none else if wL (wI (i1 + 1)) = 0 then none else bd2 (f_X4_exchange k S p0 i1 ((wL ((wL ((wL ((i0 * 1103515245) + 12345)).tmod (wL 2147483648))).tdiv (wL 65536))).tmod (wL (wI (i1 + 1))))) fun z16 S14 => g_X4_setBySeed k 1 S14 p0 ((wL ((i0 * 1103515245) + 12345)).tmod (wL 2147483648)) (i1 + (-1))) _
      generalize (wL ((i0 * 1103515245) + 12345)).tmod (wL 2147483648) = v at hx ⊢
      refine ok_neg (by decide) (ok_neg (by rw [wIn (n := i1 + 1) (by omega) (by omega), wL_id (by omega) (by omega)]; omega) ?_)
      have hj := t_sd (v := v) (b := i1) hx (by omega)
      refine ok_bd2 (tf_X4_exchange q0 g0 r0 w0 hS ⟨by omega, by omega, hj.1, hj.2⟩) (fun _ _ hQ => ?_)
      obtain ⟨hS, -⟩ := hQ
      exact ih _ _ _ hS (by omega)
theorem tf_X4_setBySeed {G : xT} {N : Nat} {p0 : Nat} {P0 : List Int → Prop} (q0 : p0 < N) (g0 : G p0 = tA 0 7 P0) (r0 : ∀ L, P0 L → tR 0 6 L) (w0 : ∀ (L : List Int) (i : Nat) (x : Int), 0 ≤ x ∧ x ≤ 6 → P0 L → P0 (L.set i x)) {k : Nat} {S : xS} {i0 i1 : Int} (hS : Hp G N S) (hp : 2 ≤ i0 ∧ i0 ≤ 7 ∧ 0 ≤ i1 ∧ i1 < 2147483648 ∧ 14 ≤ (k : Int)) : Ok (f_X4_setBySeed k S p0 i0 i1) (fun r S' => Hp G N S' ∧ True) := by
  obtain ⟨k, rfl⟩ : ∃ k', k = k' + 1 := ⟨k - 1, by omega⟩
  show Ok (b_X4_setBySeed_0 (g_X4_setBySeed k) k S p0 i0 i1) _
  unfold b_X4_setBySeed_0
  refine ok_bd2 (tf_X4_setToFirst q0 g0 r0 w0 hS (by omega)) (fun _ _ hQ => ?_)
  obtain ⟨hS, -⟩ := hQ
  show Ok (g_X4_setBySeed k 1 _ p0 (wI i1) (i0 - 1)) _
  rw [wIn (n := i1) (by omega) (by omega)]
  exact tg_X4_setBySeed q0 g0 r0 w0 k _ _ _ hS (by omega)
theorem t_lz {a : Int} (h : ¬ wI (xLcmp a 0) = 0) : ¬ wL a = 0 := by
  intro e
  have h1 : ¬ wI (xLcmp a 0) < 0 := by
    unfold xLcmp
    rw [← iI_neg, iI_of, lg_cmp_lt, lI_lt, e, show wL 0 = 0 from by decide]
    omega
  have h2 : ¬ 0 < wI (xLcmp a 0) := by
    unfold xLcmp
    rw [← iI_pos, iI_of, lg_cmp_gt, lI_lt, e, show wL 0 = 0 from by decide]
    omega
  omega
theorem wL_max {g : Int} : ¬ (wL (xMaxL 1 g) = 0) := by
  unfold xMaxL
  by_cases h : wL 1 < wL g
  · rw [if_pos h]
    intro e
    rw [e, show wL 1 = 1 from by decide] at h
    omega
  · rw [if_neg h]
    decide
theorem tg_X5_commonDivisor {G : xT} {N : Nat}   : ∀ (k lb : Nat) (S : xS) (i0 : Int) (i1 : Int) (i2 : Int), Hp G N S → ((lb = 0 ∧ 103 ≤ (k : Int)) ∨ (lb = 1 ∧ 0 ≤ i2 ∧ i2 ≤ 100 ∧ 100 - i2 + 2 ≤ (k : Int)) ∨ (lb = 2 ∧ 1 ≤ (k : Int))) → Ok (g_X5_commonDivisor k lb S i0 i1 i2) (fun r S' => S' = S ∧ ¬ (wL r = 0)) := by
  intro k
  induction k with
  | zero => intro lb S i0 i1 i2 hS hp; exfalso; omega
  | succ k ih =>
    intro lb S i0 i1 i2 hS hp
    rcases hp with ⟨rfl, hp⟩ | ⟨rfl, hp⟩ | ⟨rfl, hp⟩
    · show Ok (b_X5_commonDivisor_0 (g_X5_commonDivisor k) k S i0 i1 i2) _
      unfold b_X5_commonDivisor_0
      repeat' (first
        | (refine ok_dead ?_; omega)
        | exact ok_some ⟨rfl, by first | trivial | omega⟩
        | exact ih 1 _ _ _ _ hS (Or.inr (Or.inl ⟨rfl, by omega⟩))
        | exact ok_some ⟨rfl, wL_max⟩
        | refine ok_neg (t_lz (by assumption)) ?_
        | (refine ok_if (fun hc => ?_) (fun hc => ?_) <;> try simp (disch := omega) only [wIn] at hc))
    · show Ok (b_X5_commonDivisor_1 (g_X5_commonDivisor k) k S i0 i1 i2) _
      unfold b_X5_commonDivisor_1
      repeat' (first
        | (refine ok_dead ?_; omega)
        | exact ok_some ⟨rfl, by first | trivial | omega⟩
        | exact ih 1 _ _ _ _ hS (Or.inr (Or.inl ⟨rfl, by omega⟩))
        | exact ih 2 _ _ _ _ hS (Or.inr (Or.inr (⟨rfl, by omega⟩)))
        | (refine ok_tmod (by first | omega | (simp (disch := omega) only [wIn]; omega)) (by first | omega | (simp (disch := omega) only [wIn]; omega)) (fun _ _ hm => ?_); try simp (disch := omega) only [wIn] at hm)
        | exact ok_some ⟨rfl, wL_max⟩
        | refine ok_neg (t_lz (by assumption)) ?_
        | (refine ok_if (fun hc => ?_) (fun hc => ?_) <;> try simp (disch := omega) only [wIn] at hc))
    · show Ok (b_X5_commonDivisor_2 (g_X5_commonDivisor k) k S i0 i1 i2) _
      unfold b_X5_commonDivisor_2
      repeat' (first
        | (refine ok_dead ?_; omega)
        | exact ok_some ⟨rfl, by first | trivial | omega⟩
        | exact ok_some ⟨rfl, wL_max⟩
        | refine ok_neg (t_lz (by assumption)) ?_
        | (refine ok_if (fun hc => ?_) (fun hc => ?_) <;> try simp (disch := omega) only [wIn] at hc))
theorem tf_X5_commonDivisor {G : xT} {N : Nat}   {k : Nat} {S : xS} {i0 : Int} {i1 : Int} (hS : Hp G N S) (hp : 103 ≤ (k : Int)) : Ok (f_X5_commonDivisor k S i0 i1) (fun r S' => S' = S ∧ ¬ (wL r = 0)) :=
  tg_X5_commonDivisor  k 0 S i0 i1 0 hS (Or.inl ⟨rfl, hp⟩)
theorem tf_X5_refuseBad   (hN : 26 ≤ N) (hn : 2 ≤ n ∧ n ≤ 7) {k : Nat} {S : xS} (hS : Hp (T5 n nd tl rp im E) N S) (hp : True) : Ok (f_X5_refuseBad k S 0) (fun r S' => Hp (T5 n nd tl rp im E) N S' ∧ True) := by
  unfold f_X5_refuseBad
  repeat' (first
    | (refine ok_dead ?_; omega)
    | exact ok_some ⟨hS, by first | trivial | omega⟩
    | refine ok_bindE (by assumption) (fun _ => ?_)
    | refine ok_bindE (hF _ _ _ _ (by assumption)) (fun _ => ?_)
    | refine ok_is hS (by omega) rfl ?_
    | refine ok_rdFp hS (by omega) rfl rfl ?_
    | refine ok_rdFiE hS (by omega) rfl rfl (fun _ _ _ _ => ?_)
    | refine ok_rdFz hS (by omega) rfl rfl (fun _ => ?_)
    | refine ok_rdFl hS (by omega) rfl rfl (fun _ => ?_)
    | refine ok_rdA hS (by omega) rfl tR_id (by omega) (by omega) (by omega) (fun _ _ _ => ?_)
    | refine ok_rdA hS (by omega) rfl sl_R (by omega) (by omega) (by omega) (fun _ _ _ => ?_)
    | refine ok_rdW hS (by omega) rfl (by omega) (by omega) (by omega) (fun _ => ?_)
    | refine ok_wrAE hS (by omega) rfl (by omega) (by omega) (by omega) (fun L _ hL => tR_set (by omega) L hL) (fun _ hS hF => ?_)
    | refine ok_wrAE hS (by omega) rfl (by omega) (by omega) (by omega) (fun _ _ _ => trivial) (fun _ hS hF => ?_)
    | refine ok_wrF hS (by omega) rfl rfl (⟨_, rfl⟩ : fZ _) (fun _ hS => ?_)
    | refine ok_wrF hS (by omega) rfl rfl (⟨_, rfl⟩ : fL _) (fun _ hS => ?_)
    | refine ok_wrFE hS (by omega) rfl rfl (by omega) (fun _ hS _ => ?_)
    | (refine ok_if (fun hc => ?_) (fun hc => ?_) <;> try simp (disch := omega) only [wIn] at hc))
theorem tf_X5_refuseNo   (hN : 26 ≤ N) (hn : 2 ≤ n ∧ n ≤ 7) {k : Nat} {S : xS} (hS : Hp (T5 n nd tl rp im E) N S) (hp : True) : Ok (f_X5_refuseNo k S 0) (fun r S' => Hp (T5 n nd tl rp im E) N S' ∧ True) := by
  unfold f_X5_refuseNo
  repeat' (first
    | (refine ok_dead ?_; omega)
    | exact ok_some ⟨hS, by first | trivial | omega⟩
    | refine ok_bindE (by assumption) (fun _ => ?_)
    | refine ok_bindE (hF _ _ _ _ (by assumption)) (fun _ => ?_)
    | refine ok_is hS (by omega) rfl ?_
    | refine ok_rdFp hS (by omega) rfl rfl ?_
    | refine ok_rdFiE hS (by omega) rfl rfl (fun _ _ _ _ => ?_)
    | refine ok_rdFz hS (by omega) rfl rfl (fun _ => ?_)
    | refine ok_rdFl hS (by omega) rfl rfl (fun _ => ?_)
    | refine ok_rdA hS (by omega) rfl tR_id (by omega) (by omega) (by omega) (fun _ _ _ => ?_)
    | refine ok_rdA hS (by omega) rfl sl_R (by omega) (by omega) (by omega) (fun _ _ _ => ?_)
    | refine ok_rdW hS (by omega) rfl (by omega) (by omega) (by omega) (fun _ => ?_)
    | refine ok_wrAE hS (by omega) rfl (by omega) (by omega) (by omega) (fun L _ hL => tR_set (by omega) L hL) (fun _ hS hF => ?_)
    | refine ok_wrAE hS (by omega) rfl (by omega) (by omega) (by omega) (fun _ _ _ => trivial) (fun _ hS hF => ?_)
    | refine ok_wrF hS (by omega) rfl rfl (⟨_, rfl⟩ : fZ _) (fun _ hS => ?_)
    | refine ok_wrF hS (by omega) rfl rfl (⟨_, rfl⟩ : fL _) (fun _ hS => ?_)
    | refine ok_wrFE hS (by omega) rfl rfl (by omega) (fun _ hS _ => ?_)
    | (refine ok_if (fun hc => ?_) (fun hc => ?_) <;> try simp (disch := omega) only [wIn] at hc))
theorem tf_X5_refuseFull   (hN : 26 ≤ N) (hn : 2 ≤ n ∧ n ≤ 7) {k : Nat} {S : xS} (hS : Hp (T5 n nd tl rp im E) N S) (hp : True) : Ok (f_X5_refuseFull k S 0) (fun r S' => Hp (T5 n nd tl rp im E) N S' ∧ True) := by
  unfold f_X5_refuseFull
  repeat' (first
    | (refine ok_dead ?_; omega)
    | exact ok_some ⟨hS, by first | trivial | omega⟩
    | refine ok_bindE (by assumption) (fun _ => ?_)
    | refine ok_bindE (hF _ _ _ _ (by assumption)) (fun _ => ?_)
    | refine ok_is hS (by omega) rfl ?_
    | refine ok_rdFp hS (by omega) rfl rfl ?_
    | refine ok_rdFiE hS (by omega) rfl rfl (fun _ _ _ _ => ?_)
    | refine ok_rdFz hS (by omega) rfl rfl (fun _ => ?_)
    | refine ok_rdFl hS (by omega) rfl rfl (fun _ => ?_)
    | refine ok_rdA hS (by omega) rfl tR_id (by omega) (by omega) (by omega) (fun _ _ _ => ?_)
    | refine ok_rdA hS (by omega) rfl sl_R (by omega) (by omega) (by omega) (fun _ _ _ => ?_)
    | refine ok_rdW hS (by omega) rfl (by omega) (by omega) (by omega) (fun _ => ?_)
    | refine ok_wrAE hS (by omega) rfl (by omega) (by omega) (by omega) (fun L _ hL => tR_set (by omega) L hL) (fun _ hS hF => ?_)
    | refine ok_wrAE hS (by omega) rfl (by omega) (by omega) (by omega) (fun _ _ _ => trivial) (fun _ hS hF => ?_)
    | refine ok_wrF hS (by omega) rfl rfl (⟨_, rfl⟩ : fZ _) (fun _ hS => ?_)
    | refine ok_wrF hS (by omega) rfl rfl (⟨_, rfl⟩ : fL _) (fun _ hS => ?_)
    | refine ok_wrFE hS (by omega) rfl rfl (by omega) (fun _ hS _ => ?_)
    | (refine ok_if (fun hc => ?_) (fun hc => ?_) <;> try simp (disch := omega) only [wIn] at hc))
theorem tf_X5_refuseQuestion   (hN : 26 ≤ N) (hn : 2 ≤ n ∧ n ≤ 7) {k : Nat} {S : xS} (hS : Hp (T5 n nd tl rp im E) N S) (hp : True) : Ok (f_X5_refuseQuestion k S 0) (fun r S' => Hp (T5 n nd tl rp im E) N S' ∧ True) := by
  unfold f_X5_refuseQuestion
  repeat' (first
    | (refine ok_dead ?_; omega)
    | exact ok_some ⟨hS, by first | trivial | omega⟩
    | refine ok_bindE (by assumption) (fun _ => ?_)
    | refine ok_bindE (hF _ _ _ _ (by assumption)) (fun _ => ?_)
    | refine ok_is hS (by omega) rfl ?_
    | refine ok_rdFp hS (by omega) rfl rfl ?_
    | refine ok_rdFiE hS (by omega) rfl rfl (fun _ _ _ _ => ?_)
    | refine ok_rdFz hS (by omega) rfl rfl (fun _ => ?_)
    | refine ok_rdFl hS (by omega) rfl rfl (fun _ => ?_)
    | refine ok_rdA hS (by omega) rfl tR_id (by omega) (by omega) (by omega) (fun _ _ _ => ?_)
    | refine ok_rdA hS (by omega) rfl sl_R (by omega) (by omega) (by omega) (fun _ _ _ => ?_)
    | refine ok_rdW hS (by omega) rfl (by omega) (by omega) (by omega) (fun _ => ?_)
    | refine ok_wrAE hS (by omega) rfl (by omega) (by omega) (by omega) (fun L _ hL => tR_set (by omega) L hL) (fun _ hS hF => ?_)
    | refine ok_wrAE hS (by omega) rfl (by omega) (by omega) (by omega) (fun _ _ _ => trivial) (fun _ hS hF => ?_)
    | refine ok_wrF hS (by omega) rfl rfl (⟨_, rfl⟩ : fZ _) (fun _ hS => ?_)
    | refine ok_wrF hS (by omega) rfl rfl (⟨_, rfl⟩ : fL _) (fun _ hS => ?_)
    | refine ok_wrFE hS (by omega) rfl rfl (by omega) (fun _ hS _ => ?_)
    | (refine ok_if (fun hc => ?_) (fun hc => ?_) <;> try simp (disch := omega) only [wIn] at hc))
theorem tg_X5_isNoBox   (hN : 26 ≤ N) (hn : 2 ≤ n ∧ n ≤ 7) : ∀ (k lb : Nat) (S : xS) (i0 : Int), Hp (T5 n nd tl rp im E) N S → ((lb = 0 ∧ -2147483648 ≤ i0 ∧ i0 < 2147483648 ∧ 2 ≤ (k : Int)) ∨ (lb = 1 ∧ 1 ≤ (k : Int))) → Ok (g_X5_isNoBox k lb S 0 i0) (fun r S' => S' = S ∧ ((r = 0 ∧ 0 ≤ i0 ∧ i0 < n) ∨ r = 1)) := by
  intro k
  induction k with
  | zero => intro lb S i0 hS hp; exfalso; omega
  | succ k ih =>
    intro lb S i0 hS hp
    rcases hp with ⟨rfl, hp⟩ | ⟨rfl, hp⟩
    · show Ok (b_X5_isNoBox_0 (g_X5_isNoBox k) k S 0 i0) _
      unfold b_X5_isNoBox_0
      repeat' (first
        | (refine ok_dead ?_; omega)
        | exact ok_some ⟨rfl, by first | trivial | omega⟩
        | exact ih 1 _ _ hS (Or.inr (⟨rfl, by omega⟩))
        | (obtain ⟨k, rfl⟩ : ∃ z, k = z + 1 := ⟨k - 1, by omega⟩; exact ⟨1, _, rfl, rfl, Or.inr rfl⟩)
        | refine ok_bindE (by assumption) (fun _ => ?_)
        | refine ok_bindE (hF _ _ _ _ (by assumption)) (fun _ => ?_)
        | refine ok_is hS (by omega) rfl ?_
        | refine ok_rdFp hS (by omega) rfl rfl ?_
        | refine ok_rdFiE hS (by omega) rfl rfl (fun _ _ _ _ => ?_)
        | refine ok_rdFz hS (by omega) rfl rfl (fun _ => ?_)
        | refine ok_rdFl hS (by omega) rfl rfl (fun _ => ?_)
        | refine ok_rdA hS (by omega) rfl tR_id (by omega) (by omega) (by omega) (fun _ _ _ => ?_)
        | refine ok_rdA hS (by omega) rfl sl_R (by omega) (by omega) (by omega) (fun _ _ _ => ?_)
        | refine ok_rdW hS (by omega) rfl (by omega) (by omega) (by omega) (fun _ => ?_)
        | refine ok_wrAE hS (by omega) rfl (by omega) (by omega) (by omega) (fun L _ hL => tR_set (by omega) L hL) (fun _ hS hF => ?_)
        | refine ok_wrAE hS (by omega) rfl (by omega) (by omega) (by omega) (fun _ _ _ => trivial) (fun _ hS hF => ?_)
        | refine ok_wrF hS (by omega) rfl rfl (⟨_, rfl⟩ : fZ _) (fun _ hS => ?_)
        | refine ok_wrF hS (by omega) rfl rfl (⟨_, rfl⟩ : fL _) (fun _ hS => ?_)
        | refine ok_wrFE hS (by omega) rfl rfl (by omega) (fun _ hS _ => ?_)
        | (refine ok_if (fun hc => ?_) (fun hc => ?_) <;> try simp (disch := omega) only [wIn] at hc))
    · show Ok (b_X5_isNoBox_1 (g_X5_isNoBox k) k S 0 i0) _
      unfold b_X5_isNoBox_1
      repeat' (first
        | (refine ok_dead ?_; omega)
        | exact ok_some ⟨rfl, by first | trivial | omega⟩
        | (obtain ⟨k, rfl⟩ : ∃ z, k = z + 1 := ⟨k - 1, by omega⟩; exact ⟨1, _, rfl, rfl, Or.inr rfl⟩)
        | refine ok_bindE (by assumption) (fun _ => ?_)
        | refine ok_bindE (hF _ _ _ _ (by assumption)) (fun _ => ?_)
        | refine ok_is hS (by omega) rfl ?_
        | refine ok_rdFp hS (by omega) rfl rfl ?_
        | refine ok_rdFiE hS (by omega) rfl rfl (fun _ _ _ _ => ?_)
        | refine ok_rdFz hS (by omega) rfl rfl (fun _ => ?_)
        | refine ok_rdFl hS (by omega) rfl rfl (fun _ => ?_)
        | refine ok_rdA hS (by omega) rfl tR_id (by omega) (by omega) (by omega) (fun _ _ _ => ?_)
        | refine ok_rdA hS (by omega) rfl sl_R (by omega) (by omega) (by omega) (fun _ _ _ => ?_)
        | refine ok_rdW hS (by omega) rfl (by omega) (by omega) (by omega) (fun _ => ?_)
        | refine ok_wrAE hS (by omega) rfl (by omega) (by omega) (by omega) (fun L _ hL => tR_set (by omega) L hL) (fun _ hS hF => ?_)
        | refine ok_wrAE hS (by omega) rfl (by omega) (by omega) (by omega) (fun _ _ _ => trivial) (fun _ hS hF => ?_)
        | refine ok_wrF hS (by omega) rfl rfl (⟨_, rfl⟩ : fZ _) (fun _ hS => ?_)
        | refine ok_wrF hS (by omega) rfl rfl (⟨_, rfl⟩ : fL _) (fun _ hS => ?_)
        | refine ok_wrFE hS (by omega) rfl rfl (by omega) (fun _ hS _ => ?_)
        | (refine ok_if (fun hc => ?_) (fun hc => ?_) <;> try simp (disch := omega) only [wIn] at hc))
theorem tf_X5_isNoBox   (hN : 26 ≤ N) (hn : 2 ≤ n ∧ n ≤ 7) {k : Nat} {S : xS} {i0 : Int} (hS : Hp (T5 n nd tl rp im E) N S) (hp : -2147483648 ≤ i0 ∧ i0 < 2147483648 ∧ 2 ≤ (k : Int)) : Ok (f_X5_isNoBox k S 0 i0) (fun r S' => S' = S ∧ ((r = 0 ∧ 0 ≤ i0 ∧ i0 < n) ∨ r = 1)) :=
  tg_X5_isNoBox hN hn k 0 S i0 hS (Or.inl ⟨rfl, hp⟩)
theorem tg_X5_isNoRank   (hN : 26 ≤ N) (hn : 2 ≤ n ∧ n ≤ 7) : ∀ (k lb : Nat) (S : xS) (i0 : Int), Hp (T5 n nd tl rp im E) N S → ((lb = 0 ∧ -2147483648 ≤ i0 ∧ i0 < 2147483648 ∧ 2 ≤ (k : Int)) ∨ (lb = 1 ∧ 1 ≤ (k : Int))) → Ok (g_X5_isNoRank k lb S 0 i0) (fun r S' => S' = S ∧ ((r = 0 ∧ 0 ≤ i0 ∧ i0 ≤ 5039) ∨ r = 1)) := by
  intro k
  induction k with
  | zero => intro lb S i0 hS hp; exfalso; omega
  | succ k ih =>
    intro lb S i0 hS hp
    rcases hp with ⟨rfl, hp⟩ | ⟨rfl, hp⟩
    · show Ok (b_X5_isNoRank_0 (g_X5_isNoRank k) k S 0 i0) _
      unfold b_X5_isNoRank_0
      repeat' (first
        | (refine ok_dead ?_; omega)
        | exact ok_some ⟨rfl, by first | trivial | omega⟩
        | exact ih 1 _ _ hS (Or.inr (⟨rfl, by omega⟩))
        | (obtain ⟨k, rfl⟩ : ∃ z, k = z + 1 := ⟨k - 1, by omega⟩; exact ⟨1, _, rfl, rfl, Or.inr rfl⟩)
        | refine ok_bindE (by assumption) (fun _ => ?_)
        | refine ok_bindE (hF _ _ _ _ (by assumption)) (fun _ => ?_)
        | refine ok_is hS (by omega) rfl ?_
        | refine ok_rdFp hS (by omega) rfl rfl ?_
        | refine ok_rdFiE hS (by omega) rfl rfl (fun _ _ _ _ => ?_)
        | refine ok_rdFz hS (by omega) rfl rfl (fun _ => ?_)
        | refine ok_rdFl hS (by omega) rfl rfl (fun _ => ?_)
        | refine ok_rdA hS (by omega) rfl tR_id (by omega) (by omega) (by omega) (fun _ _ _ => ?_)
        | refine ok_rdA hS (by omega) rfl sl_R (by omega) (by omega) (by omega) (fun _ _ _ => ?_)
        | refine ok_rdW hS (by omega) rfl (by omega) (by omega) (by omega) (fun _ => ?_)
        | refine ok_wrAE hS (by omega) rfl (by omega) (by omega) (by omega) (fun L _ hL => tR_set (by omega) L hL) (fun _ hS hF => ?_)
        | refine ok_wrAE hS (by omega) rfl (by omega) (by omega) (by omega) (fun _ _ _ => trivial) (fun _ hS hF => ?_)
        | refine ok_wrF hS (by omega) rfl rfl (⟨_, rfl⟩ : fZ _) (fun _ hS => ?_)
        | refine ok_wrF hS (by omega) rfl rfl (⟨_, rfl⟩ : fL _) (fun _ hS => ?_)
        | refine ok_wrFE hS (by omega) rfl rfl (by omega) (fun _ hS _ => ?_)
        | refine ok_rdT (by omega) (by omega) (fun _ _ _ _ => ?_)
        | (refine ok_if (fun hc => ?_) (fun hc => ?_) <;> try simp (disch := omega) only [wIn] at hc))
    · show Ok (b_X5_isNoRank_1 (g_X5_isNoRank k) k S 0 i0) _
      unfold b_X5_isNoRank_1
      repeat' (first
        | (refine ok_dead ?_; omega)
        | exact ok_some ⟨rfl, by first | trivial | omega⟩
        | (obtain ⟨k, rfl⟩ : ∃ z, k = z + 1 := ⟨k - 1, by omega⟩; exact ⟨1, _, rfl, rfl, Or.inr rfl⟩)
        | refine ok_bindE (by assumption) (fun _ => ?_)
        | refine ok_bindE (hF _ _ _ _ (by assumption)) (fun _ => ?_)
        | refine ok_is hS (by omega) rfl ?_
        | refine ok_rdFp hS (by omega) rfl rfl ?_
        | refine ok_rdFiE hS (by omega) rfl rfl (fun _ _ _ _ => ?_)
        | refine ok_rdFz hS (by omega) rfl rfl (fun _ => ?_)
        | refine ok_rdFl hS (by omega) rfl rfl (fun _ => ?_)
        | refine ok_rdA hS (by omega) rfl tR_id (by omega) (by omega) (by omega) (fun _ _ _ => ?_)
        | refine ok_rdA hS (by omega) rfl sl_R (by omega) (by omega) (by omega) (fun _ _ _ => ?_)
        | refine ok_rdW hS (by omega) rfl (by omega) (by omega) (by omega) (fun _ => ?_)
        | refine ok_wrAE hS (by omega) rfl (by omega) (by omega) (by omega) (fun L _ hL => tR_set (by omega) L hL) (fun _ hS hF => ?_)
        | refine ok_wrAE hS (by omega) rfl (by omega) (by omega) (by omega) (fun _ _ _ => trivial) (fun _ hS hF => ?_)
        | refine ok_wrF hS (by omega) rfl rfl (⟨_, rfl⟩ : fZ _) (fun _ hS => ?_)
        | refine ok_wrF hS (by omega) rfl rfl (⟨_, rfl⟩ : fL _) (fun _ hS => ?_)
        | refine ok_wrFE hS (by omega) rfl rfl (by omega) (fun _ hS _ => ?_)
        | (refine ok_if (fun hc => ?_) (fun hc => ?_) <;> try simp (disch := omega) only [wIn] at hc))
theorem tf_X5_isNoRank   (hN : 26 ≤ N) (hn : 2 ≤ n ∧ n ≤ 7) {k : Nat} {S : xS} {i0 : Int} (hS : Hp (T5 n nd tl rp im E) N S) (hp : -2147483648 ≤ i0 ∧ i0 < 2147483648 ∧ 2 ≤ (k : Int)) : Ok (f_X5_isNoRank k S 0 i0) (fun r S' => S' = S ∧ ((r = 0 ∧ 0 ≤ i0 ∧ i0 ≤ 5039) ∨ r = 1)) :=
  tg_X5_isNoRank hN hn k 0 S i0 hS (Or.inl ⟨rfl, hp⟩)
theorem tf_X5_doesFind  {p1 : Nat} (hN : 26 ≤ N) (hn : 2 ≤ n ∧ n ≤ 7) {P1 : List Int → Prop} (q1 : p1 < N) (g1 : T5 n nd tl rp im E p1 = tA 0 7 P1) (r1 : ∀ L, P1 L → tR 0 6 L) (h1 : p1 ≠ 22) {k : Nat} {S : xS} {i0 : Int} {i1 : Int} (hS : Hp (T5 n nd tl rp im E) N S) (hp : 0 ≤ i0 ∧ i0 ≤ 6 ∧ 30 ≤ (k : Int)) : Ok (f_X5_doesFind k S 0 p1 i0 i1) (fun r S' => Hp (T5 n nd tl rp im E) N S' ∧ (r = 0 ∨ r = 1)) := by
  unfold f_X5_doesFind
  repeat' (first
    | (refine ok_dead ?_; omega)
    | exact ok_some ⟨hS, by first | trivial | omega⟩
    | (refine ok_bd2 (tf_X2_seek hN hn q1 g1 r1 h1 hS (by first | trivial | omega)) (fun _ _ hQ => ?_); obtain ⟨hS, hQ⟩ := hQ)
    | (refine ok_bd2 (tf_X2_seek hN hn (by omega) rfl sl_R (by omega) hS (by first | trivial | omega)) (fun _ _ hQ => ?_); obtain ⟨hS, hQ⟩ := hQ)
    | (refine ok_bd2 (tf_X2_seek hN hn (by omega) rfl tR_id (by omega) hS (by first | trivial | omega)) (fun _ _ hQ => ?_); obtain ⟨hS, hQ⟩ := hQ)
    | refine ok_bindE (by assumption) (fun _ => ?_)
    | refine ok_bindE (hF _ _ _ _ (by assumption)) (fun _ => ?_)
    | refine ok_is hS (by omega) rfl ?_
    | refine ok_rdFp hS (by omega) rfl rfl ?_
    | refine ok_rdFiE hS (by omega) rfl rfl (fun _ _ _ _ => ?_)
    | refine ok_rdFz hS (by omega) rfl rfl (fun _ => ?_)
    | refine ok_rdFl hS (by omega) rfl rfl (fun _ => ?_)
    | refine ok_rdA hS (by omega) rfl tR_id (by omega) (by omega) (by omega) (fun _ _ _ => ?_)
    | refine ok_rdA hS (by omega) rfl sl_R (by omega) (by omega) (by omega) (fun _ _ _ => ?_)
    | refine ok_rdW hS (by omega) rfl (by omega) (by omega) (by omega) (fun _ => ?_)
    | refine ok_wrAE hS (by omega) rfl (by omega) (by omega) (by omega) (fun L _ hL => tR_set (by omega) L hL) (fun _ hS hF => ?_)
    | refine ok_wrAE hS (by omega) rfl (by omega) (by omega) (by omega) (fun _ _ _ => trivial) (fun _ hS hF => ?_)
    | refine ok_wrF hS (by omega) rfl rfl (⟨_, rfl⟩ : fZ _) (fun _ hS => ?_)
    | refine ok_wrF hS (by omega) rfl rfl (⟨_, rfl⟩ : fL _) (fun _ hS => ?_)
    | refine ok_wrFE hS (by omega) rfl rfl (by omega) (fun _ hS _ => ?_)
    | (refine ok_if (fun hc => ?_) (fun hc => ?_) <;> try simp (disch := omega) only [wIn] at hc))
theorem tg_X5_findersIn  {p1 : Nat} (hN : 26 ≤ N) (hn : 2 ≤ n ∧ n ≤ 7) {P1 : List Int → Prop} (q1 : p1 < N) (g1 : T5 n nd tl rp im E p1 = tA 0 7 P1) (r1 : ∀ L, P1 L → tR 0 6 L) (h1 : p1 ≠ 22) : ∀ (k lb : Nat) (S : xS) (i0 : Int) (i1 : Int), Hp (T5 n nd tl rp im E) N S → ((lb = 0 ∧ 2 * n + 33 ≤ (k : Int)) ∨ (lb = 1 ∧ 0 ≤ i1 ∧ i1 ≤ n ∧ 2 * (n - i1) + 31 ≤ (k : Int)) ∨ (lb = 2 ∧ 0 ≤ i1 ∧ i1 < n ∧ 2 * (n - i1) + 30 ≤ (k : Int))) → Ok (g_X5_findersIn k lb S 0 p1 i0 i1) (fun r S' => Hp (T5 n nd tl rp im E) N S' ∧ True) := by
  intro k
  induction k with
  | zero => intro lb S i0 i1 hS hp; exfalso; omega
  | succ k ih =>
    intro lb S i0 i1 hS hp
    rcases hp with ⟨rfl, hp⟩ | ⟨rfl, hp⟩ | ⟨rfl, hp⟩
    · show Ok (b_X5_findersIn_0 (g_X5_findersIn k) k S 0 p1 i0 i1) _
      unfold b_X5_findersIn_0
      repeat' (first
        | (refine ok_dead ?_; omega)
        | exact ok_some ⟨hS, by first | trivial | omega⟩
        | exact ih 1 _ _ _ hS (Or.inr (Or.inl ⟨rfl, by omega⟩))
        | refine ok_bindE (by assumption) (fun _ => ?_)
        | refine ok_bindE (hF _ _ _ _ (by assumption)) (fun _ => ?_)
        | refine ok_is hS (by omega) rfl ?_
        | refine ok_rdFp hS (by omega) rfl rfl ?_
        | refine ok_rdFiE hS (by omega) rfl rfl (fun _ _ _ _ => ?_)
        | refine ok_rdFz hS (by omega) rfl rfl (fun _ => ?_)
        | refine ok_rdFl hS (by omega) rfl rfl (fun _ => ?_)
        | refine ok_rdA hS (by omega) rfl tR_id (by omega) (by omega) (by omega) (fun _ _ _ => ?_)
        | refine ok_rdA hS (by omega) rfl sl_R (by omega) (by omega) (by omega) (fun _ _ _ => ?_)
        | refine ok_rdW hS (by omega) rfl (by omega) (by omega) (by omega) (fun _ => ?_)
        | refine ok_wrAE hS (by omega) rfl (by omega) (by omega) (by omega) (fun L _ hL => tR_set (by omega) L hL) (fun _ hS hF => ?_)
        | refine ok_wrAE hS (by omega) rfl (by omega) (by omega) (by omega) (fun _ _ _ => trivial) (fun _ hS hF => ?_)
        | refine ok_wrF hS (by omega) rfl rfl (⟨_, rfl⟩ : fZ _) (fun _ hS => ?_)
        | refine ok_wrF hS (by omega) rfl rfl (⟨_, rfl⟩ : fL _) (fun _ hS => ?_)
        | refine ok_wrFE hS (by omega) rfl rfl (by omega) (fun _ hS _ => ?_)
        | (refine ok_if (fun hc => ?_) (fun hc => ?_) <;> try simp (disch := omega) only [wIn] at hc))
    · show Ok (b_X5_findersIn_1 (g_X5_findersIn k) k S 0 p1 i0 i1) _
      unfold b_X5_findersIn_1
      repeat' (first
        | (refine ok_dead ?_; omega)
        | exact ok_some ⟨hS, by first | trivial | omega⟩
        | exact ih 2 _ _ _ hS (Or.inr (Or.inr (⟨rfl, by omega⟩)))
        | (refine ok_bd2 (tf_X5_doesFind hN hn q1 g1 r1 h1 hS (by first | trivial | omega)) (fun _ _ hQ => ?_); obtain ⟨hS, hQ⟩ := hQ)
        | (refine ok_bd2 (tf_X5_doesFind hN hn (by omega) rfl sl_R (by omega) hS (by first | trivial | omega)) (fun _ _ hQ => ?_); obtain ⟨hS, hQ⟩ := hQ)
        | (refine ok_bd2 (tf_X5_doesFind hN hn (by omega) rfl tR_id (by omega) hS (by first | trivial | omega)) (fun _ _ hQ => ?_); obtain ⟨hS, hQ⟩ := hQ)
        | refine ok_bindE (by assumption) (fun _ => ?_)
        | refine ok_bindE (hF _ _ _ _ (by assumption)) (fun _ => ?_)
        | refine ok_is hS (by omega) rfl ?_
        | refine ok_rdFp hS (by omega) rfl rfl ?_
        | refine ok_rdFiE hS (by omega) rfl rfl (fun _ _ _ _ => ?_)
        | refine ok_rdFz hS (by omega) rfl rfl (fun _ => ?_)
        | refine ok_rdFl hS (by omega) rfl rfl (fun _ => ?_)
        | refine ok_rdA hS (by omega) rfl tR_id (by omega) (by omega) (by omega) (fun _ _ _ => ?_)
        | refine ok_rdA hS (by omega) rfl sl_R (by omega) (by omega) (by omega) (fun _ _ _ => ?_)
        | refine ok_rdW hS (by omega) rfl (by omega) (by omega) (by omega) (fun _ => ?_)
        | refine ok_wrAE hS (by omega) rfl (by omega) (by omega) (by omega) (fun L _ hL => tR_set (by omega) L hL) (fun _ hS hF => ?_)
        | refine ok_wrAE hS (by omega) rfl (by omega) (by omega) (by omega) (fun _ _ _ => trivial) (fun _ hS hF => ?_)
        | refine ok_wrF hS (by omega) rfl rfl (⟨_, rfl⟩ : fZ _) (fun _ hS => ?_)
        | refine ok_wrF hS (by omega) rfl rfl (⟨_, rfl⟩ : fL _) (fun _ hS => ?_)
        | refine ok_wrFE hS (by omega) rfl rfl (by omega) (fun _ hS _ => ?_)
        | (refine ok_if (fun hc => ?_) (fun hc => ?_) <;> try simp (disch := omega) only [wIn] at hc))
    · show Ok (b_X5_findersIn_2 (g_X5_findersIn k) k S 0 p1 i0 i1) _
      unfold b_X5_findersIn_2
      repeat' (first
        | (refine ok_dead ?_; omega)
        | exact ok_some ⟨hS, by first | trivial | omega⟩
        | exact ih 1 _ _ _ hS (Or.inr (Or.inl ⟨rfl, by omega⟩))
        | refine ok_bindE (by assumption) (fun _ => ?_)
        | refine ok_bindE (hF _ _ _ _ (by assumption)) (fun _ => ?_)
        | refine ok_is hS (by omega) rfl ?_
        | refine ok_rdFp hS (by omega) rfl rfl ?_
        | refine ok_rdFiE hS (by omega) rfl rfl (fun _ _ _ _ => ?_)
        | refine ok_rdFz hS (by omega) rfl rfl (fun _ => ?_)
        | refine ok_rdFl hS (by omega) rfl rfl (fun _ => ?_)
        | refine ok_rdA hS (by omega) rfl tR_id (by omega) (by omega) (by omega) (fun _ _ _ => ?_)
        | refine ok_rdA hS (by omega) rfl sl_R (by omega) (by omega) (by omega) (fun _ _ _ => ?_)
        | refine ok_rdW hS (by omega) rfl (by omega) (by omega) (by omega) (fun _ => ?_)
        | refine ok_wrAE hS (by omega) rfl (by omega) (by omega) (by omega) (fun L _ hL => tR_set (by omega) L hL) (fun _ hS hF => ?_)
        | refine ok_wrAE hS (by omega) rfl (by omega) (by omega) (by omega) (fun _ _ _ => trivial) (fun _ hS hF => ?_)
        | refine ok_wrF hS (by omega) rfl rfl (⟨_, rfl⟩ : fZ _) (fun _ hS => ?_)
        | refine ok_wrF hS (by omega) rfl rfl (⟨_, rfl⟩ : fL _) (fun _ hS => ?_)
        | refine ok_wrFE hS (by omega) rfl rfl (by omega) (fun _ hS _ => ?_)
        | (refine ok_if (fun hc => ?_) (fun hc => ?_) <;> try simp (disch := omega) only [wIn] at hc))
theorem tf_X5_findersIn  {p1 : Nat} (hN : 26 ≤ N) (hn : 2 ≤ n ∧ n ≤ 7) {P1 : List Int → Prop} (q1 : p1 < N) (g1 : T5 n nd tl rp im E p1 = tA 0 7 P1) (r1 : ∀ L, P1 L → tR 0 6 L) (h1 : p1 ≠ 22) {k : Nat} {S : xS} (hS : Hp (T5 n nd tl rp im E) N S) (hp : 2 * n + 33 ≤ (k : Int)) : Ok (f_X5_findersIn k S 0 p1) (fun r S' => Hp (T5 n nd tl rp im E) N S' ∧ True) :=
  tg_X5_findersIn hN hn q1 g1 r1 h1 k 0 S 0 0 hS (Or.inl ⟨rfl, hp⟩)
theorem tg_X5_doTheseFind  {p1 : Nat} (hN : 26 ≤ N) (hn : 2 ≤ n ∧ n ≤ 7) {P1 : List Int → Prop} (q1 : p1 < N) (g1 : T5 n nd tl rp im E p1 = tA 0 7 P1) (r1 : ∀ L, P1 L → tR 0 6 L) (h1 : p1 ≠ 22) : ∀ (k lb : Nat) (S : xS) (i0 : Int) (i1 : Int), Hp (T5 n nd tl rp im E) N S → ((lb = 0 ∧ 2 * n + 33 ≤ (k : Int)) ∨ (lb = 1 ∧ 0 ≤ i1 ∧ i1 ≤ n ∧ 2 * (n - i1) + 31 ≤ (k : Int)) ∨ (lb = 2 ∧ 0 ≤ i1 ∧ i1 < n ∧ 2 * (n - i1) + 30 ≤ (k : Int))) → Ok (g_X5_doTheseFind k lb S 0 p1 i0 i1) (fun r S' => Hp (T5 n nd tl rp im E) N S' ∧ (r = 0 ∨ r = 1)) := by
  intro k
  induction k with
  | zero => intro lb S i0 i1 hS hp; exfalso; omega
  | succ k ih =>
    intro lb S i0 i1 hS hp
    rcases hp with ⟨rfl, hp⟩ | ⟨rfl, hp⟩ | ⟨rfl, hp⟩
    · show Ok (b_X5_doTheseFind_0 (g_X5_doTheseFind k) k S 0 p1 i0 i1) _
      unfold b_X5_doTheseFind_0
      repeat' (first
        | (refine ok_dead ?_; omega)
        | exact ok_some ⟨hS, by first | trivial | omega⟩
        | exact ih 1 _ _ _ hS (Or.inr (Or.inl ⟨rfl, by omega⟩))
        | refine ok_bindE (by assumption) (fun _ => ?_)
        | refine ok_bindE (hF _ _ _ _ (by assumption)) (fun _ => ?_)
        | refine ok_is hS (by omega) rfl ?_
        | refine ok_rdFp hS (by omega) rfl rfl ?_
        | refine ok_rdFiE hS (by omega) rfl rfl (fun _ _ _ _ => ?_)
        | refine ok_rdFz hS (by omega) rfl rfl (fun _ => ?_)
        | refine ok_rdFl hS (by omega) rfl rfl (fun _ => ?_)
        | refine ok_rdA hS (by omega) rfl tR_id (by omega) (by omega) (by omega) (fun _ _ _ => ?_)
        | refine ok_rdA hS (by omega) rfl sl_R (by omega) (by omega) (by omega) (fun _ _ _ => ?_)
        | refine ok_rdW hS (by omega) rfl (by omega) (by omega) (by omega) (fun _ => ?_)
        | refine ok_wrAE hS (by omega) rfl (by omega) (by omega) (by omega) (fun L _ hL => tR_set (by omega) L hL) (fun _ hS hF => ?_)
        | refine ok_wrAE hS (by omega) rfl (by omega) (by omega) (by omega) (fun _ _ _ => trivial) (fun _ hS hF => ?_)
        | refine ok_wrF hS (by omega) rfl rfl (⟨_, rfl⟩ : fZ _) (fun _ hS => ?_)
        | refine ok_wrF hS (by omega) rfl rfl (⟨_, rfl⟩ : fL _) (fun _ hS => ?_)
        | refine ok_wrFE hS (by omega) rfl rfl (by omega) (fun _ hS _ => ?_)
        | (refine ok_if (fun hc => ?_) (fun hc => ?_) <;> try simp (disch := omega) only [wIn] at hc))
    · show Ok (b_X5_doTheseFind_1 (g_X5_doTheseFind k) k S 0 p1 i0 i1) _
      unfold b_X5_doTheseFind_1
      repeat' (first
        | (refine ok_dead ?_; omega)
        | exact ok_some ⟨hS, by first | trivial | omega⟩
        | exact ih 2 _ _ _ hS (Or.inr (Or.inr (⟨rfl, by omega⟩)))
        | (refine ok_bd2 (tf_X5_doesFind hN hn q1 g1 r1 h1 hS (by first | trivial | omega)) (fun _ _ hQ => ?_); obtain ⟨hS, hQ⟩ := hQ)
        | (refine ok_bd2 (tf_X5_doesFind hN hn (by omega) rfl sl_R (by omega) hS (by first | trivial | omega)) (fun _ _ hQ => ?_); obtain ⟨hS, hQ⟩ := hQ)
        | (refine ok_bd2 (tf_X5_doesFind hN hn (by omega) rfl tR_id (by omega) hS (by first | trivial | omega)) (fun _ _ hQ => ?_); obtain ⟨hS, hQ⟩ := hQ)
        | refine ok_bindE (by assumption) (fun _ => ?_)
        | refine ok_bindE (hF _ _ _ _ (by assumption)) (fun _ => ?_)
        | refine ok_is hS (by omega) rfl ?_
        | refine ok_rdFp hS (by omega) rfl rfl ?_
        | refine ok_rdFiE hS (by omega) rfl rfl (fun _ _ _ _ => ?_)
        | refine ok_rdFz hS (by omega) rfl rfl (fun _ => ?_)
        | refine ok_rdFl hS (by omega) rfl rfl (fun _ => ?_)
        | refine ok_rdA hS (by omega) rfl tR_id (by omega) (by omega) (by omega) (fun _ _ _ => ?_)
        | refine ok_rdA hS (by omega) rfl sl_R (by omega) (by omega) (by omega) (fun _ _ _ => ?_)
        | refine ok_rdW hS (by omega) rfl (by omega) (by omega) (by omega) (fun _ => ?_)
        | refine ok_wrAE hS (by omega) rfl (by omega) (by omega) (by omega) (fun L _ hL => tR_set (by omega) L hL) (fun _ hS hF => ?_)
        | refine ok_wrAE hS (by omega) rfl (by omega) (by omega) (by omega) (fun _ _ _ => trivial) (fun _ hS hF => ?_)
        | refine ok_wrF hS (by omega) rfl rfl (⟨_, rfl⟩ : fZ _) (fun _ hS => ?_)
        | refine ok_wrF hS (by omega) rfl rfl (⟨_, rfl⟩ : fL _) (fun _ hS => ?_)
        | refine ok_wrFE hS (by omega) rfl rfl (by omega) (fun _ hS _ => ?_)
        | (refine ok_if (fun hc => ?_) (fun hc => ?_) <;> try simp (disch := omega) only [wIn] at hc))
    · show Ok (b_X5_doTheseFind_2 (g_X5_doTheseFind k) k S 0 p1 i0 i1) _
      unfold b_X5_doTheseFind_2
      repeat' (first
        | (refine ok_dead ?_; omega)
        | exact ok_some ⟨hS, by first | trivial | omega⟩
        | exact ih 1 _ _ _ hS (Or.inr (Or.inl ⟨rfl, by omega⟩))
        | refine ok_bindE (by assumption) (fun _ => ?_)
        | refine ok_bindE (hF _ _ _ _ (by assumption)) (fun _ => ?_)
        | refine ok_is hS (by omega) rfl ?_
        | refine ok_rdFp hS (by omega) rfl rfl ?_
        | refine ok_rdFiE hS (by omega) rfl rfl (fun _ _ _ _ => ?_)
        | refine ok_rdFz hS (by omega) rfl rfl (fun _ => ?_)
        | refine ok_rdFl hS (by omega) rfl rfl (fun _ => ?_)
        | refine ok_rdA hS (by omega) rfl tR_id (by omega) (by omega) (by omega) (fun _ _ _ => ?_)
        | refine ok_rdA hS (by omega) rfl sl_R (by omega) (by omega) (by omega) (fun _ _ _ => ?_)
        | refine ok_rdW hS (by omega) rfl (by omega) (by omega) (by omega) (fun _ => ?_)
        | refine ok_wrAE hS (by omega) rfl (by omega) (by omega) (by omega) (fun L _ hL => tR_set (by omega) L hL) (fun _ hS hF => ?_)
        | refine ok_wrAE hS (by omega) rfl (by omega) (by omega) (by omega) (fun _ _ _ => trivial) (fun _ hS hF => ?_)
        | refine ok_wrF hS (by omega) rfl rfl (⟨_, rfl⟩ : fZ _) (fun _ hS => ?_)
        | refine ok_wrF hS (by omega) rfl rfl (⟨_, rfl⟩ : fL _) (fun _ hS => ?_)
        | refine ok_wrFE hS (by omega) rfl rfl (by omega) (fun _ hS _ => ?_)
        | (refine ok_if (fun hc => ?_) (fun hc => ?_) <;> try simp (disch := omega) only [wIn] at hc))
theorem tf_X5_doTheseFind  {p1 : Nat} (hN : 26 ≤ N) (hn : 2 ≤ n ∧ n ≤ 7) {P1 : List Int → Prop} (q1 : p1 < N) (g1 : T5 n nd tl rp im E p1 = tA 0 7 P1) (r1 : ∀ L, P1 L → tR 0 6 L) (h1 : p1 ≠ 22) {k : Nat} {S : xS} {i0 : Int} (hS : Hp (T5 n nd tl rp im E) N S) (hp : 2 * n + 33 ≤ (k : Int)) : Ok (f_X5_doTheseFind k S 0 p1 i0) (fun r S' => Hp (T5 n nd tl rp im E) N S' ∧ (r = 0 ∨ r = 1)) :=
  tg_X5_doTheseFind hN hn q1 g1 r1 h1 k 0 S i0 0 hS (Or.inl ⟨rfl, hp⟩)
theorem tf_X5_doAllFind  {p1 : Nat} (hN : 26 ≤ N) (hn : 2 ≤ n ∧ n ≤ 7) {P1 : List Int → Prop} (q1 : p1 < N) (g1 : T5 n nd tl rp im E p1 = tA 0 7 P1) (r1 : ∀ L, P1 L → tR 0 6 L) (h1 : p1 ≠ 22) {k : Nat} {S : xS} (hS : Hp (T5 n nd tl rp im E) N S) (hp : 50 ≤ (k : Int)) : Ok (f_X5_doAllFind k S 0 p1) (fun r S' => Hp (T5 n nd tl rp im E) N S' ∧ (r = 0 ∨ r = 1)) := by
  unfold f_X5_doAllFind
  repeat' (first
    | (refine ok_dead ?_; omega)
    | exact ok_some ⟨hS, by first | trivial | omega⟩
    | (refine ok_bd2 (tf_X5_doTheseFind hN hn q1 g1 r1 h1 hS (by first | trivial | omega)) (fun _ _ hQ => ?_); obtain ⟨hS, hQ⟩ := hQ)
    | (refine ok_bd2 (tf_X5_doTheseFind hN hn (by omega) rfl sl_R (by omega) hS (by first | trivial | omega)) (fun _ _ hQ => ?_); obtain ⟨hS, hQ⟩ := hQ)
    | (refine ok_bd2 (tf_X5_doTheseFind hN hn (by omega) rfl tR_id (by omega) hS (by first | trivial | omega)) (fun _ _ hQ => ?_); obtain ⟨hS, hQ⟩ := hQ)
    | refine ok_bindE (by assumption) (fun _ => ?_)
    | refine ok_bindE (hF _ _ _ _ (by assumption)) (fun _ => ?_)
    | refine ok_is hS (by omega) rfl ?_
    | refine ok_rdFp hS (by omega) rfl rfl ?_
    | refine ok_rdFiE hS (by omega) rfl rfl (fun _ _ _ _ => ?_)
    | refine ok_rdFz hS (by omega) rfl rfl (fun _ => ?_)
    | refine ok_rdFl hS (by omega) rfl rfl (fun _ => ?_)
    | refine ok_rdA hS (by omega) rfl tR_id (by omega) (by omega) (by omega) (fun _ _ _ => ?_)
    | refine ok_rdA hS (by omega) rfl sl_R (by omega) (by omega) (by omega) (fun _ _ _ => ?_)
    | refine ok_rdW hS (by omega) rfl (by omega) (by omega) (by omega) (fun _ => ?_)
    | refine ok_wrAE hS (by omega) rfl (by omega) (by omega) (by omega) (fun L _ hL => tR_set (by omega) L hL) (fun _ hS hF => ?_)
    | refine ok_wrAE hS (by omega) rfl (by omega) (by omega) (by omega) (fun _ _ _ => trivial) (fun _ hS hF => ?_)
    | refine ok_wrF hS (by omega) rfl rfl (⟨_, rfl⟩ : fZ _) (fun _ hS => ?_)
    | refine ok_wrF hS (by omega) rfl rfl (⟨_, rfl⟩ : fL _) (fun _ hS => ?_)
    | refine ok_wrFE hS (by omega) rfl rfl (by omega) (fun _ hS _ => ?_)
    | (refine ok_if (fun hc => ?_) (fun hc => ?_) <;> try simp (disch := omega) only [wIn] at hc))
theorem tg_X5_doAllFindBy  {p1 : Nat} (hN : 26 ≤ N) (hn : 2 ≤ n ∧ n ≤ 7) {P1 : List Int → Prop} (q1 : p1 < N) (g1 : T5 n nd tl rp im E p1 = tA 0 7 P1) (r1 : ∀ L, P1 L → tR 0 6 L) (h1 : p1 ≠ 22) : ∀ (k lb : Nat) (S : xS) (i0 : Int) (i1 : Int), Hp (T5 n nd tl rp im E) N S → ((lb = 0 ∧ n + 34 ≤ (k : Int)) ∨ (lb = 1 ∧ 0 ≤ i1 ∧ i1 ≤ n ∧ n - i1 + 32 ≤ (k : Int))) → Ok (g_X5_doAllFindBy k lb S 0 p1 i0 i1) (fun r S' => Hp (T5 n nd tl rp im E) N S' ∧ (r = 0 ∨ r = 1)) := by
  intro k
  induction k with
  | zero => intro lb S i0 i1 hS hp; exfalso; omega
  | succ k ih =>
    intro lb S i0 i1 hS hp
    rcases hp with ⟨rfl, hp⟩ | ⟨rfl, hp⟩
    · show Ok (b_X5_doAllFindBy_0 (g_X5_doAllFindBy k) k S 0 p1 i0 i1) _
      unfold b_X5_doAllFindBy_0
      repeat' (first
        | (refine ok_dead ?_; omega)
        | exact ok_some ⟨hS, by first | trivial | omega⟩
        | exact ih 1 _ _ _ hS (Or.inr (⟨rfl, by omega⟩))
        | refine ok_bindE (by assumption) (fun _ => ?_)
        | refine ok_bindE (hF _ _ _ _ (by assumption)) (fun _ => ?_)
        | refine ok_is hS (by omega) rfl ?_
        | refine ok_rdFp hS (by omega) rfl rfl ?_
        | refine ok_rdFiE hS (by omega) rfl rfl (fun _ _ _ _ => ?_)
        | refine ok_rdFz hS (by omega) rfl rfl (fun _ => ?_)
        | refine ok_rdFl hS (by omega) rfl rfl (fun _ => ?_)
        | refine ok_rdA hS (by omega) rfl tR_id (by omega) (by omega) (by omega) (fun _ _ _ => ?_)
        | refine ok_rdA hS (by omega) rfl sl_R (by omega) (by omega) (by omega) (fun _ _ _ => ?_)
        | refine ok_rdW hS (by omega) rfl (by omega) (by omega) (by omega) (fun _ => ?_)
        | refine ok_wrAE hS (by omega) rfl (by omega) (by omega) (by omega) (fun L _ hL => tR_set (by omega) L hL) (fun _ hS hF => ?_)
        | refine ok_wrAE hS (by omega) rfl (by omega) (by omega) (by omega) (fun _ _ _ => trivial) (fun _ hS hF => ?_)
        | refine ok_wrF hS (by omega) rfl rfl (⟨_, rfl⟩ : fZ _) (fun _ hS => ?_)
        | refine ok_wrF hS (by omega) rfl rfl (⟨_, rfl⟩ : fL _) (fun _ hS => ?_)
        | refine ok_wrFE hS (by omega) rfl rfl (by omega) (fun _ hS _ => ?_)
        | (refine ok_if (fun hc => ?_) (fun hc => ?_) <;> try simp (disch := omega) only [wIn] at hc))
    · show Ok (b_X5_doAllFindBy_1 (g_X5_doAllFindBy k) k S 0 p1 i0 i1) _
      unfold b_X5_doAllFindBy_1
      repeat' (first
        | (refine ok_dead ?_; omega)
        | exact ok_some ⟨hS, by first | trivial | omega⟩
        | exact ih 1 _ _ _ hS (Or.inr (⟨rfl, by omega⟩))
        | (refine ok_bd2 (tf_X5_doesFind hN hn q1 g1 r1 h1 hS (by first | trivial | omega)) (fun _ _ hQ => ?_); obtain ⟨hS, hQ⟩ := hQ)
        | (refine ok_bd2 (tf_X5_doesFind hN hn (by omega) rfl sl_R (by omega) hS (by first | trivial | omega)) (fun _ _ hQ => ?_); obtain ⟨hS, hQ⟩ := hQ)
        | (refine ok_bd2 (tf_X5_doesFind hN hn (by omega) rfl tR_id (by omega) hS (by first | trivial | omega)) (fun _ _ hQ => ?_); obtain ⟨hS, hQ⟩ := hQ)
        | refine ok_bindE (by assumption) (fun _ => ?_)
        | refine ok_bindE (hF _ _ _ _ (by assumption)) (fun _ => ?_)
        | refine ok_is hS (by omega) rfl ?_
        | refine ok_rdFp hS (by omega) rfl rfl ?_
        | refine ok_rdFiE hS (by omega) rfl rfl (fun _ _ _ _ => ?_)
        | refine ok_rdFz hS (by omega) rfl rfl (fun _ => ?_)
        | refine ok_rdFl hS (by omega) rfl rfl (fun _ => ?_)
        | refine ok_rdA hS (by omega) rfl tR_id (by omega) (by omega) (by omega) (fun _ _ _ => ?_)
        | refine ok_rdA hS (by omega) rfl sl_R (by omega) (by omega) (by omega) (fun _ _ _ => ?_)
        | refine ok_rdW hS (by omega) rfl (by omega) (by omega) (by omega) (fun _ => ?_)
        | refine ok_wrAE hS (by omega) rfl (by omega) (by omega) (by omega) (fun L _ hL => tR_set (by omega) L hL) (fun _ hS hF => ?_)
        | refine ok_wrAE hS (by omega) rfl (by omega) (by omega) (by omega) (fun _ _ _ => trivial) (fun _ hS hF => ?_)
        | refine ok_wrF hS (by omega) rfl rfl (⟨_, rfl⟩ : fZ _) (fun _ hS => ?_)
        | refine ok_wrF hS (by omega) rfl rfl (⟨_, rfl⟩ : fL _) (fun _ hS => ?_)
        | refine ok_wrFE hS (by omega) rfl rfl (by omega) (fun _ hS _ => ?_)
        | (refine ok_if (fun hc => ?_) (fun hc => ?_) <;> try simp (disch := omega) only [wIn] at hc))
theorem tf_X5_doAllFindBy  {p1 : Nat} (hN : 26 ≤ N) (hn : 2 ≤ n ∧ n ≤ 7) {P1 : List Int → Prop} (q1 : p1 < N) (g1 : T5 n nd tl rp im E p1 = tA 0 7 P1) (r1 : ∀ L, P1 L → tR 0 6 L) (h1 : p1 ≠ 22) {k : Nat} {S : xS} {i0 : Int} (hS : Hp (T5 n nd tl rp im E) N S) (hp : n + 34 ≤ (k : Int)) : Ok (f_X5_doAllFindBy k S 0 p1 i0) (fun r S' => Hp (T5 n nd tl rp im E) N S' ∧ (r = 0 ∨ r = 1)) :=
  tg_X5_doAllFindBy hN hn q1 g1 r1 h1 k 0 S i0 0 hS (Or.inl ⟨rfl, hp⟩)
theorem tg_X5_mayTrialBe   (hN : 26 ≤ N) (hn : 2 ≤ n ∧ n ≤ 7) : ∀ (k lb : Nat) (S : xS) (i0 : Int) (i1 : Int), Hp (T5 n nd tl rp im E) N S → ((lb = 0 ∧ 2 * n + 52 ≤ (k : Int)) ∨ (lb = 1 ∧ 0 ≤ i0 ∧ i0 ≤ n ∧ 2 * (n - i0) + 51 ≤ (k : Int)) ∨ (lb = 2 ∧ 0 ≤ i0 ∧ i0 < n ∧ 2 * (n - i0) + 50 ≤ (k : Int)) ∨ (lb = 3 ∧ 0 ≤ i0 ∧ i0 ≤ 8 ∧ 2 * (8 - i0) + 32 ≤ (k : Int)) ∨ (lb = 4 ∧ 0 ≤ i0 ∧ i0 < 8 ∧ 2 * (8 - i0) + 31 ≤ (k : Int))) → Ok (g_X5_mayTrialBe k lb S 0 i0 i1) (fun r S' => Hp (T5 n nd tl rp im E) N S' ∧ (r = 0 ∨ r = 1)) := by
  intro k
  induction k with
  | zero => intro lb S i0 i1 hS hp; exfalso; omega
  | succ k ih =>
    intro lb S i0 i1 hS hp
    rcases hp with ⟨rfl, hp⟩ | ⟨rfl, hp⟩ | ⟨rfl, hp⟩ | ⟨rfl, hp⟩ | ⟨rfl, hp⟩
    · show Ok (b_X5_mayTrialBe_0 (g_X5_mayTrialBe k) k S 0 i0 i1) _
      unfold b_X5_mayTrialBe_0
      repeat' (first
        | (refine ok_dead ?_; omega)
        | exact ok_some ⟨hS, by first | trivial | omega⟩
        | exact ih 1 _ _ _ hS (Or.inr (Or.inl ⟨rfl, by omega⟩))
        | refine ok_bindE (by assumption) (fun _ => ?_)
        | refine ok_bindE (hF _ _ _ _ (by assumption)) (fun _ => ?_)
        | refine ok_is hS (by omega) rfl ?_
        | refine ok_rdFp hS (by omega) rfl rfl ?_
        | refine ok_rdFiE hS (by omega) rfl rfl (fun _ _ _ _ => ?_)
        | refine ok_rdFz hS (by omega) rfl rfl (fun _ => ?_)
        | refine ok_rdFl hS (by omega) rfl rfl (fun _ => ?_)
        | refine ok_rdA hS (by omega) rfl tR_id (by omega) (by omega) (by omega) (fun _ _ _ => ?_)
        | refine ok_rdA hS (by omega) rfl sl_R (by omega) (by omega) (by omega) (fun _ _ _ => ?_)
        | refine ok_rdW hS (by omega) rfl (by omega) (by omega) (by omega) (fun _ => ?_)
        | refine ok_wrAE hS (by omega) rfl (by omega) (by omega) (by omega) (fun L _ hL => tR_set (by omega) L hL) (fun _ hS hF => ?_)
        | refine ok_wrAE hS (by omega) rfl (by omega) (by omega) (by omega) (fun _ _ _ => trivial) (fun _ hS hF => ?_)
        | refine ok_wrF hS (by omega) rfl rfl (⟨_, rfl⟩ : fZ _) (fun _ hS => ?_)
        | refine ok_wrF hS (by omega) rfl rfl (⟨_, rfl⟩ : fL _) (fun _ hS => ?_)
        | refine ok_wrFE hS (by omega) rfl rfl (by omega) (fun _ hS _ => ?_)
        | (refine ok_if (fun hc => ?_) (fun hc => ?_) <;> try simp (disch := omega) only [wIn] at hc))
    · show Ok (b_X5_mayTrialBe_1 (g_X5_mayTrialBe k) k S 0 i0 i1) _
      unfold b_X5_mayTrialBe_1
      repeat' (first
        | (refine ok_dead ?_; omega)
        | exact ok_some ⟨hS, by first | trivial | omega⟩
        | exact ih 2 _ _ _ hS (Or.inr (Or.inr (Or.inl ⟨rfl, by omega⟩)))
        | exact ih 3 _ _ _ hS (Or.inr (Or.inr (Or.inr (Or.inl ⟨rfl, by omega⟩))))
        | refine ok_bindE (by assumption) (fun _ => ?_)
        | refine ok_bindE (hF _ _ _ _ (by assumption)) (fun _ => ?_)
        | refine ok_is hS (by omega) rfl ?_
        | refine ok_rdFp hS (by omega) rfl rfl ?_
        | refine ok_rdFiE hS (by omega) rfl rfl (fun _ _ _ _ => ?_)
        | refine ok_rdFz hS (by omega) rfl rfl (fun _ => ?_)
        | refine ok_rdFl hS (by omega) rfl rfl (fun _ => ?_)
        | refine ok_rdA hS (by omega) rfl tR_id (by omega) (by omega) (by omega) (fun _ _ _ => ?_)
        | refine ok_rdA hS (by omega) rfl sl_R (by omega) (by omega) (by omega) (fun _ _ _ => ?_)
        | refine ok_rdW hS (by omega) rfl (by omega) (by omega) (by omega) (fun _ => ?_)
        | refine ok_wrAE hS (by omega) rfl (by omega) (by omega) (by omega) (fun L _ hL => tR_set (by omega) L hL) (fun _ hS hF => ?_)
        | refine ok_wrAE hS (by omega) rfl (by omega) (by omega) (by omega) (fun _ _ _ => trivial) (fun _ hS hF => ?_)
        | refine ok_wrF hS (by omega) rfl rfl (⟨_, rfl⟩ : fZ _) (fun _ hS => ?_)
        | refine ok_wrF hS (by omega) rfl rfl (⟨_, rfl⟩ : fL _) (fun _ hS => ?_)
        | refine ok_wrFE hS (by omega) rfl rfl (by omega) (fun _ hS _ => ?_)
        | (refine ok_if (fun hc => ?_) (fun hc => ?_) <;> try simp (disch := omega) only [wIn] at hc))
    · show Ok (b_X5_mayTrialBe_2 (g_X5_mayTrialBe k) k S 0 i0 i1) _
      unfold b_X5_mayTrialBe_2
      repeat' (first
        | (refine ok_dead ?_; omega)
        | exact ok_some ⟨hS, by first | trivial | omega⟩
        | exact ih 1 _ _ _ hS (Or.inr (Or.inl ⟨rfl, by omega⟩))
        | refine ok_bindE (by assumption) (fun _ => ?_)
        | refine ok_bindE (hF _ _ _ _ (by assumption)) (fun _ => ?_)
        | refine ok_is hS (by omega) rfl ?_
        | refine ok_rdFp hS (by omega) rfl rfl ?_
        | refine ok_rdFiE hS (by omega) rfl rfl (fun _ _ _ _ => ?_)
        | refine ok_rdFz hS (by omega) rfl rfl (fun _ => ?_)
        | refine ok_rdFl hS (by omega) rfl rfl (fun _ => ?_)
        | refine ok_rdA hS (by omega) rfl tR_id (by omega) (by omega) (by omega) (fun _ _ _ => ?_)
        | refine ok_rdA hS (by omega) rfl sl_R (by omega) (by omega) (by omega) (fun _ _ _ => ?_)
        | refine ok_rdW hS (by omega) rfl (by omega) (by omega) (by omega) (fun _ => ?_)
        | refine ok_wrAE hS (by omega) rfl (by omega) (by omega) (by omega) (fun L _ hL => tR_set (by omega) L hL) (fun _ hS hF => ?_)
        | refine ok_wrAE hS (by omega) rfl (by omega) (by omega) (by omega) (fun _ _ _ => trivial) (fun _ hS hF => ?_)
        | refine ok_wrF hS (by omega) rfl rfl (⟨_, rfl⟩ : fZ _) (fun _ hS => ?_)
        | refine ok_wrF hS (by omega) rfl rfl (⟨_, rfl⟩ : fL _) (fun _ hS => ?_)
        | refine ok_wrFE hS (by omega) rfl rfl (by omega) (fun _ hS _ => ?_)
        | (refine ok_if (fun hc => ?_) (fun hc => ?_) <;> try simp (disch := omega) only [wIn] at hc))
    · show Ok (b_X5_mayTrialBe_3 (g_X5_mayTrialBe k) k S 0 i0 i1) _
      unfold b_X5_mayTrialBe_3
      repeat' (first
        | (refine ok_dead ?_; omega)
        | exact ok_some ⟨hS, by first | trivial | omega⟩
        | exact ih 4 _ _ _ hS (Or.inr (Or.inr (Or.inr (Or.inr (⟨rfl, by omega⟩)))))
        | (refine ok_bd2 (tf_X2_seek hN hn q1 g1 r1 h1 hS (by first | trivial | omega)) (fun _ _ hQ => ?_); obtain ⟨hS, hQ⟩ := hQ)
        | (refine ok_bd2 (tf_X2_seek hN hn (by omega) rfl sl_R (by omega) hS (by first | trivial | omega)) (fun _ _ hQ => ?_); obtain ⟨hS, hQ⟩ := hQ)
        | (refine ok_bd2 (tf_X2_seek hN hn (by omega) rfl tR_id (by omega) hS (by first | trivial | omega)) (fun _ _ hQ => ?_); obtain ⟨hS, hQ⟩ := hQ)
        | refine ok_bindE (by assumption) (fun _ => ?_)
        | refine ok_bindE (hF _ _ _ _ (by assumption)) (fun _ => ?_)
        | refine ok_is hS (by omega) rfl ?_
        | refine ok_rdFp hS (by omega) rfl rfl ?_
        | refine ok_rdFiE hS (by omega) rfl rfl (fun _ _ _ _ => ?_)
        | refine ok_rdFz hS (by omega) rfl rfl (fun _ => ?_)
        | refine ok_rdFl hS (by omega) rfl rfl (fun _ => ?_)
        | refine ok_rdA hS (by omega) rfl tR_id (by omega) (by omega) (by omega) (fun _ _ _ => ?_)
        | refine ok_rdA hS (by omega) rfl sl_R (by omega) (by omega) (by omega) (fun _ _ _ => ?_)
        | refine ok_rdW hS (by omega) rfl (by omega) (by omega) (by omega) (fun _ => ?_)
        | refine ok_wrAE hS (by omega) rfl (by omega) (by omega) (by omega) (fun L _ hL => tR_set (by omega) L hL) (fun _ hS hF => ?_)
        | refine ok_wrAE hS (by omega) rfl (by omega) (by omega) (by omega) (fun _ _ _ => trivial) (fun _ hS hF => ?_)
        | refine ok_wrF hS (by omega) rfl rfl (⟨_, rfl⟩ : fZ _) (fun _ hS => ?_)
        | refine ok_wrF hS (by omega) rfl rfl (⟨_, rfl⟩ : fL _) (fun _ hS => ?_)
        | refine ok_wrFE hS (by omega) rfl rfl (by omega) (fun _ hS _ => ?_)
        | (refine ok_if (fun hc => ?_) (fun hc => ?_) <;> try simp (disch := omega) only [wIn] at hc))
    · show Ok (b_X5_mayTrialBe_4 (g_X5_mayTrialBe k) k S 0 i0 i1) _
      unfold b_X5_mayTrialBe_4
      repeat' (first
        | (refine ok_dead ?_; omega)
        | exact ok_some ⟨hS, by first | trivial | omega⟩
        | exact ih 3 _ _ _ hS (Or.inr (Or.inr (Or.inr (Or.inl ⟨rfl, by omega⟩))))
        | refine ok_bindE (by assumption) (fun _ => ?_)
        | refine ok_bindE (hF _ _ _ _ (by assumption)) (fun _ => ?_)
        | refine ok_is hS (by omega) rfl ?_
        | refine ok_rdFp hS (by omega) rfl rfl ?_
        | refine ok_rdFiE hS (by omega) rfl rfl (fun _ _ _ _ => ?_)
        | refine ok_rdFz hS (by omega) rfl rfl (fun _ => ?_)
        | refine ok_rdFl hS (by omega) rfl rfl (fun _ => ?_)
        | refine ok_rdA hS (by omega) rfl tR_id (by omega) (by omega) (by omega) (fun _ _ _ => ?_)
        | refine ok_rdA hS (by omega) rfl sl_R (by omega) (by omega) (by omega) (fun _ _ _ => ?_)
        | refine ok_rdW hS (by omega) rfl (by omega) (by omega) (by omega) (fun _ => ?_)
        | refine ok_wrAE hS (by omega) rfl (by omega) (by omega) (by omega) (fun L _ hL => tR_set (by omega) L hL) (fun _ hS hF => ?_)
        | refine ok_wrAE hS (by omega) rfl (by omega) (by omega) (by omega) (fun _ _ _ => trivial) (fun _ hS hF => ?_)
        | refine ok_wrF hS (by omega) rfl rfl (⟨_, rfl⟩ : fZ _) (fun _ hS => ?_)
        | refine ok_wrF hS (by omega) rfl rfl (⟨_, rfl⟩ : fL _) (fun _ hS => ?_)
        | refine ok_wrFE hS (by omega) rfl rfl (by omega) (fun _ hS _ => ?_)
        | (refine ok_if (fun hc => ?_) (fun hc => ?_) <;> try simp (disch := omega) only [wIn] at hc))
theorem tf_X5_mayTrialBe   (hN : 26 ≤ N) (hn : 2 ≤ n ∧ n ≤ 7) {k : Nat} {S : xS} (hS : Hp (T5 n nd tl rp im E) N S) (hp : 2 * n + 52 ≤ (k : Int)) : Ok (f_X5_mayTrialBe k S 0) (fun r S' => Hp (T5 n nd tl rp im E) N S' ∧ (r = 0 ∨ r = 1)) :=
  tg_X5_mayTrialBe hN hn k 0 S 0 0 hS (Or.inl ⟨rfl, hp⟩)
theorem tf_X5_setFraction   (hN : 26 ≤ N) (hn : 2 ≤ n ∧ n ≤ 7) {k : Nat} {S : xS} {i0 : Int} {i1 : Int} (hS : Hp (T5 n nd tl rp im E) N S) (hp : 103 ≤ (k : Int)) : Ok (f_X5_setFraction k S 0 i0 i1) (fun r S' => Hp (T5 n nd tl rp im E) N S' ∧ True) := by
  unfold f_X5_setFraction
  repeat' (first
    | (refine ok_dead ?_; omega)
    | exact ok_some ⟨hS, by first | trivial | omega⟩
    | (refine ok_bd2 (tf_X5_commonDivisor  hS (by first | trivial | omega)) (fun _ _ hQ => ?_); obtain ⟨rfl, hQ⟩ := hQ)
    | refine ok_bindE (by assumption) (fun _ => ?_)
    | refine ok_bindE (hF _ _ _ _ (by assumption)) (fun _ => ?_)
    | refine ok_is hS (by omega) rfl ?_
    | refine ok_rdFp hS (by omega) rfl rfl ?_
    | refine ok_rdFiE hS (by omega) rfl rfl (fun _ _ _ _ => ?_)
    | refine ok_rdFz hS (by omega) rfl rfl (fun _ => ?_)
    | refine ok_rdFl hS (by omega) rfl rfl (fun _ => ?_)
    | refine ok_rdA hS (by omega) rfl tR_id (by omega) (by omega) (by omega) (fun _ _ _ => ?_)
    | refine ok_rdA hS (by omega) rfl sl_R (by omega) (by omega) (by omega) (fun _ _ _ => ?_)
    | refine ok_rdW hS (by omega) rfl (by omega) (by omega) (by omega) (fun _ => ?_)
    | refine ok_wrAE hS (by omega) rfl (by omega) (by omega) (by omega) (fun L _ hL => tR_set (by omega) L hL) (fun _ hS hF => ?_)
    | refine ok_wrAE hS (by omega) rfl (by omega) (by omega) (by omega) (fun _ _ _ => trivial) (fun _ hS hF => ?_)
    | refine ok_wrF hS (by omega) rfl rfl (⟨_, rfl⟩ : fZ _) (fun _ hS => ?_)
    | refine ok_wrF hS (by omega) rfl rfl (⟨_, rfl⟩ : fL _) (fun _ hS => ?_)
    | refine ok_wrFE hS (by omega) rfl rfl (by omega) (fun _ hS _ => ?_)
    | (refine ok_if (fun hc => ?_) (fun hc => ?_) <;> try simp (disch := omega) only [wIn] at hc))
