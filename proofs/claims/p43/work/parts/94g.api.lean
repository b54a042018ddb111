variable {n nd tl : Int} {rp : Option Nat} {im : List (Option Nat)} {E : xT} {N : Nat}
variable {m : Int}
theorem T5_room : up (up (T5 n nd tl rp im E) 1 (roomT m 2 3 4 5 6 7 8 9)) 2 (tA 0 7 (sl m)) = T5 m nd tl rp im E := by
  funext q
  by_cases h2 : q = 2
  · subst h2
    rfl
  rw [up_ne h2]
  by_cases h1 : q = 1
  · subst h1
    rfl
  rw [up_ne h1]
  exact match q, h1, h2 with
  | 0, h1, h2 => rfl
  | 1, h1, h2 => absurd rfl h1
  | 2, h1, h2 => absurd rfl h2
  | 3, h1, h2 => rfl
  | 4, h1, h2 => rfl
  | 5, h1, h2 => rfl
  | 6, h1, h2 => rfl
  | 7, h1, h2 => rfl
  | 8, h1, h2 => rfl
  | 9, h1, h2 => rfl
  | 10, h1, h2 => rfl
  | 11, h1, h2 => rfl
  | 12, h1, h2 => rfl
  | 13, h1, h2 => rfl
  | 14, h1, h2 => rfl
  | 15, h1, h2 => rfl
  | 16, h1, h2 => rfl
  | 17, h1, h2 => rfl
  | 18, h1, h2 => rfl
  | 19, h1, h2 => rfl
  | 20, h1, h2 => rfl
  | 21, h1, h2 => rfl
  | 22, h1, h2 => rfl
  | 23, h1, h2 => rfl
  | 24, h1, h2 => rfl
  | 25, h1, h2 => rfl
  | _ + 26, _, _ => rfl
theorem T5_draft : up (up (T5 n nd tl rp im E) 10 (roomT m 11 12 13 14 15 16 17 18)) 11 (tA 0 7 (sl m)) = T5 n m tl rp im E := by
  funext q
  by_cases h11 : q = 11
  · subst h11
    rfl
  rw [up_ne h11]
  by_cases h10 : q = 10
  · subst h10
    rfl
  rw [up_ne h10]
  exact match q, h10, h11 with
  | 0, h10, h11 => rfl
  | 1, h10, h11 => rfl
  | 2, h10, h11 => rfl
  | 3, h10, h11 => rfl
  | 4, h10, h11 => rfl
  | 5, h10, h11 => rfl
  | 6, h10, h11 => rfl
  | 7, h10, h11 => rfl
  | 8, h10, h11 => rfl
  | 9, h10, h11 => rfl
  | 10, h10, h11 => absurd rfl h10
  | 11, h10, h11 => absurd rfl h11
  | 12, h10, h11 => rfl
  | 13, h10, h11 => rfl
  | 14, h10, h11 => rfl
  | 15, h10, h11 => rfl
  | 16, h10, h11 => rfl
  | 17, h10, h11 => rfl
  | 18, h10, h11 => rfl
  | 19, h10, h11 => rfl
  | 20, h10, h11 => rfl
  | 21, h10, h11 => rfl
  | 22, h10, h11 => rfl
  | 23, h10, h11 => rfl
  | 24, h10, h11 => rfl
  | 25, h10, h11 => rfl
  | _ + 26, _, _ => rfl
theorem T5_text : up (T5 n nd tl rp im E) 20 (tO 3 [fP 21, fI m m, fI 0 150, fZ, fI 0 150, fI 0 9999]) = T5 n nd m rp im E := by
  funext q
  by_cases h20 : q = 20
  · subst h20
    rfl
  rw [up_ne h20]
  exact match q, h20 with
  | 0, h20 => rfl
  | 1, h20 => rfl
  | 2, h20 => rfl
  | 3, h20 => rfl
  | 4, h20 => rfl
  | 5, h20 => rfl
  | 6, h20 => rfl
  | 7, h20 => rfl
  | 8, h20 => rfl
  | 9, h20 => rfl
  | 10, h20 => rfl
  | 11, h20 => rfl
  | 12, h20 => rfl
  | 13, h20 => rfl
  | 14, h20 => rfl
  | 15, h20 => rfl
  | 16, h20 => rfl
  | 17, h20 => rfl
  | 18, h20 => rfl
  | 19, h20 => rfl
  | 20, h20 => absurd rfl h20
  | 21, h20 => rfl
  | 22, h20 => rfl
  | 23, h20 => rfl
  | 24, h20 => rfl
  | 25, h20 => rfl
  | _ + 26, _ => rfl
theorem tf_X1_goBack   (hN : 26 ≤ N) (hn : 2 ≤ n ∧ n ≤ 7) {k : Nat} {S : xS} (hS : Hp (T5 n nd tl rp im E) N S) (hp : 45 ≤ (k : Int)) : Ok (f_X1_goBack k S 1) (fun r S' => Hp (T5 n nd tl rp im E) N S' ∧ True) := by
  unfold f_X1_goBack
  repeat' (first
    | (refine ok_dead ?_; omega)
    | exact ok_some ⟨hS, by first | trivial | omega⟩
    | (refine ok_bd2 (tf_X4_setToRank (G := T5 n nd tl rp im E) (by omega) rfl tR_id (fun L i x hx hL => tR_set hx L hL) hS (by first | trivial | omega)) (fun _ _ hQ => ?_); obtain ⟨hS, hQ⟩ := hQ)
    | refine ok_rdFx hS (by omega) rfl rfl ?_
    | (refine ok_bd2 (ok_exch (q := 2) (by omega) rfl hS (by omega) (by omega)) (fun _ _ hQ => ?_); obtain ⟨hS, hQ⟩ := hQ)
    | (refine ok_bd2 (ok_setRank (q := 2) (by omega) rfl hn hS (by omega) (by omega)) (fun _ _ hQ => ?_); obtain ⟨hS, hQ⟩ := hQ)
    | (refine ok_bd2 (tf_X1_makeMove hN hn hS (by omega) (by omega)) (fun _ _ hQ => ?_); obtain ⟨hS, hQ⟩ := hQ)
    | (refine ok_bd2 (tf_X1_keepPast hN hn hS (by omega)) (fun _ _ hQ => ?_); obtain ⟨hS, hQ⟩ := hQ)
    | refine ok_bindE (by assumption) (fun _ => ?_)
    | refine ok_bindE (hF _ _ _ _ (by assumption)) (fun _ => ?_)
    | refine ok_is hS (by omega) rfl ?_
    | refine ok_rdFp hS (by omega) rfl rfl ?_
    | refine ok_rdFiE hS (by omega) rfl rfl (fun _ _ _ _ => ?_)
    | refine ok_rdFz hS (by omega) rfl rfl (fun _ => ?_)
    | refine ok_rdFl hS (by omega) rfl rfl (fun _ => ?_)
    | refine ok_rdA hS (by omega) rfl tR_id (by omega) (by omega) (by omega) (fun _ _ _ => ?_)
    | refine ok_rdA hS (by omega) rfl sl_R (by omega) (by omega) (by omega) (fun _ _ _ => ?_)
    | refine ok_rdW hS (by omega) rfl (by omega) (by omega) (by omega) (fun _ => ?_)
    | refine ok_wrAE hS (by omega) rfl (by omega) (by omega) (by omega) (fun L _ hL => tR_set (by omega) L hL) (fun _ hS hF => ?_)
    | refine ok_wrAE hS (by omega) rfl (by omega) (by omega) (by omega) (fun _ _ _ => trivial) (fun _ hS hF => ?_)
    | refine ok_wrF hS (by omega) rfl rfl (⟨_, rfl⟩ : fZ _) (fun _ hS => ?_)
    | refine ok_wrF hS (by omega) rfl rfl (⟨_, rfl⟩ : fL _) (fun _ hS => ?_)
    | refine ok_wrFE hS (by omega) rfl rfl (by omega) (fun _ hS _ => ?_)
    | (refine ok_if (fun hc => ?_) (fun hc => ?_) <;> try simp (disch := omega) only [wIn] at hc))
theorem tg_X5_swap   (hN : 26 ≤ N) (hn : 2 ≤ n ∧ n ≤ 7) : ∀ (k lb : Nat) (S : xS) (i0 : Int) (i1 : Int), Hp (T5 n nd tl rp im E) N S → ((lb = 0 ∧ -2147483648 ≤ i0 ∧ i0 < 2147483648 ∧ -2147483648 ≤ i1 ∧ i1 < 2147483648 ∧ 20 ≤ (k : Int)) ∨ (lb = 1 ∧ 1 ≤ (k : Int))) → Ok (g_X5_swap k lb S 0 i0 i1) (fun r S' => Hp (T5 n nd tl rp im E) N S' ∧ True) := by
  intro k
  induction k with
  | zero => intro lb S i0 i1 hS hp; exfalso; omega
  | succ k ih =>
    intro lb S i0 i1 hS hp
    rcases hp with ⟨rfl, hp⟩ | ⟨rfl, hp⟩
    · show Ok (b_X5_swap_0 (g_X5_swap k) k S 0 i0 i1) _
      unfold b_X5_swap_0
      repeat' (first
        | (refine ok_dead ?_; omega)
        | exact ok_some ⟨hS, by first | trivial | omega⟩
        | exact ih 1 _ _ _ hS (Or.inr (⟨rfl, by omega⟩))
        | (refine ok_bd2 (tf_X5_isNoBox hN hn hS (by first | trivial | omega)) (fun _ _ hQ => ?_); obtain ⟨rfl, hQ⟩ := hQ)
        | (refine ok_bd2 (tf_X1_keepPast hN hn hS (by first | trivial | omega)) (fun _ _ hQ => ?_); obtain ⟨hS, hQ⟩ := hQ)
        | (refine ok_bd2 (tf_X4_exchange (G := T5 n nd tl rp im E) (by omega) rfl tR_id (fun L i x hx hL => tR_set hx L hL) hS (by first | trivial | omega)) (fun _ _ hQ => ?_); obtain ⟨hS, hQ⟩ := hQ)
        | refine ok_rdFx hS (by omega) rfl rfl ?_
        | (refine ok_bd2 (ok_exch (q := 2) (by omega) rfl hS (by omega) (by omega)) (fun _ _ hQ => ?_); obtain ⟨hS, hQ⟩ := hQ)
        | (refine ok_bd2 (ok_setRank (q := 2) (by omega) rfl hn hS (by omega) (by omega)) (fun _ _ hQ => ?_); obtain ⟨hS, hQ⟩ := hQ)
        | (refine ok_bd2 (tf_X1_makeMove hN hn hS (by omega) (by omega)) (fun _ _ hQ => ?_); obtain ⟨hS, hQ⟩ := hQ)
        | (refine ok_bd2 (tf_X1_keepPast hN hn hS (by omega)) (fun _ _ hQ => ?_); obtain ⟨hS, hQ⟩ := hQ)
        | refine ok_bindE (by assumption) (fun _ => ?_)
        | refine ok_bindE (hF _ _ _ _ (by assumption)) (fun _ => ?_)
        | refine ok_is hS (by omega) rfl ?_
        | refine ok_rdFp hS (by omega) rfl rfl ?_
        | refine ok_rdFiE hS (by omega) rfl rfl (fun _ _ _ _ => ?_)
        | refine ok_rdFz hS (by omega) rfl rfl (fun _ => ?_)
        | refine ok_rdFl hS (by omega) rfl rfl (fun _ => ?_)
        | refine ok_rdA hS (by omega) rfl tR_id (by omega) (by omega) (by omega) (fun _ _ _ => ?_)
        | refine ok_rdA hS (by omega) rfl sl_R (by omega) (by omega) (by omega) (fun _ _ _ => ?_)
        | refine ok_rdW hS (by omega) rfl (by omega) (by omega) (by omega) (fun _ => ?_)
        | refine ok_wrAE hS (by omega) rfl (by omega) (by omega) (by omega) (fun L _ hL => tR_set (by omega) L hL) (fun _ hS hF => ?_)
        | refine ok_wrAE hS (by omega) rfl (by omega) (by omega) (by omega) (fun _ _ _ => trivial) (fun _ hS hF => ?_)
        | refine ok_wrF hS (by omega) rfl rfl (⟨_, rfl⟩ : fZ _) (fun _ hS => ?_)
        | refine ok_wrF hS (by omega) rfl rfl (⟨_, rfl⟩ : fL _) (fun _ hS => ?_)
        | refine ok_wrFE hS (by omega) rfl rfl (by omega) (fun _ hS _ => ?_)
        | (refine ok_if (fun hc => ?_) (fun hc => ?_) <;> try simp (disch := omega) only [wIn] at hc))
    · show Ok (b_X5_swap_1 (g_X5_swap k) k S 0 i0 i1) _
      unfold b_X5_swap_1
      repeat' (first
        | (refine ok_dead ?_; omega)
        | exact ok_some ⟨hS, by first | trivial | omega⟩
        | (refine ok_bd2 (tf_X5_refuseBad hN hn hS (by first | trivial | omega)) (fun _ _ hQ => ?_); obtain ⟨hS, hQ⟩ := hQ)
        | refine ok_rdFx hS (by omega) rfl rfl ?_
        | (refine ok_bd2 (ok_exch (q := 2) (by omega) rfl hS (by omega) (by omega)) (fun _ _ hQ => ?_); obtain ⟨hS, hQ⟩ := hQ)
        | (refine ok_bd2 (ok_setRank (q := 2) (by omega) rfl hn hS (by omega) (by omega)) (fun _ _ hQ => ?_); obtain ⟨hS, hQ⟩ := hQ)
        | (refine ok_bd2 (tf_X1_makeMove hN hn hS (by omega) (by omega)) (fun _ _ hQ => ?_); obtain ⟨hS, hQ⟩ := hQ)
        | (refine ok_bd2 (tf_X1_keepPast hN hn hS (by omega)) (fun _ _ hQ => ?_); obtain ⟨hS, hQ⟩ := hQ)
        | refine ok_bindE (by assumption) (fun _ => ?_)
        | refine ok_bindE (hF _ _ _ _ (by assumption)) (fun _ => ?_)
        | refine ok_is hS (by omega) rfl ?_
        | refine ok_rdFp hS (by omega) rfl rfl ?_
        | refine ok_rdFiE hS (by omega) rfl rfl (fun _ _ _ _ => ?_)
        | refine ok_rdFz hS (by omega) rfl rfl (fun _ => ?_)
        | refine ok_rdFl hS (by omega) rfl rfl (fun _ => ?_)
        | refine ok_rdA hS (by omega) rfl tR_id (by omega) (by omega) (by omega) (fun _ _ _ => ?_)
        | refine ok_rdA hS (by omega) rfl sl_R (by omega) (by omega) (by omega) (fun _ _ _ => ?_)
        | refine ok_rdW hS (by omega) rfl (by omega) (by omega) (by omega) (fun _ => ?_)
        | refine ok_wrAE hS (by omega) rfl (by omega) (by omega) (by omega) (fun L _ hL => tR_set (by omega) L hL) (fun _ hS hF => ?_)
        | refine ok_wrAE hS (by omega) rfl (by omega) (by omega) (by omega) (fun _ _ _ => trivial) (fun _ hS hF => ?_)
        | refine ok_wrF hS (by omega) rfl rfl (⟨_, rfl⟩ : fZ _) (fun _ hS => ?_)
        | refine ok_wrF hS (by omega) rfl rfl (⟨_, rfl⟩ : fL _) (fun _ hS => ?_)
        | refine ok_wrFE hS (by omega) rfl rfl (by omega) (fun _ hS _ => ?_)
        | (refine ok_if (fun hc => ?_) (fun hc => ?_) <;> try simp (disch := omega) only [wIn] at hc))
theorem tf_X5_swap   (hN : 26 ≤ N) (hn : 2 ≤ n ∧ n ≤ 7) {k : Nat} {S : xS} {i0 : Int} {i1 : Int} (hS : Hp (T5 n nd tl rp im E) N S) (hp : -2147483648 ≤ i0 ∧ i0 < 2147483648 ∧ -2147483648 ≤ i1 ∧ i1 < 2147483648 ∧ 20 ≤ (k : Int)) : Ok (f_X5_swap k S 0 i0 i1) (fun r S' => Hp (T5 n nd tl rp im E) N S' ∧ True) :=
  tg_X5_swap hN hn k 0 S i0 i1 hS (Or.inl ⟨rfl, hp⟩)
theorem tf_X5_lay   (hN : 26 ≤ N) (hn : 2 ≤ n ∧ n ≤ 7) {k : Nat} {S : xS} {i0 : Int} (hS : Hp (T5 n nd tl rp im E) N S) (hp : -2147483648 ≤ i0 ∧ i0 < 2147483648 ∧ 60 ≤ (k : Int)) : Ok (f_X5_lay k S 0 i0) (fun r S' => Hp (T5 n nd tl rp im E) N S' ∧ True) := by
  unfold f_X5_lay
  repeat' (first
    | (refine ok_dead ?_; omega)
    | exact ok_some ⟨hS, by first | trivial | omega⟩
    | (refine ok_bd2 (tf_X5_isNoRank hN hn hS (by first | trivial | omega)) (fun _ _ hQ => ?_); obtain ⟨rfl, hQ⟩ := hQ)
    | (refine ok_bd2 (tf_X1_rankNow hN hn hS (by first | trivial | omega)) (fun _ _ hQ => ?_); obtain ⟨rfl, hQ⟩ := hQ)
    | (refine ok_bd2 (tf_X1_keepPast hN hn hS (by first | trivial | omega)) (fun _ _ hQ => ?_); obtain ⟨hS, hQ⟩ := hQ)
    | (refine ok_bd2 (tf_X4_setToRank (G := T5 n nd tl rp im E) (by omega) rfl tR_id (fun L i x hx hL => tR_set hx L hL) hS (by first | trivial | omega)) (fun _ _ hQ => ?_); obtain ⟨hS, hQ⟩ := hQ)
    | (refine ok_bd2 (tf_X5_refuseBad hN hn hS (by first | trivial | omega)) (fun _ _ hQ => ?_); obtain ⟨hS, hQ⟩ := hQ)
    | refine ok_rdFx hS (by omega) rfl rfl ?_
    | (refine ok_bd2 (ok_exch (q := 2) (by omega) rfl hS (by omega) (by omega)) (fun _ _ hQ => ?_); obtain ⟨hS, hQ⟩ := hQ)
    | (refine ok_bd2 (ok_setRank (q := 2) (by omega) rfl hn hS (by omega) (by omega)) (fun _ _ hQ => ?_); obtain ⟨hS, hQ⟩ := hQ)
    | (refine ok_bd2 (tf_X1_makeMove hN hn hS (by omega) (by omega)) (fun _ _ hQ => ?_); obtain ⟨hS, hQ⟩ := hQ)
    | (refine ok_bd2 (tf_X1_keepPast hN hn hS (by omega)) (fun _ _ hQ => ?_); obtain ⟨hS, hQ⟩ := hQ)
    | refine ok_bindE (by assumption) (fun _ => ?_)
    | refine ok_bindE (hF _ _ _ _ (by assumption)) (fun _ => ?_)
    | refine ok_is hS (by omega) rfl ?_
    | refine ok_rdFp hS (by omega) rfl rfl ?_
    | refine ok_rdFiE hS (by omega) rfl rfl (fun _ _ _ _ => ?_)
    | refine ok_rdFz hS (by omega) rfl rfl (fun _ => ?_)
    | refine ok_rdFl hS (by omega) rfl rfl (fun _ => ?_)
    | refine ok_rdA hS (by omega) rfl tR_id (by omega) (by omega) (by omega) (fun _ _ _ => ?_)
    | refine ok_rdA hS (by omega) rfl sl_R (by omega) (by omega) (by omega) (fun _ _ _ => ?_)
    | refine ok_rdW hS (by omega) rfl (by omega) (by omega) (by omega) (fun _ => ?_)
    | refine ok_wrAE hS (by omega) rfl (by omega) (by omega) (by omega) (fun L _ hL => tR_set (by omega) L hL) (fun _ hS hF => ?_)
    | refine ok_wrAE hS (by omega) rfl (by omega) (by omega) (by omega) (fun _ _ _ => trivial) (fun _ hS hF => ?_)
    | refine ok_wrF hS (by omega) rfl rfl (⟨_, rfl⟩ : fZ _) (fun _ hS => ?_)
    | refine ok_wrF hS (by omega) rfl rfl (⟨_, rfl⟩ : fL _) (fun _ hS => ?_)
    | refine ok_wrFE hS (by omega) rfl rfl (by omega) (fun _ hS _ => ?_)
    | (refine ok_if (fun hc => ?_) (fun hc => ?_) <;> try simp (disch := omega) only [wIn] at hc))
theorem tf_X5_undo   (hN : 26 ≤ N) (hn : 2 ≤ n ∧ n ≤ 7) {k : Nat} {S : xS} (hS : Hp (T5 n nd tl rp im E) N S) (hp : 50 ≤ (k : Int)) : Ok (f_X5_undo k S 0) (fun r S' => Hp (T5 n nd tl rp im E) N S' ∧ True) := by
  unfold f_X5_undo
  repeat' (first
    | (refine ok_dead ?_; omega)
    | exact ok_some ⟨hS, by first | trivial | omega⟩
    | (refine ok_bd2 (tf_X5_refuseNo hN hn hS (by first | trivial | omega)) (fun _ _ hQ => ?_); obtain ⟨hS, hQ⟩ := hQ)
    | (refine ok_bd2 (tf_X1_goBack hN hn hS (by first | trivial | omega)) (fun _ _ hQ => ?_); obtain ⟨hS, hQ⟩ := hQ)
    | refine ok_rdFx hS (by omega) rfl rfl ?_
    | (refine ok_bd2 (ok_exch (q := 2) (by omega) rfl hS (by omega) (by omega)) (fun _ _ hQ => ?_); obtain ⟨hS, hQ⟩ := hQ)
    | (refine ok_bd2 (ok_setRank (q := 2) (by omega) rfl hn hS (by omega) (by omega)) (fun _ _ hQ => ?_); obtain ⟨hS, hQ⟩ := hQ)
    | (refine ok_bd2 (tf_X1_makeMove hN hn hS (by omega) (by omega)) (fun _ _ hQ => ?_); obtain ⟨hS, hQ⟩ := hQ)
    | (refine ok_bd2 (tf_X1_keepPast hN hn hS (by omega)) (fun _ _ hQ => ?_); obtain ⟨hS, hQ⟩ := hQ)
    | refine ok_bindE (by assumption) (fun _ => ?_)
    | refine ok_bindE (hF _ _ _ _ (by assumption)) (fun _ => ?_)
    | refine ok_is hS (by omega) rfl ?_
    | refine ok_rdFp hS (by omega) rfl rfl ?_
    | refine ok_rdFiE hS (by omega) rfl rfl (fun _ _ _ _ => ?_)
    | refine ok_rdFz hS (by omega) rfl rfl (fun _ => ?_)
    | refine ok_rdFl hS (by omega) rfl rfl (fun _ => ?_)
    | refine ok_rdA hS (by omega) rfl tR_id (by omega) (by omega) (by omega) (fun _ _ _ => ?_)
    | refine ok_rdA hS (by omega) rfl sl_R (by omega) (by omega) (by omega) (fun _ _ _ => ?_)
    | refine ok_rdW hS (by omega) rfl (by omega) (by omega) (by omega) (fun _ => ?_)
    | refine ok_wrAE hS (by omega) rfl (by omega) (by omega) (by omega) (fun L _ hL => tR_set (by omega) L hL) (fun _ hS hF => ?_)
    | refine ok_wrAE hS (by omega) rfl (by omega) (by omega) (by omega) (fun _ _ _ => trivial) (fun _ hS hF => ?_)
    | refine ok_wrF hS (by omega) rfl rfl (⟨_, rfl⟩ : fZ _) (fun _ hS => ?_)
    | refine ok_wrF hS (by omega) rfl rfl (⟨_, rfl⟩ : fL _) (fun _ hS => ?_)
    | refine ok_wrFE hS (by omega) rfl rfl (by omega) (fun _ hS _ => ?_)
    | (refine ok_if (fun hc => ?_) (fun hc => ?_) <;> try simp (disch := omega) only [wIn] at hc))
theorem tg_X5_make   (hN : 26 ≤ N) (hn : 2 ≤ n ∧ n ≤ 7) : ∀ (k lb : Nat) (S : xS) (i0 : Int), Hp (T5 n nd tl rp im E) N S → ((lb = 0 ∧ -2147483648 ≤ i0 ∧ i0 < 2147483648 ∧ 70 ≤ (k : Int)) ∨ (lb = 1 ∧ 1 ≤ (k : Int))) → Ok (g_X5_make k lb S 0 i0) (fun r S' => Hp (T5 n nd tl rp im E) N S' ∧ True) := by
  intro k
  induction k with
  | zero => intro lb S i0 hS hp; exfalso; omega
  | succ k ih =>
    intro lb S i0 hS hp
    rcases hp with ⟨rfl, hp⟩ | ⟨rfl, hp⟩
    · show Ok (b_X5_make_0 (g_X5_make k) k S 0 i0) _
      unfold b_X5_make_0
      repeat' (first
        | (refine ok_dead ?_; omega)
        | exact ok_some ⟨hS, by first | trivial | omega⟩
        | exact ih 1 _ _ hS (Or.inr (⟨rfl, by omega⟩))
        | (refine ok_bd2 (tf_X1_makeMove  hS (by first | trivial | omega)) (fun _ _ hQ => ?_); obtain ⟨hS, hQ⟩ := hQ)
        | (refine ok_bd2 (tf_X1_rankNow hN hn hS (by first | trivial | omega)) (fun _ _ hQ => ?_); obtain ⟨rfl, hQ⟩ := hQ)
        | refine ok_rdFx hS (by omega) rfl rfl ?_
        | (refine ok_bd2 (ok_exch (q := 2) (by omega) rfl hS (by omega) (by omega)) (fun _ _ hQ => ?_); obtain ⟨hS, hQ⟩ := hQ)
        | (refine ok_bd2 (ok_setRank (q := 2) (by omega) rfl hn hS (by omega) (by omega)) (fun _ _ hQ => ?_); obtain ⟨hS, hQ⟩ := hQ)
        | (refine ok_bd2 (tf_X1_makeMove hN hn hS (by omega) (by omega)) (fun _ _ hQ => ?_); obtain ⟨hS, hQ⟩ := hQ)
        | (refine ok_bd2 (tf_X1_keepPast hN hn hS (by omega)) (fun _ _ hQ => ?_); obtain ⟨hS, hQ⟩ := hQ)
        | refine ok_bindE (by assumption) (fun _ => ?_)
        | refine ok_bindE (hF _ _ _ _ (by assumption)) (fun _ => ?_)
        | refine ok_is hS (by omega) rfl ?_
        | refine ok_rdFp hS (by omega) rfl rfl ?_
        | refine ok_rdFiE hS (by omega) rfl rfl (fun _ _ _ _ => ?_)
        | refine ok_rdFz hS (by omega) rfl rfl (fun _ => ?_)
        | refine ok_rdFl hS (by omega) rfl rfl (fun _ => ?_)
        | refine ok_rdA hS (by omega) rfl tR_id (by omega) (by omega) (by omega) (fun _ _ _ => ?_)
        | refine ok_rdA hS (by omega) rfl sl_R (by omega) (by omega) (by omega) (fun _ _ _ => ?_)
        | refine ok_rdW hS (by omega) rfl (by omega) (by omega) (by omega) (fun _ => ?_)
        | refine ok_wrAE hS (by omega) rfl (by omega) (by omega) (by omega) (fun L _ hL => tR_set (by omega) L hL) (fun _ hS hF => ?_)
        | refine ok_wrAE hS (by omega) rfl (by omega) (by omega) (by omega) (fun _ _ _ => trivial) (fun _ hS hF => ?_)
        | refine ok_wrF hS (by omega) rfl rfl (⟨_, rfl⟩ : fZ _) (fun _ hS => ?_)
        | refine ok_wrF hS (by omega) rfl rfl (⟨_, rfl⟩ : fL _) (fun _ hS => ?_)
        | refine ok_wrFE hS (by omega) rfl rfl (by omega) (fun _ hS _ => ?_)
        | (refine ok_if (fun hc => ?_) (fun hc => ?_) <;> try simp (disch := omega) only [wIn] at hc))
    · show Ok (b_X5_make_1 (g_X5_make k) k S 0 i0) _
      unfold b_X5_make_1
      repeat' (first
        | (refine ok_dead ?_; omega)
        | exact ok_some ⟨hS, by first | trivial | omega⟩
        | (refine ok_bd2 (tf_X5_refuseBad hN hn hS (by first | trivial | omega)) (fun _ _ hQ => ?_); obtain ⟨hS, hQ⟩ := hQ)
        | refine ok_rdFx hS (by omega) rfl rfl ?_
        | (refine ok_bd2 (ok_exch (q := 2) (by omega) rfl hS (by omega) (by omega)) (fun _ _ hQ => ?_); obtain ⟨hS, hQ⟩ := hQ)
        | (refine ok_bd2 (ok_setRank (q := 2) (by omega) rfl hn hS (by omega) (by omega)) (fun _ _ hQ => ?_); obtain ⟨hS, hQ⟩ := hQ)
        | (refine ok_bd2 (tf_X1_makeMove hN hn hS (by omega) (by omega)) (fun _ _ hQ => ?_); obtain ⟨hS, hQ⟩ := hQ)
        | (refine ok_bd2 (tf_X1_keepPast hN hn hS (by omega)) (fun _ _ hQ => ?_); obtain ⟨hS, hQ⟩ := hQ)
        | refine ok_bindE (by assumption) (fun _ => ?_)
        | refine ok_bindE (hF _ _ _ _ (by assumption)) (fun _ => ?_)
        | refine ok_is hS (by omega) rfl ?_
        | refine ok_rdFp hS (by omega) rfl rfl ?_
        | refine ok_rdFiE hS (by omega) rfl rfl (fun _ _ _ _ => ?_)
        | refine ok_rdFz hS (by omega) rfl rfl (fun _ => ?_)
        | refine ok_rdFl hS (by omega) rfl rfl (fun _ => ?_)
        | refine ok_rdA hS (by omega) rfl tR_id (by omega) (by omega) (by omega) (fun _ _ _ => ?_)
        | refine ok_rdA hS (by omega) rfl sl_R (by omega) (by omega) (by omega) (fun _ _ _ => ?_)
        | refine ok_rdW hS (by omega) rfl (by omega) (by omega) (by omega) (fun _ => ?_)
        | refine ok_wrAE hS (by omega) rfl (by omega) (by omega) (by omega) (fun L _ hL => tR_set (by omega) L hL) (fun _ hS hF => ?_)
        | refine ok_wrAE hS (by omega) rfl (by omega) (by omega) (by omega) (fun _ _ _ => trivial) (fun _ hS hF => ?_)
        | refine ok_wrF hS (by omega) rfl rfl (⟨_, rfl⟩ : fZ _) (fun _ hS => ?_)
        | refine ok_wrF hS (by omega) rfl rfl (⟨_, rfl⟩ : fL _) (fun _ hS => ?_)
        | refine ok_wrFE hS (by omega) rfl rfl (by omega) (fun _ hS _ => ?_)
        | (refine ok_if (fun hc => ?_) (fun hc => ?_) <;> try simp (disch := omega) only [wIn] at hc))
theorem tf_X5_make   (hN : 26 ≤ N) (hn : 2 ≤ n ∧ n ≤ 7) {k : Nat} {S : xS} {i0 : Int} (hS : Hp (T5 n nd tl rp im E) N S) (hp : -2147483648 ≤ i0 ∧ i0 < 2147483648 ∧ 70 ≤ (k : Int)) : Ok (f_X5_make k S 0 i0) (fun r S' => Hp (T5 n nd tl rp im E) N S' ∧ True) :=
  tg_X5_make hN hn k 0 S i0 hS (Or.inl ⟨rfl, hp⟩)
theorem tf_X5_boxes (hN : 26 ≤ N) {k : Nat} {S : xS} {i0 : Int} (hS : Hp (T5 n nd tl rp im E) N S) (hi : -2147483648 ≤ i0 ∧ i0 < 2147483648) (hk : 30 ≤ (k : Int)) (hn : 2 ≤ n ∧ n ≤ 7) : Ok (f_X5_boxes k S 0 i0) (fun _ S' => ∃ m, (2 ≤ m ∧ m ≤ 7) ∧ Hp (T5 m nd tl rp im E) N S') := by
  obtain ⟨k, rfl⟩ : ∃ k', k = k' + 1 := ⟨k - 1, by omega⟩
  have bad : Ok (g_X5_boxes k 1 S 0 0) (fun _ S' => ∃ m, (2 ≤ m ∧ m ≤ 7) ∧ Hp (T5 m nd tl rp im E) N S') := by
    obtain ⟨k, rfl⟩ : ∃ k', k = k' + 1 := ⟨k - 1, by omega⟩
    show Ok (b_X5_boxes_1 (g_X5_boxes k) k S 0 0) _
    unfold b_X5_boxes_1
    refine ok_is hS (by omega) rfl ?_
    refine ok_bd2 (tf_X5_refuseBad hN hn hS trivial) (fun _ _ hQ => ?_)
    exact ok_some ⟨n, hn, hQ.1⟩
  show Ok (b_X5_boxes_0 (g_X5_boxes k) k S 0 i0) _
  unfold b_X5_boxes_0
  refine ok_if (fun hc => bad) (fun hc => ?_)
  refine ok_if (fun hc2 => ?_) (fun hc2 => bad)
  simp (disch := omega) only [wIn] at hc hc2
  refine ok_rdFp hS (by omega) rfl rfl ?_
  refine ok_rdFx hS (by omega) rfl rfl ?_
  refine ok_rdFp hS (by omega) rfl rfl ?_
  refine ok_is hS (by omega) rfl ?_
  refine ok_bd2 (tf_X1_setAsAtFirst (G := T5 n nd tl rp im E) (N := N) (p := 1) (q3 := 2) (q4 := 3) (q5 := 4) (m := i0) (by omega) (by omega) (by omega) (by omega) rfl rfl sl_R rfl rfl (by decide) (by decide) (by decide) (by omega) hS (by omega)) (fun _ _ hQ => ?_)
  obtain ⟨hS, -⟩ := hQ
  rw [T5_room] at hS
  exact ok_some ⟨i0, by omega, hS⟩
theorem xByte_b : ∀ i : Nat, i < 128 → xByte (xByte (i : Int)) = xByte (i : Int) := by decide +kernel
theorem xByte_r : ∀ i : Nat, i < 128 → -128 ≤ xByte (i : Int) ∧ xByte (i : Int) ≤ 127 := by decide +kernel
theorem tf_X5_type (hN : 26 ≤ N) (hn : 2 ≤ n ∧ n ≤ 7) (ht : 0 ≤ tl ∧ tl ≤ 150) {k : Nat} {S : xS} {i0 : Int} (hS : Hp (T5 n nd tl rp im E) N S) (hi : -2147483648 ≤ i0 ∧ i0 < 2147483648) (hk : 4 ≤ (k : Int)) : Ok (f_X5_type k S 0 i0) (fun r S' => if 0 ≤ i0 ∧ i0 ≤ 127 then (if tl < 150 then r = tl + 1 ∧ Hp (T5 n nd (tl + 1) rp im E) N S' else r = -4 ∧ Hp (T5 n nd tl rp im E) N S') else r = -2 ∧ Hp (T5 n nd tl rp im E) N S') := by
  obtain ⟨k, rfl⟩ : ∃ k', k = k' + 1 := ⟨k - 1, by omega⟩
  have bad : ¬ (0 ≤ i0 ∧ i0 ≤ 127) → Ok (g_X5_type k 1 S 0 0) (fun r S' => if 0 ≤ i0 ∧ i0 ≤ 127 then (if tl < 150 then r = tl + 1 ∧ Hp (T5 n nd (tl + 1) rp im E) N S' else r = -4 ∧ Hp (T5 n nd tl rp im E) N S') else r = -2 ∧ Hp (T5 n nd tl rp im E) N S') := by
    intro h
    obtain ⟨k, rfl⟩ : ∃ k', k = k' + 1 := ⟨k - 1, by omega⟩
    show Ok (b_X5_type_1 (g_X5_type k) k S 0 0) _
    unfold b_X5_type_1 f_X5_refuseBad
    refine ok_is hS (by omega) rfl ?_
    obtain ⟨v, e, z, rfl⟩ := ok_fld (ci := 4) (k := 10) hS (show 0 < N by omega) rfl rfl
    rw [bind_some' (show rdFi 4 10 S 0 = some z by unfold rdFi; rw [e])]
    refine ok_bd2 (P := fun r S' => r = -2 ∧ Hp (T5 n nd tl rp im E) N S') (ok_wrF hS (by omega) rfl rfl (⟨_, rfl⟩ : fZ _) (fun _ hS => ok_some ⟨rfl, hS⟩)) (fun r S' hQ => ?_)
    refine ok_some ?_
    rw [if_neg h]
    exact hQ
  show Ok (b_X5_type_0 (g_X5_type k) k S 0 i0) _
  unfold b_X5_type_0
  refine ok_if (fun hc => bad (by simp (disch := omega) only [wIn] at hc; omega)) (fun hc => ?_)
  refine ok_if (fun hc2 => ?_) (fun hc2 => bad (by simp (disch := omega) only [wIn] at hc2; omega))
  simp (disch := omega) only [wIn] at hc hc2
  refine ok_rdFp hS (by omega) rfl rfl ?_
  refine ok_rdFx hS (by omega) rfl rfl ?_
  refine ok_if (fun hc3 => ?_) (fun hc3 => ?_)
  · simp (disch := omega) only [wIn] at hc3
    refine ok_rdFp hS (by omega) rfl rfl ?_
    refine ok_rdFp hS (by omega) rfl rfl ?_
    refine ok_rdFp hS (by omega) rfl rfl ?_
    refine ok_rdFx hS (by omega) rfl rfl ?_
    have hbb := xByte_b i0.toNat (by omega)
    rw [show ((i0.toNat : Nat) : Int) = i0 by omega] at hbb
    refine ok_pos hbb ?_
    have hbr := xByte_r i0.toNat (by omega)
    rw [show ((i0.toNat : Nat) : Int) = i0 by omega] at hbr
    refine ok_wrAE hS (by omega) rfl (by omega) (by omega) (by omega) (fun L _ hL => tR_set hbr L hL) (fun _ hS _ => ?_)
    refine ok_rdFp hS (by omega) rfl rfl ?_
    refine ok_rdFx hS (by omega) rfl rfl ?_
    refine ok_wrU (fI (tl + 1) (tl + 1)) hS (by omega) rfl (Nat.le_of_ble_eq_true rfl) ⟨_, rfl, by omega, by omega⟩ (fun _ hS => ?_)
    replace hS : Hp (up (T5 n nd tl rp im E) 20 (tO 3 [fP 21, fI (tl + 1) (tl + 1), fI 0 150, fZ, fI 0 150, fI 0 9999])) N _ := hS
    rw [T5_text] at hS
    refine ok_rdFp hS (by omega) rfl rfl ?_
    refine ok_rdFx hS (by omega) rfl rfl ?_
    refine ok_some ?_
    rw [if_pos ⟨by omega, by omega⟩, if_pos hc3]
    exact ⟨rfl, hS⟩
  · simp (disch := omega) only [wIn] at hc3
    refine ok_is hS (by omega) rfl ?_
    unfold f_X5_refuseFull
    obtain ⟨v, e, z, rfl⟩ := ok_fld (ci := 4) (k := 12) hS (show 0 < N by omega) rfl rfl
    rw [bind_some' (show rdFi 4 12 S 0 = some z by unfold rdFi; rw [e])]
    refine ok_bd2 (P := fun r S' => r = -4 ∧ Hp (T5 n nd tl rp im E) N S') (ok_wrF hS (by omega) rfl rfl (⟨_, rfl⟩ : fZ _) (fun _ hS => ok_some ⟨rfl, hS⟩)) (fun r S' hQ => ?_)
    refine ok_some ?_
    rw [if_pos ⟨by omega, by omega⟩, if_neg hc3]
    exact hQ
theorem tf_X5_clear (hN : 26 ≤ N) (ht : 0 ≤ tl ∧ tl ≤ 150) {k : Nat} {S : xS} (hS : Hp (T5 n nd tl rp im E) N S) : Ok (f_X5_clear k S 0) (fun r S' => r = tl ∧ Hp (T5 n nd 0 rp im E) N S') := by
  unfold f_X5_clear
  refine ok_rdFp hS (by omega) rfl rfl ?_
  refine ok_rdFx hS (by omega) rfl rfl ?_
  refine ok_rdFp hS (by omega) rfl rfl ?_
  refine ok_wrU (fI 0 0) hS (by omega) rfl (Nat.le_of_ble_eq_true rfl) ⟨_, rfl, by omega, by omega⟩ (fun _ hS => ?_)
  replace hS : Hp (up (T5 n nd tl rp im E) 20 (tO 3 [fP 21, fI 0 0, fI 0 150, fZ, fI 0 150, fI 0 9999])) N _ := hS
  rw [T5_text] at hS
  exact ok_some ⟨rfl, hS⟩
