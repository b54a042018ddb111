variable {n nd tl a t : Int} {rp : Option Nat} {im : List (Option Nat)} {E : xT} {N : Nat}
theorem tgd_X1_isKnownSlip   (hN : 26 ≤ N) (hd : 2 ≤ nd ∧ nd ≤ 7) : ∀ (k lb : Nat) (S : xS) (i0 : Int) (i1 : Int), Hp (up (T5 n nd tl rp im E) 20 (tx tl a t)) N S → ((lb = 0 ∧ nd + 3 ≤ (k : Int)) ∨ (lb = 1 ∧ 0 ≤ i1 ∧ i1 ≤ nd ∧ nd - i1 + 1 ≤ (k : Int))) → Ok (g_X1_isKnownSlip k lb S 10 i0 i1) (fun r S' => S' = S ∧ (r = 0 ∨ r = 1)) := by
  intro k
  induction k with
  | zero => intro lb S i0 i1 hS hp; exfalso; omega
  | succ k ih =>
    intro lb S i0 i1 hS hp
    rcases hp with ⟨rfl, hp⟩ | ⟨rfl, hp⟩
    · show Ok (b_X1_isKnownSlip_0 (g_X1_isKnownSlip k) k S 10 i0 i1) _
      unfold b_X1_isKnownSlip_0
      repeat' (first
        | (refine ok_dead ?_; omega)
        | exact ok_some ⟨rfl, by first | trivial | omega⟩
        | exact ih 1 _ _ _ hS (Or.inr (⟨rfl, by omega⟩))
        | refine ok_rdFx hS (by omega) rfl rfl ?_
        | refine ok_bindE (by assumption) (fun _ => ?_)
        | refine ok_bindE (hF _ _ _ _ (by assumption)) (fun _ => ?_)
        | refine ok_is hS (by omega) rfl ?_
        | refine ok_rdFp hS (by omega) rfl rfl ?_
        | refine ok_rdFiE hS (by omega) rfl rfl (fun _ _ _ _ => ?_)
        | refine ok_rdFz hS (by omega) rfl rfl (fun _ => ?_)
        | refine ok_rdFl hS (by omega) rfl rfl (fun _ => ?_)
        | refine ok_rdA hS (by omega) rfl tR_id (by omega) (by omega) (by omega) (fun _ _ _ => ?_)
        | refine ok_rdA hS (by omega) rfl sl_R (by omega) (by omega) (by omega) (fun _ _ _ => ?_)
        | refine ok_rdW hS (by omega) rfl (by omega) (by omega) (by omega) (fun _ => ?_)
        | refine ok_wrAE hS (by omega) rfl (by omega) (by omega) (by omega) (fun L _ hL => tR_set (by omega) L hL) (fun _ hS hF => ?_)
        | refine ok_wrAE hS (by omega) rfl (by omega) (by omega) (by omega) (fun _ _ _ => trivial) (fun _ hS hF => ?_)
        | refine ok_wrF hS (by omega) rfl rfl (⟨_, rfl⟩ : fZ _) (fun _ hS => ?_)
        | refine ok_wrF hS (by omega) rfl rfl (⟨_, rfl⟩ : fL _) (fun _ hS => ?_)
        | refine ok_wrFE hS (by omega) rfl rfl (by omega) (fun _ hS _ => ?_)
        | (refine ok_if (fun hc => ?_) (fun hc => ?_) <;> try simp (disch := omega) only [wIn] at hc))
    · show Ok (b_X1_isKnownSlip_1 (g_X1_isKnownSlip k) k S 10 i0 i1) _
      unfold b_X1_isKnownSlip_1
      repeat' (first
        | (refine ok_dead ?_; omega)
        | exact ok_some ⟨rfl, by first | trivial | omega⟩
        | exact ih 1 _ _ _ hS (Or.inr (⟨rfl, by omega⟩))
        | refine ok_rdFx hS (by omega) rfl rfl ?_
        | refine ok_bindE (by assumption) (fun _ => ?_)
        | refine ok_bindE (hF _ _ _ _ (by assumption)) (fun _ => ?_)
        | refine ok_is hS (by omega) rfl ?_
        | refine ok_rdFp hS (by omega) rfl rfl ?_
        | refine ok_rdFiE hS (by omega) rfl rfl (fun _ _ _ _ => ?_)
        | refine ok_rdFz hS (by omega) rfl rfl (fun _ => ?_)
        | refine ok_rdFl hS (by omega) rfl rfl (fun _ => ?_)
        | refine ok_rdA hS (by omega) rfl tR_id (by omega) (by omega) (by omega) (fun _ _ _ => ?_)
        | refine ok_rdA hS (by omega) rfl sl_R (by omega) (by omega) (by omega) (fun _ _ _ => ?_)
        | refine ok_rdW hS (by omega) rfl (by omega) (by omega) (by omega) (fun _ => ?_)
        | refine ok_wrAE hS (by omega) rfl (by omega) (by omega) (by omega) (fun L _ hL => tR_set (by omega) L hL) (fun _ hS hF => ?_)
        | refine ok_wrAE hS (by omega) rfl (by omega) (by omega) (by omega) (fun _ _ _ => trivial) (fun _ hS hF => ?_)
        | refine ok_wrF hS (by omega) rfl rfl (⟨_, rfl⟩ : fZ _) (fun _ hS => ?_)
        | refine ok_wrF hS (by omega) rfl rfl (⟨_, rfl⟩ : fL _) (fun _ hS => ?_)
        | refine ok_wrFE hS (by omega) rfl rfl (by omega) (fun _ hS _ => ?_)
        | (refine ok_if (fun hc => ?_) (fun hc => ?_) <;> try simp (disch := omega) only [wIn] at hc))
theorem tfd_X1_isKnownSlip   (hN : 26 ≤ N) (hd : 2 ≤ nd ∧ nd ≤ 7) {k : Nat} {S : xS} {i0 : Int} (hS : Hp (up (T5 n nd tl rp im E) 20 (tx tl a t)) N S) (hp : nd + 3 ≤ (k : Int)) : Ok (f_X1_isKnownSlip k S 10 i0) (fun r S' => S' = S ∧ (r = 0 ∨ r = 1)) :=
  tgd_X1_isKnownSlip hN hd k 0 S i0 0 hS (Or.inl ⟨rfl, hp⟩)
theorem tfd_X1_addReport   (hN : 26 ≤ N) (hd : 2 ≤ nd ∧ nd ≤ 7) {k : Nat} {S : xS} {i0 : Int} {i1 : Int} (hS : Hp (up (T5 n nd tl rp im E) 20 (tx tl a t)) N S) (hp : 0 ≤ i0 ∧ i0 ≤ 6) : Ok (f_X1_addReport k S 10 i0 i1) (fun r S' => Hp (up (T5 n nd tl rp im E) 20 (tx tl a t)) N S' ∧ True) := by
  unfold f_X1_addReport
  repeat' (first
    | (refine ok_dead ?_; omega)
    | exact ok_some ⟨hS, by first | trivial | omega⟩
    | refine ok_bindE (by assumption) (fun _ => ?_)
    | refine ok_bindE (hF _ _ _ _ (by assumption)) (fun _ => ?_)
    | refine ok_is hS (by omega) rfl ?_
    | refine ok_rdFp hS (by omega) rfl rfl ?_
    | refine ok_rdFiE hS (by omega) rfl rfl (fun _ _ _ _ => ?_)
    | refine ok_rdFz hS (by omega) rfl rfl (fun _ => ?_)
    | refine ok_rdFl hS (by omega) rfl rfl (fun _ => ?_)
    | refine ok_rdA hS (by omega) rfl tR_id (by omega) (by omega) (by omega) (fun _ _ _ => ?_)
    | refine ok_rdA hS (by omega) rfl sl_R (by omega) (by omega) (by omega) (fun _ _ _ => ?_)
    | refine ok_rdW hS (by omega) rfl (by omega) (by omega) (by omega) (fun _ => ?_)
    | refine ok_wrAE hS (by omega) rfl (by omega) (by omega) (by omega) (fun L _ hL => tR_set (by omega) L hL) (fun _ hS hF => ?_)
    | refine ok_wrAE hS (by omega) rfl (by omega) (by omega) (by omega) (fun _ _ _ => trivial) (fun _ hS hF => ?_)
    | refine ok_wrF hS (by omega) rfl rfl (⟨_, rfl⟩ : fZ _) (fun _ hS => ?_)
    | refine ok_wrF hS (by omega) rfl rfl (⟨_, rfl⟩ : fL _) (fun _ hS => ?_)
    | refine ok_wrFE hS (by omega) rfl rfl (by omega) (fun _ hS _ => ?_)
    | (refine ok_if (fun hc => ?_) (fun hc => ?_) <;> try simp (disch := omega) only [wIn] at hc))
theorem tfd_X1_addMove   (hN : 26 ≤ N) (hd : 2 ≤ nd ∧ nd ≤ 7) {k : Nat} {S : xS} {i0 : Int} (hS : Hp (up (T5 n nd tl rp im E) 20 (tx tl a t)) N S) (hp : 0 ≤ i0 ∧ i0 ≤ 5039) : Ok (f_X1_addMove k S 10 i0) (fun r S' => Hp (up (T5 n nd tl rp im E) 20 (tx tl a t)) N S' ∧ True) := by
  unfold f_X1_addMove
  repeat' (first
    | (refine ok_dead ?_; omega)
    | exact ok_some ⟨hS, by first | trivial | omega⟩
    | refine ok_bindE (by assumption) (fun _ => ?_)
    | refine ok_bindE (hF _ _ _ _ (by assumption)) (fun _ => ?_)
    | refine ok_is hS (by omega) rfl ?_
    | refine ok_rdFp hS (by omega) rfl rfl ?_
    | refine ok_rdFiE hS (by omega) rfl rfl (fun _ _ _ _ => ?_)
    | refine ok_rdFz hS (by omega) rfl rfl (fun _ => ?_)
    | refine ok_rdFl hS (by omega) rfl rfl (fun _ => ?_)
    | refine ok_rdA hS (by omega) rfl tR_id (by omega) (by omega) (by omega) (fun _ _ _ => ?_)
    | refine ok_rdA hS (by omega) rfl sl_R (by omega) (by omega) (by omega) (fun _ _ _ => ?_)
    | refine ok_rdW hS (by omega) rfl (by omega) (by omega) (by omega) (fun _ => ?_)
    | refine ok_wrAE hS (by omega) rfl (by omega) (by omega) (by omega) (fun L _ hL => tR_set (by omega) L hL) (fun _ hS hF => ?_)
    | refine ok_wrAE hS (by omega) rfl (by omega) (by omega) (by omega) (fun _ _ _ => trivial) (fun _ hS hF => ?_)
    | refine ok_wrF hS (by omega) rfl rfl (⟨_, rfl⟩ : fZ _) (fun _ hS => ?_)
    | refine ok_wrF hS (by omega) rfl rfl (⟨_, rfl⟩ : fL _) (fun _ hS => ?_)
    | refine ok_wrFE hS (by omega) rfl rfl (by omega) (fun _ hS _ => ?_)
    | (refine ok_if (fun hc => ?_) (fun hc => ?_) <;> try simp (disch := omega) only [wIn] at hc))
theorem up_dr {m : Int} : up (up (up (T5 n nd tl rp im E) 20 (tx tl a t)) 10 (roomT m 11 12 13 14 15 16 17 18)) 11 (tA 0 7 (sl m)) = up (T5 n m tl rp im E) 20 (tx tl a t) := by
  have h := T5_draft (n := n) (nd := nd) (tl := tl) (rp := rp) (im := im) (E := E) (m := m)
  funext q
  have hq := congrFun h q
  unfold up at hq ⊢
  by_cases h20 : q = 20
  · subst h20
    rfl
  · rw [if_neg h20, if_neg h20]
    exact hq
theorem tLen_s {i : Nat} (hi : i < 9) : ∃ l : Int, sLen i = some l ∧ 4 ≤ l ∧ l ≤ 6 := by
  rcases (show i = 0 ∨ i = 1 ∨ i = 2 ∨ i = 3 ∨ i = 4 ∨ i = 5 ∨ i = 6 ∨ i = 7 ∨ i = 8 by omega) with rfl | rfl | rfl | rfl | rfl | rfl | rfl | rfl | rfl
  all_goals exact ⟨_, rfl, by decide, by decide⟩
theorem tChr_s {i : Nat} (hi : i < 9) {l : Int} (hl : sLen i = some l) {j : Int} (hj : 0 ≤ j ∧ j < l) : ∃ c, sChr i j = some c := by
  have hll : l = ((sWord i).length : Int) := by
    unfold sLen at hl
    rw [if_pos hi] at hl
    exact (Option.some.inj hl).symm
  have hjl : j.toNat < (sWord i).length := by omega
  obtain ⟨l', e, h1, h2⟩ := tLen_s hi
  rw [hl] at e
  cases e
  refine ⟨(sWord i)[j.toNat], ?_⟩
  unfold sChr
  rw [if_pos ⟨hi, hj.1, by omega⟩, List.getElem?_eq_getElem hjl]
theorem tg_X3_isTokenWord (hN : 26 ≤ N) (hat : 0 ≤ t ∧ t ≤ a ∧ a ≤ 150) {p1 : Nat} (hp1 : p1 < 9) {l : Int} (hl : sLen p1 = some l) (hl2 : a - t = l) : ∀ (k : Nat) (S : xS) (i0 : Int), Hp (up (T5 n nd tl rp im E) 20 (tx tl a t)) N S → 0 ≤ i0 ∧ i0 ≤ l → l - i0 + 1 ≤ (k : Int) → Ok (g_X3_isTokenWord k 1 S 20 p1 i0) (fun r S' => S' = S ∧ (r = 0 ∨ r = 1)) := by
  intro k
  induction k with
  | zero => intro S i0 _ _ _; exfalso; omega
  | succ k ih =>
    intro S i0 hS hi hk
    obtain ⟨l', e, hl3, hl4⟩ := tLen_s hp1
    rw [hl] at e
    cases e
    show Ok (b_X3_isTokenWord_1 (g_X3_isTokenWord k) k S 20 p1 i0) _
    unfold b_X3_isTokenWord_1
    refine ok_bind hl ?_
    refine ok_if (fun hc => ok_some ⟨rfl, Or.inr rfl⟩) (fun hc => ?_)
    simp (disch := omega) only [wIn] at hc
    refine ok_rdFp hS (by omega) rfl rfl ?_
    refine ok_rdFx hS (by omega) rfl rfl ?_
    refine ok_rdA hS (by omega) rfl tR_id (by omega) (by omega) (by omega) (fun v h1 h2 => ?_)
    obtain ⟨c, ec⟩ := tChr_s hp1 hl (j := i0) (by omega)
    refine ok_bind ec ?_
    refine ok_if (fun hc => ?_) (fun hc => ok_some ⟨rfl, Or.inl rfl⟩)
    exact ih S (i0 + 1) hS (by omega) (by omega)
theorem tf_X3_isTokenWord (hN : 26 ≤ N) (hat : 0 ≤ t ∧ t ≤ a ∧ a ≤ 150) {p1 : Nat} (hp1 : p1 < 9) {k : Nat} {S : xS} (hS : Hp (up (T5 n nd tl rp im E) 20 (tx tl a t)) N S) (hk : 10 ≤ (k : Int)) : Ok (f_X3_isTokenWord k S 20 p1) (fun r S' => S' = S ∧ (r = 0 ∨ r = 1)) := by
  obtain ⟨k, rfl⟩ : ∃ k', k = k' + 1 := ⟨k - 1, by omega⟩
  obtain ⟨l, e, hl3, hl4⟩ := tLen_s hp1
  show Ok (b_X3_isTokenWord_0 (g_X3_isTokenWord k) k S 20 p1 0) _
  unfold b_X3_isTokenWord_0
  refine ok_rdFx hS (by omega) rfl rfl ?_
  refine ok_rdFx hS (by omega) rfl rfl ?_
  refine ok_bind e ?_
  refine ok_if (fun hc => ?_) (fun hc => ok_some ⟨rfl, Or.inl rfl⟩)
  simp (disch := omega) only [wIn] at hc
  exact tg_X3_isTokenWord hN hat hp1 e hc k S 0 hS (by omega) (by omega)
theorem wordAt_s (k : Nat) (S : xS) (i : Int) : ∃ q : Nat, f_X3_wordAt k S i = some (q, S) ∧ q < 9 := by
  unfold f_X3_wordAt
  repeat' (first
    | exact ⟨_, rfl, by omega⟩
    | split)
theorem tg_X3_wordNow (hN : 26 ≤ N) (hat : 0 ≤ t ∧ t ≤ a ∧ a ≤ 150) : ∀ (k : Nat) (S : xS) (i0 : Int), Hp (up (T5 n nd tl rp im E) 20 (tx tl a t)) N S → 0 ≤ i0 ∧ i0 ≤ 9 → 9 - i0 + 14 ≤ (k : Int) → Ok (g_X3_wordNow k 1 S 20 i0) (fun r S' => S' = S ∧ (-1 ≤ r ∧ r ≤ 8)) := by
  intro k
  induction k with
  | zero => intro S i0 _ _ _; exfalso; omega
  | succ k ih =>
    intro S i0 hS hi hk
    show Ok (b_X3_wordNow_1 (g_X3_wordNow k) k S 20 i0) _
    unfold b_X3_wordNow_1
    refine ok_if (fun hc => ok_some ⟨rfl, by omega⟩) (fun hc => ?_)
    simp (disch := omega) only [wIn] at hc
    obtain ⟨q, eq, hq⟩ := wordAt_s k S i0
    rw [bd2_some eq]
    refine ok_is hS (by omega) rfl ?_
    refine ok_bd2 (tf_X3_isTokenWord hN hat hq hS (by omega)) (fun _ _ hQ => ?_)
    obtain ⟨rfl, hQ⟩ := hQ
    refine ok_if (fun hc => ?_) (fun hc => ok_some ⟨rfl, by omega⟩)
    exact ih _ (i0 + 1) hS (by omega) (by omega)
theorem tf_X3_wordNow (hN : 26 ≤ N) (hat : 0 ≤ t ∧ t ≤ a ∧ a ≤ 150) {k : Nat} {S : xS} (hS : Hp (up (T5 n nd tl rp im E) 20 (tx tl a t)) N S) (hk : 30 ≤ (k : Int)) : Ok (f_X3_wordNow k S 20) (fun r S' => S' = S ∧ (-1 ≤ r ∧ r ≤ 8)) := by
  obtain ⟨k, rfl⟩ : ∃ k', k = k' + 1 := ⟨k - 1, by omega⟩
  exact tg_X3_wordNow hN hat k S 0 hS (by omega) (by omega)
theorem tf_X3_hasPlace (hN : 26 ≤ N) {k : Nat} {S : xS} {w : Int} (hS : Hp (up (T5 n nd tl rp im E) 20 (tx tl a t)) N S) (hk : 3 ≤ (k : Int)) : Ok (f_X3_hasPlace k S 10 w) (fun r S' => S' = S ∧ True) := by
  obtain ⟨k, rfl⟩ : ∃ k', k = k' + 2 := ⟨k - 2, by omega⟩
  have one : Ok (g_X3_hasPlace (k + 1) 1 S 10 0) (fun r S' => S' = S ∧ True) := by
    show Ok (b_X3_hasPlace_1 (g_X3_hasPlace k) k S 10 0) _
    unfold b_X3_hasPlace_1
    refine ok_rdFi hS (by omega) rfl rfl (fun _ _ _ => ?_)
    exact ok_if (fun _ => ok_some ⟨rfl, trivial⟩) (fun _ => ok_some ⟨rfl, trivial⟩)
  show Ok (b_X3_hasPlace_0 (g_X3_hasPlace (k + 1)) (k + 1) S 10 w) _
  unfold b_X3_hasPlace_0
  repeat' (first
    | exact one
    | exact ok_some ⟨rfl, trivial⟩
    | refine ok_rdFi hS (by omega) rfl rfl (fun _ _ _ => ?_)
    | refine ok_if (fun _ => ?_) (fun _ => ?_))
theorem tf_X3_isFirstDue (hN : 26 ≤ N) (hd : 2 ≤ nd ∧ nd ≤ 7) {k : Nat} {S : xS} {w v : Int} (hS : Hp (up (T5 n nd tl rp im E) 20 (tx tl a t)) N S) (hw : 0 ≤ w ∧ w ≤ 8) (hv : 0 ≤ v ∧ v ≤ 9999) (hk : 3 ≤ (k : Int)) : Ok (f_X3_isFirstDue k S 10 w v) (fun r S' => S' = S ∧ (r = 0 ∨ (r = 1 ∧ (w = 0 → 2 ≤ v ∧ v ≤ 7) ∧ (w = 2 → v ≤ 6) ∧ (3 ≤ w ∧ w ≤ 7 → v < nd) ∧ (w = 8 → v ≤ 5039)))) := by
  obtain ⟨k, rfl⟩ : ∃ k', k = k' + 2 := ⟨k - 2, by omega⟩
  have three : 3 ≤ w ∧ w ≤ 6 ∨ ¬ (w = 0 ∨ w = 1 ∨ w = 2 ∨ w = 3 ∨ w = 4 ∨ w = 5 ∨ w = 6 ∨ w = 7 ∨ w = 8) → Ok (g_X3_isFirstDue (k + 1) 3 S 10 v 0) (fun r S' => S' = S ∧ (r = 0 ∨ (r = 1 ∧ (w = 0 → 2 ≤ v ∧ v ≤ 7) ∧ (w = 2 → v ≤ 6) ∧ (3 ≤ w ∧ w ≤ 7 → v < nd) ∧ (w = 8 → v ≤ 5039)))) := by
    intro h
    show Ok (b_X3_isFirstDue_3 (g_X3_isFirstDue k) k S 10 v 0) _
    unfold b_X3_isFirstDue_3
    refine ok_rdFx hS (by omega) rfl rfl ?_
    refine ok_if (fun hc => ok_some ⟨rfl, Or.inl rfl⟩) (fun hc => ?_)
    simp (disch := omega) only [wIn] at hc
    exact ok_some ⟨rfl, Or.inr ⟨rfl, by omega, by omega, by omega, by omega⟩⟩
  show Ok (b_X3_isFirstDue_0 (g_X3_isFirstDue (k + 1)) (k + 1) S 10 w v) _
  unfold b_X3_isFirstDue_0
  repeat' (first
    | exact three (by omega)
    | exact ⟨0, S, rfl, rfl, Or.inl rfl⟩
    | exact ok_some ⟨rfl, Or.inl rfl⟩
    | exact ok_some ⟨rfl, Or.inr ⟨rfl, by omega, by omega, by omega, by omega⟩⟩
    | refine ok_rdFx hS (by omega) rfl rfl ?_
    | refine ok_rdFp hS (by omega) rfl rfl ?_
    | refine ok_rdW hS (by omega) rfl (by omega) (by omega) (by omega) (fun _ => ?_)
    | refine ok_rdT (by omega) (by omega) (fun _ _ _ _ => ?_)
    | (refine ok_if (fun hc => ?_) (fun hc => ?_) <;> try simp (disch := omega) only [wIn] at hc))
theorem tf_X3_hasTwo {k : Nat} {S : xS} {w : Int} (hw : 0 ≤ w ∧ w ≤ 8) (hk : 3 ≤ (k : Int)) : Ok (f_X3_hasTwoNumbers k S w) (fun r S' => S' = S ∧ ((r = 1 ∧ (w = 3 ∨ w = 4 ∨ w = 5 ∨ w = 7)) ∨ (r = 0 ∧ (w = 0 ∨ w = 1 ∨ w = 2 ∨ w = 6 ∨ w = 8)))) := by
  obtain ⟨k, rfl⟩ : ∃ k', k = k' + 2 := ⟨k - 2, by omega⟩
  show Ok (b_X3_hasTwoNumbers_0 (g_X3_hasTwoNumbers (k + 1)) (k + 1) S w) _
  unfold b_X3_hasTwoNumbers_0
  repeat' (first
    | exact ⟨1, S, rfl, rfl, Or.inl ⟨rfl, by omega⟩⟩
    | exact ok_some ⟨rfl, Or.inr ⟨rfl, by omega⟩⟩
    | (refine ok_if (fun hc => ?_) (fun hc => ?_) <;> try simp (disch := omega) only [wIn] at hc))
theorem tf_X3_isSecondDue (hN : 26 ≤ N) (hd : 2 ≤ nd ∧ nd ≤ 7) {k : Nat} {S : xS} {w u v : Int} (hS : Hp (up (T5 n nd tl rp im E) 20 (tx tl a t)) N S) (hw : w = 3 ∨ w = 4 ∨ w = 5 ∨ w = 7) (hv : 0 ≤ v ∧ v ≤ 9999) (hk : 14 ≤ (k : Int)) : Ok (f_X3_isSecondDue k S 10 w u v) (fun r S' => S' = S ∧ (r = 0 ∨ (r = 1 ∧ (w = 4 → v < nd)))) := by
  obtain ⟨k, rfl⟩ : ∃ k', k = k' + 2 := ⟨k - 2, by omega⟩
  show Ok (b_X3_isSecondDue_0 (g_X3_isSecondDue (k + 1)) (k + 1) S 10 w u v) _
  unfold b_X3_isSecondDue_0
  repeat' (first
    | exact ⟨0, _, rfl, rfl, Or.inl rfl⟩
    | exact ok_some ⟨rfl, Or.inl rfl⟩
    | exact ok_some ⟨rfl, Or.inr ⟨rfl, by omega⟩⟩
    | refine ok_is hS (by omega) rfl ?_
    | refine ok_rdFx hS (by omega) rfl rfl ?_
    | (refine ok_bd2 (tfd_X1_isKnownSlip hN hd hS (by omega)) (fun _ _ hQ => ?_); obtain ⟨rfl, hQ⟩ := hQ)
    | (refine ok_if (fun hc => ?_) (fun hc => ?_) <;> try simp (disch := omega) only [wIn] at hc))
theorem tf_X3_takeEffect (hN : 26 ≤ N) (hd : 2 ≤ nd ∧ nd ≤ 7) {k : Nat} {S : xS} {w u v : Int} (hS : Hp (up (T5 n nd tl rp im E) 20 (tx tl a t)) N S) (hw : 0 ≤ w ∧ w ≤ 8) (hu : 0 ≤ u ∧ (w = 0 → 2 ≤ u ∧ u ≤ 7) ∧ (w = 2 → u ≤ 6) ∧ (3 ≤ w ∧ w ≤ 7 → u < nd) ∧ (w = 8 → u ≤ 5039)) (hv : w = 4 → 0 ≤ v ∧ v < nd) (hk : 30 ≤ (k : Int)) : Ok (f_X3_takeEffect k S 10 w u v) (fun _ S' => ∃ m, (2 ≤ m ∧ m ≤ 7) ∧ Hp (up (T5 n m tl rp im E) 20 (tx tl a t)) N S') := by
  unfold f_X3_takeEffect
  repeat' (first
    | exact ok_some ⟨nd, hd, hS⟩
    | refine ok_is hS (by omega) rfl ?_
    | (refine ok_bd2 (tf_X1_setAsAtFirst (G := up (T5 n nd tl rp im E) 20 (tx tl a t)) (N := N) (p := 10) (q3 := 11) (q4 := 12) (q5 := 13) (m := u) (by omega) (by omega) (by omega) (by omega) rfl rfl sl_R rfl rfl (by decide) (by decide) (by decide) (by omega) hS (by omega)) (fun _ _ hQ => ?_); obtain ⟨hS, -⟩ := hQ; rw [up_dr] at hS; exact ok_some ⟨u, by omega, hS⟩)
    | (refine ok_bd2 (ok_exch (q := 11) (by omega) rfl hS (by omega) (by omega)) (fun _ _ hQ => ?_); obtain ⟨hS, -⟩ := hQ)
    | (refine ok_bd2 (tfd_X1_addReport hN hd hS (by omega)) (fun _ _ hQ => ?_); obtain ⟨hS, -⟩ := hQ)
    | (refine ok_bd2 (tfd_X1_addMove hN hd hS (by omega)) (fun _ _ hQ => ?_); obtain ⟨hS, -⟩ := hQ)
    | refine ok_rdFx hS (by omega) rfl rfl ?_
    | refine ok_rdFp hS (by omega) rfl rfl ?_
    | refine ok_wrF hS (by omega) rfl rfl (⟨_, rfl⟩ : fZ _) (fun _ hS => ?_)
    | refine ok_wrFE hS (by omega) rfl rfl (by omega) (fun _ hS _ => ?_)
    | refine ok_wrAE hS (by omega) rfl (by omega) (by omega) (by omega) (fun _ _ _ => trivial) (fun _ hS hF => ?_)
    | (refine ok_if (fun hc => ?_) (fun hc => ?_) <;> try simp (disch := omega) only [wIn] at hc))
theorem tg_X3_takeItem3 (hN : 26 ≤ N) (hd : 2 ≤ nd ∧ nd ≤ 7) (hl : 0 ≤ tl ∧ tl ≤ 150) (hat : 0 ≤ t ∧ t ≤ a ∧ a ≤ 150) {k : Nat} {S : xS} {w u v : Int} (hS : Hp (up (T5 n nd tl rp im E) 20 (tx tl a t)) N S) (hw : 0 ≤ w ∧ w ≤ 8) (hu : 0 ≤ u ∧ (w = 0 → 2 ≤ u ∧ u ≤ 7) ∧ (w = 2 → u ≤ 6) ∧ (3 ≤ w ∧ w ≤ 7 → u < nd) ∧ (w = 8 → u ≤ 5039)) (hv : w = 4 → 0 ≤ v ∧ v < nd) (hk : 340 ≤ (k : Int)) : Ok (g_X3_takeItem k 3 S 20 10 w u v) (fun _ S' => ∃ m a' t', (2 ≤ m ∧ m ≤ 7) ∧ (0 ≤ t' ∧ t' ≤ a' ∧ a' ≤ 150) ∧ Hp (up (T5 n m tl rp im E) 20 (tx tl a' t')) N S') := by
  obtain ⟨k, rfl⟩ : ∃ k', k = k' + 1 := ⟨k - 1, by omega⟩
  show Ok (b_X3_takeItem_3 (g_X3_takeItem k) k S 20 10 w u v) _
  unfold b_X3_takeItem_3
  refine ok_bd2 (tf_X3_takeEffect hN hd hS hw hu hv (by omega)) (fun _ _ hQ => ?_)
  obtain ⟨m, hm, hS⟩ := hQ
  refine ok_is hS (by omega) rfl ?_
  refine ok_bd2 (tf_X3_toNextToken hN hl hS (by omega) (by omega)) (fun _ _ hQ => ?_)
  obtain ⟨a', t', h1, hS⟩ := hQ
  refine ok_rdFz hS (by omega) rfl rfl (fun _ => ?_)
  exact ok_if (fun _ => ok_some ⟨m, a', t', hm, h1, hS⟩) (fun _ => ok_some ⟨m, a', t', hm, h1, hS⟩)
theorem tg_X3_takeItem2 (hN : 26 ≤ N) (hd : 2 ≤ nd ∧ nd ≤ 7) (hl : 0 ≤ tl ∧ tl ≤ 150) (hat : 0 ≤ t ∧ t ≤ a ∧ a ≤ 150) {k : Nat} {S : xS} {w u v : Int} (hS : Hp (up (T5 n nd tl rp im E) 20 (tx tl a t)) N S) (hw : 0 ≤ w ∧ w ≤ 8) (hk : 350 ≤ (k : Int)) : Ok (g_X3_takeItem k 2 S 20 10 w u v) (fun _ S' => ∃ m a' t', (2 ≤ m ∧ m ≤ 7) ∧ (0 ≤ t' ∧ t' ≤ a' ∧ a' ≤ 150) ∧ Hp (up (T5 n m tl rp im E) 20 (tx tl a' t')) N S') := by
  obtain ⟨k, rfl⟩ : ∃ k', k = k' + 1 := ⟨k - 1, by omega⟩
  show Ok (b_X3_takeItem_2 (g_X3_takeItem k) k S 20 10 w u v) _
  unfold b_X3_takeItem_2
  refine ok_if (fun hc => ?_) (fun hc => ok_some ⟨nd, a, t, hd, hat, hS⟩)
  refine ok_bd2 (tf_X3_hasPlace hN hS (by omega)) (fun _ _ hQ => ?_)
  obtain ⟨rfl, -⟩ := hQ
  refine ok_if (fun _ => ok_some ⟨nd, a, t, hd, hat, hS⟩) (fun _ => ?_)
  refine ok_is hS (by omega) rfl ?_
  refine ok_bd2 (tf_X3_toNextToken hN hl hS (by omega) (by omega)) (fun _ _ hQ => ?_)
  obtain ⟨a1, t1, h1, hS⟩ := hQ
  refine ok_rdFi hS (by omega) rfl rfl (fun x hx1 hx2 => ?_)
  refine ok_rdFz hS (by omega) rfl rfl (fun _ => ?_)
  refine ok_if (fun _ => ?_) (fun _ => ok_some ⟨nd, a1, t1, hd, h1, hS⟩)
  refine ok_bd2 (tf_X3_isFirstDue hN hd hS hw ⟨hx1, hx2⟩ (by omega)) (fun r _ hQ => ?_)
  obtain ⟨rfl, hQ⟩ := hQ
  refine ok_if (fun _ => ok_some ⟨nd, a1, t1, hd, h1, hS⟩) (fun hc => ?_)
  have hQ1 := hQ.resolve_left (fun e => hc (by rw [e]; decide))
  obtain ⟨-, hQ1⟩ := hQ1
  refine ok_bd2 (tf_X3_hasTwo hw (by omega)) (fun r _ hQ => ?_)
  obtain ⟨rfl, hQ2⟩ := hQ
  refine ok_if (fun hc2 => ?_) (fun hc2 => ?_)
  · simp (disch := omega) only [wIn] at hc2
    exact tg_X3_takeItem3 hN hd hl h1 hS hw ⟨hx1, hQ1⟩ (fun e => by omega) (by omega)
  · simp (disch := omega) only [wIn] at hc2
    refine ok_is hS (by omega) rfl ?_
    refine ok_bd2 (tf_X3_toNextToken hN hl hS (by omega) (by omega)) (fun _ _ hQ => ?_)
    obtain ⟨a2, t2, h2, hS⟩ := hQ
    refine ok_rdFi hS (by omega) rfl rfl (fun y hy1 hy2 => ?_)
    refine ok_rdFz hS (by omega) rfl rfl (fun _ => ?_)
    refine ok_if (fun _ => ?_) (fun _ => ok_some ⟨nd, a2, t2, hd, h2, hS⟩)
    refine ok_bd2 (tf_X3_isSecondDue hN hd hS (by omega) ⟨hy1, hy2⟩ (by omega)) (fun r _ hQ => ?_)
    obtain ⟨rfl, hQ3⟩ := hQ
    refine ok_if (fun _ => ok_some ⟨nd, a2, t2, hd, h2, hS⟩) (fun hc3 => ?_)
    have hQ4 := hQ3.resolve_left (fun e => hc3 (by rw [e]; decide))
    exact tg_X3_takeItem3 hN hd hl h2 hS hw ⟨hx1, hQ1⟩ (fun e => ⟨hy1, hQ4.2 e⟩) (by omega)
theorem tf_X3_takeItem (hN : 26 ≤ N) (hd : 2 ≤ nd ∧ nd ≤ 7) (hl : 0 ≤ tl ∧ tl ≤ 150) (hat : 0 ≤ t ∧ t ≤ a ∧ a ≤ 150) {k : Nat} {S : xS} {i0 : Int} (hS : Hp (up (T5 n nd tl rp im E) 20 (tx tl a t)) N S) (hk : 360 ≤ (k : Int)) : Ok (f_X3_takeItem k S 20 10 i0) (fun _ S' => ∃ m a' t', (2 ≤ m ∧ m ≤ 7) ∧ (0 ≤ t' ∧ t' ≤ a' ∧ a' ≤ 150) ∧ Hp (up (T5 n m tl rp im E) 20 (tx tl a' t')) N S') := by
  obtain ⟨k, rfl⟩ : ∃ k', k = k' + 2 := ⟨k - 2, by omega⟩
  have one : ∀ (S : xS) (x : Int), Hp (up (T5 n nd tl rp im E) 20 (tx tl a t)) N S → -1 ≤ x ∧ x ≤ 8 → Ok (g_X3_takeItem (k + 1) 1 S 20 10 i0 x 0) (fun _ S' => ∃ m a' t', (2 ≤ m ∧ m ≤ 7) ∧ (0 ≤ t' ∧ t' ≤ a' ∧ a' ≤ 150) ∧ Hp (up (T5 n m tl rp im E) 20 (tx tl a' t')) N S') := by
    intro S x hS hx
    show Ok (b_X3_takeItem_1 (g_X3_takeItem k) k S 20 10 i0 x 0) _
    unfold b_X3_takeItem_1
    refine ok_if (fun _ => ok_some ⟨nd, a, t, hd, hat, hS⟩) (fun hc => ?_)
    simp (disch := omega) only [wIn] at hc
    exact ok_if (fun _ => tg_X3_takeItem2 hN hd hl hat hS (by omega) (by omega)) (fun _ => tg_X3_takeItem2 hN hd hl hat hS (by omega) (by omega))
  show Ok (b_X3_takeItem_0 (g_X3_takeItem (k + 1)) (k + 1) S 20 10 i0 0 0) _
  unfold b_X3_takeItem_0
  refine ok_rdFz hS (by omega) rfl rfl (fun _ => ?_)
  refine ok_if (fun _ => ?_) (fun _ => one _ _ hS (by omega))
  refine ok_is hS (by omega) rfl ?_
  refine ok_bd2 (tf_X3_wordNow hN hat hS (by omega)) (fun _ _ hQ => ?_)
  obtain ⟨rfl, hQ⟩ := hQ
  exact one _ _ hS hQ
theorem tg_X3_tellItems (hN : 26 ≤ N) (hl : 0 ≤ tl ∧ tl ≤ 150) : ∀ (k : Nat) (S : xS) (i0 nd a t : Int), Hp (up (T5 n nd tl rp im E) 20 (tx tl a t)) N S → 2 ≤ nd ∧ nd ≤ 7 → 0 ≤ t ∧ t ≤ a ∧ a ≤ 150 → 0 ≤ i0 ∧ i0 ≤ 150 → 3 * (150 - i0) + 370 ≤ (k : Int) → Ok (g_X3_tellItems k 1 S 20 10 0 0 i0 0) (fun _ S' => ∃ m, (2 ≤ m ∧ m ≤ 7) ∧ Hp (T5 n m tl rp im E) N S') := by
  intro k
  induction k using Nat.strongRecOn with
  | _ k ih =>
    intro S i0 nd a t hS hd hat hi hk
    obtain ⟨k, rfl⟩ : ∃ k', k = k' + 3 := ⟨k - 3, by omega⟩
    show Ok (b_X3_tellItems_1 (g_X3_tellItems (k + 2)) (k + 2) S 20 10 0 0 i0 0) _
    unfold b_X3_tellItems_1
    refine ok_if (fun _ => ?_) (fun hc => ?_)
    · refine ok_rdFx hS (by omega) rfl rfl ?_
      exact ok_some ⟨nd, hd, tx_close hS (by omega) (by omega)⟩
    · simp (disch := omega) only [wIn] at hc
      refine ok_is hS (by omega) rfl ?_
      refine ok_bd2 (tf_X3_toNextToken hN hl hS (by omega) (by omega)) (fun _ _ hQ => ?_)
      obtain ⟨a1, t1, h1, hS⟩ := hQ
      have three : ∀ (S : xS) (c : Int), Hp (up (T5 n nd tl rp im E) 20 (tx tl a1 t1)) N S → Ok (g_X3_tellItems (k + 1) 3 S 20 10 20 10 i0 c) (fun _ S' => ∃ m, (2 ≤ m ∧ m ≤ 7) ∧ Hp (T5 n m tl rp im E) N S') := by
        intro S c hS
        show Ok (b_X3_tellItems_3 (g_X3_tellItems k) k S 20 10 20 10 i0 c) _
        unfold b_X3_tellItems_3
        refine ok_is hS (by omega) rfl ?_
        refine ok_bd2 (tf_X3_takeItem hN hd hl h1 hS (by omega)) (fun _ _ hQ => ?_)
        obtain ⟨m, a2, t2, hm, h2, hS⟩ := hQ
        refine ok_if (fun _ => ?_) (fun _ => ?_)
        · refine ok_rdFx hS (by omega) rfl rfl ?_
          exact ok_some ⟨m, hm, tx_close hS (by omega) (by omega)⟩
        · exact ih k (by omega) _ (i0 + 1) m a2 t2 hS hm h2 (by omega) (by omega)
      have two : ∀ (S : xS), Hp (up (T5 n nd tl rp im E) 20 (tx tl a1 t1)) N S → Ok (g_X3_tellItems (k + 2) 2 S 20 10 0 0 i0 0) (fun _ S' => ∃ m, (2 ≤ m ∧ m ≤ 7) ∧ Hp (T5 n m tl rp im E) N S') := by
        intro S hS
        show Ok (b_X3_tellItems_2 (g_X3_tellItems (k + 1)) (k + 1) S 20 10 0 0 i0 0) _
        unfold b_X3_tellItems_2
        exact ok_if (fun _ => three _ _ hS) (fun _ => three _ _ hS)
      refine ok_rdFz hS (by omega) rfl rfl (fun _ => ?_)
      refine ok_if (fun _ => ?_) (fun _ => two _ hS)
      exact ok_if (fun _ => two _ hS) (fun _ => ok_some ⟨nd, hd, tx_close hS (by omega) (by omega)⟩)
theorem hp_tx {S : xS} (hN : 26 ≤ N) (h : Hp (T5 n nd tl rp im E) N S) : ∃ a t : Int, (0 ≤ a ∧ a ≤ 150) ∧ (0 ≤ t ∧ t ≤ 150) ∧ Hp (up (T5 n nd tl rp im E) 20 (tx tl a t)) N S := by
  obtain ⟨c, e, hc⟩ := hp_get h (show 20 < N by omega)
  obtain ⟨fs, rfl, hl, hF⟩ := (show tO 3 [fP 21, fI tl tl, fI 0 150, fZ, fI 0 150, fI 0 9999] c from hc)
  have l2 : 2 < fs.length := by
    rw [hl]
    exact Nat.le_of_ble_eq_true rfl
  have l4 : 4 < fs.length := by
    rw [hl]
    exact Nat.le_of_ble_eq_true rfl
  have g2 : fs[2]? = some fs[2] := List.getElem?_eq_getElem l2
  have g4 : fs[4]? = some fs[4] := List.getElem?_eq_getElem l4
  obtain ⟨a, ea, ha1, ha2⟩ := hF 2 (fI 0 150) rfl _ g2
  obtain ⟨t, et, ht1, ht2⟩ := hF 4 (fI 0 150) rfl _ g4
  refine ⟨a, t, ⟨ha1, ha2⟩, ⟨ht1, ht2⟩, hp_weak (hp_open h e) (fun q c hc => ?_)⟩
  by_cases hq : q = 20
  · subst hq
    rw [up_self] at hc ⊢
    subst hc
    refine ⟨fs, rfl, hl, fun k P hP v hv => ?_⟩
    match k, hP with
    | 0, hP => exact hF 0 P hP v hv
    | 1, hP => exact hF 1 P hP v hv
    | 2, hP =>
      cases hP
      rw [g2] at hv
      exact ⟨a, (Option.some.inj hv).symm.trans ea, by omega, by omega⟩
    | 3, hP => exact hF 3 P hP v hv
    | 4, hP =>
      cases hP
      rw [g4] at hv
      exact ⟨t, (Option.some.inj hv).symm.trans et, by omega, by omega⟩
    | 5, hP => exact hF 5 P hP v hv
    | k + 6, hP => cases hP
  · rw [up_ne hq] at hc ⊢
    exact hc
theorem tf_X3_tellItems (hN : 26 ≤ N) (hd : 2 ≤ nd ∧ nd ≤ 7) (hl : 0 ≤ tl ∧ tl ≤ 150) {k : Nat} {S : xS} (hS : Hp (T5 n nd tl rp im E) N S) (hk : 900 ≤ (k : Int)) : Ok (f_X3_tellItems k S 20 10) (fun _ S' => ∃ m, (2 ≤ m ∧ m ≤ 7) ∧ Hp (T5 n m tl rp im E) N S') := by
  obtain ⟨k, rfl⟩ : ∃ k', k = k' + 1 := ⟨k - 1, by omega⟩
  obtain ⟨a, t, ha, ht, hS⟩ := hp_tx hN hS
  show Ok (b_X3_tellItems_0 (g_X3_tellItems k) k S 20 10 0 0 0 0) _
  unfold b_X3_tellItems_0
  refine ok_wrU (fI 0 0) hS (by omega) rfl (Nat.le_of_ble_eq_true rfl) ⟨_, rfl, by omega, by omega⟩ (fun _ hS => ?_)
  have hS := tx_at hS
  -- the token's start is looked at behind the next token alone
  obtain ⟨k, rfl⟩ : ∃ k', k = k' + 3 := ⟨k - 3, by omega⟩
  show Ok (b_X3_tellItems_1 (g_X3_tellItems (k + 2)) (k + 2) _ 20 10 0 0 0 0) _
  unfold b_X3_tellItems_1
  refine ok_neg (by decide) ?_
  refine ok_is hS (by omega) rfl ?_
  refine ok_bd2 (tf_X3_toNextToken hN hl hS (by omega) (by omega)) (fun _ _ hQ => ?_)
  obtain ⟨a1, t1, h1, hS⟩ := hQ
  have three : ∀ (S : xS) (c : Int), Hp (up (T5 n nd tl rp im E) 20 (tx tl a1 t1)) N S → Ok (g_X3_tellItems (k + 1) 3 S 20 10 20 10 0 c) (fun _ S' => ∃ m, (2 ≤ m ∧ m ≤ 7) ∧ Hp (T5 n m tl rp im E) N S') := by
    intro S c hS
    show Ok (b_X3_tellItems_3 (g_X3_tellItems k) k S 20 10 20 10 0 c) _
    unfold b_X3_tellItems_3
    refine ok_is hS (by omega) rfl ?_
    refine ok_bd2 (tf_X3_takeItem hN hd hl h1 hS (by omega)) (fun _ _ hQ => ?_)
    obtain ⟨m, a2, t2, hm, h2, hS⟩ := hQ
    refine ok_if (fun _ => ?_) (fun _ => ?_)
    · refine ok_rdFx hS (by omega) rfl rfl ?_
      exact ok_some ⟨m, hm, tx_close hS (by omega) (by omega)⟩
    · exact tg_X3_tellItems hN hl k _ (0 + 1) m a2 t2 hS hm h2 (by omega) (by omega)
  have two : ∀ (S : xS), Hp (up (T5 n nd tl rp im E) 20 (tx tl a1 t1)) N S → Ok (g_X3_tellItems (k + 2) 2 S 20 10 0 0 0 0) (fun _ S' => ∃ m, (2 ≤ m ∧ m ≤ 7) ∧ Hp (T5 n m tl rp im E) N S') := by
    intro S hS
    show Ok (b_X3_tellItems_2 (g_X3_tellItems (k + 1)) (k + 1) S 20 10 0 0 0 0) _
    unfold b_X3_tellItems_2
    exact ok_if (fun _ => three _ _ hS) (fun _ => three _ _ hS)
  refine ok_rdFz hS (by omega) rfl rfl (fun _ => ?_)
  refine ok_if (fun _ => ?_) (fun _ => two _ hS)
  exact ok_if (fun _ => two _ hS) (fun _ => ok_some ⟨nd, hd, tx_close hS (by omega) (by omega)⟩)
theorem tf_X5_read (hN : 26 ≤ N) (hn : 2 ≤ n ∧ n ≤ 7) (hd : 2 ≤ nd ∧ nd ≤ 7) (hl : 0 ≤ tl ∧ tl ≤ 150) {k : Nat} {S : xS} (hS : Hp (T5 n nd tl rp im E) N S) (hk : 900 ≤ (k : Int)) : Ok (f_X5_read k S 0) (fun _ S' => ∃ m' m, ((2 ≤ m' ∧ m' ≤ 7) ∧ (2 ≤ m ∧ m ≤ 7)) ∧ Hp (T5 m' m tl rp im E) N S') := by
  unfold f_X5_read
  refine ok_rdFp hS (by omega) rfl rfl ?_
  refine ok_rdFp hS (by omega) rfl rfl ?_
  refine ok_is hS (by omega) rfl ?_
  refine ok_bd2 (tf_X3_tellItems hN hd hl hS hk) (fun _ _ hQ => ?_)
  obtain ⟨m, hm, hS⟩ := hQ
  refine ok_if (fun _ => ok_some ⟨n, m, ⟨hn, hm⟩, hS⟩) (fun _ => ?_)
  refine ok_rdFp hS (by omega) rfl rfl ?_
  refine ok_rdFp hS (by omega) rfl rfl ?_
  refine ok_is hS (by omega) rfl ?_
  refine ok_bd2 (tf_X1_copyOf (G := T5 n m tl rp im E) (N := N) (p := 1) (q3 := 2) (q4 := 3) (q5 := 4) (q7 := 5) (q8 := 6) (q10 := 7) (q12 := 8) (q13 := 9) (p' := 10) (s3 := 11) (s4 := 12) (s5 := 13) (s7 := 14) (s8 := 15) (s10 := 16) (s12 := 17) (s13 := 18) (fun q hq => by simp at hq; omega) rfl rfl rfl rfl rfl rfl rfl rfl rfl rfl rfl rfl rfl rfl rfl rfl (by decide) (by decide) hS) (fun _ _ hQ => ?_)
  obtain ⟨hS, -⟩ := hQ
  rw [T5_room] at hS
  exact ok_some ⟨m, m, ⟨hm, hm⟩, hS⟩
