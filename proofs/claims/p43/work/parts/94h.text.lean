variable {n nd tl : Int} {rp : Option Nat} {im : List (Option Nat)} {E : xT} {N : Nat}
/-! the text -/
def tx (tl a t : Int) : xC → Prop := tO 3 [fP 21, fI tl tl, fI a a, fZ, fI t t, fI 0 9999]
theorem ok_rdAE {G : xT} {N : Nat} {S : xS} {q k len : Nat} {P : List Int → Prop} {lo hi i : Int} {Q : Int → xS → Prop} {f : Int → Option (Int × xS)} (h : Hp G N S) (hq : q < N) (hG : G q = tA k len P) (hP : ∀ L, P L → tR lo hi L) (h0 : 0 ≤ i) (h1 : i < len) (h2 : i < 2147483648) (hf : ∀ v, lo ≤ v → v ≤ hi → rdA k S q i = some v → Ok (f v) Q) : Ok ((rdA k S q i).bind f) Q := by
  obtain ⟨c, e, hc⟩ := hp_get h hq
  rw [hG] at hc
  obtain ⟨L, rfl, hL, hp⟩ := hc
  have hi' : i.toNat < L.length := by omega
  have e' : rdA k S q i = some L[i.toNat] := by rw [rdA_at e h0 h2, List.getElem?_eq_getElem hi']
  exact ok_bind e' (hf _ (hP L hp _ (List.getElem_mem hi')).1 (hP L hp _ (List.getElem_mem hi')).2 e')
theorem tf_X3_isWithin {k : Nat} {S : xS} {x lo hi : Int} (hx : -128 ≤ x ∧ x ≤ 127) (hl : 0 ≤ lo ∧ lo ≤ 127) (hh : 0 ≤ hi ∧ hi ≤ 127) (hk : 2 ≤ (k : Int)) : Ok (f_X3_isWithin k S x lo hi) (fun r S' => S' = S ∧ ((r = 1 ∧ lo ≤ x ∧ x ≤ hi) ∨ r = 0)) := by
  obtain ⟨k, rfl⟩ : ∃ k', k = k' + 2 := ⟨k - 2, by omega⟩
  show Ok (b_X3_isWithin_0 (g_X3_isWithin (k + 1)) (k + 1) S x lo hi) _
  unfold b_X3_isWithin_0
  refine ok_if (fun hc => ⟨0, S, rfl, rfl, Or.inr rfl⟩) (fun hc => ?_)
  refine ok_if (fun hc2 => ⟨0, S, rfl, rfl, Or.inr rfl⟩) (fun hc2 => ?_)
  simp (disch := omega) only [wIn] at hc hc2
  exact ok_some ⟨rfl, Or.inl ⟨rfl, by omega, by omega⟩⟩
theorem tx_at {S : xS} {a a' t : Int} (h : Hp (up (up (T5 n nd tl rp im E) 20 (tx tl a t)) 20 (tO 3 [fP 21, fI tl tl, fI a' a', fZ, fI t t, fI 0 9999])) N S) : Hp (up (T5 n nd tl rp im E) 20 (tx tl a' t)) N S := by
  rw [up_up] at h
  exact h
theorem tx_ts {S : xS} {a t t' : Int} (h : Hp (up (up (T5 n nd tl rp im E) 20 (tx tl a t)) 20 (tO 3 [fP 21, fI tl tl, fI a a, fZ, fI t' t', fI 0 9999])) N S) : Hp (up (T5 n nd tl rp im E) 20 (tx tl a t')) N S := by
  rw [up_up] at h
  exact h
theorem tx_close {S : xS} {a t : Int} (h : Hp (up (T5 n nd tl rp im E) 20 (tx tl a t)) N S) (ha : 0 ≤ a ∧ a ≤ 150) (ht : 0 ≤ t ∧ t ≤ 150) : Hp (T5 n nd tl rp im E) N S := by
  have h1 : Hp (up (T5 n nd tl rp im E) 20 (tO 3 [fP 21, fI tl tl, fI 0 150, fZ, fI t t, fI 0 9999])) N S := by
    have := hp_close (G := up (T5 n nd tl rp im E) 20 (tO 3 [fP 21, fI tl tl, fI 0 150, fZ, fI t t, fI 0 9999])) (q := 20) (P := tx tl a t) (by rw [up_up]; exact h) (fun c hc => tO_wk (k := 2) (P := fI 0 150) (P' := fI a a) (Ps := [fP 21, fI tl tl, fI 0 150, fZ, fI t t, fI 0 9999]) rfl (fI_wk ha) hc)
    exact this
  exact hp_close h1 (fun c hc => tO_wk (k := 4) (P := fI 0 150) (P' := fI t t) (Ps := [fP 21, fI tl tl, fI 0 150, fZ, fI 0 150, fI 0 9999]) rfl (fI_wk ht) hc)
theorem xMin_r {x : Int} (hx : 0 ≤ x ∧ x < 2147483648) : 0 ≤ xMin 9999 x ∧ xMin 9999 x ≤ 9999 := by
  unfold xMin
  rw [wIn (n := x) (by omega) (by omega), show wI 9999 = 9999 from by decide]
  split <;> omega
theorem tg_X3_takeWord {t : Int} (hN : 26 ≤ N) (hl : 0 ≤ tl ∧ tl ≤ 150) : ∀ (k : Nat) (S : xS) (a : Int), Hp (up (T5 n nd tl rp im E) 20 (tx tl a t)) N S → 0 ≤ a ∧ a ≤ 150 → 150 - a + 4 ≤ (k : Int) → Ok (g_X3_takeWord k 1 S 20) (fun _ S' => ∃ a', (a ≤ a' ∧ a' ≤ 150) ∧ Hp (up (T5 n nd tl rp im E) 20 (tx tl a' t)) N S') := by
  intro k
  induction k with
  | zero => intro S a _ _ _; exfalso; omega
  | succ k ih =>
    intro S a hS ha hk
    show Ok (b_X3_takeWord_1 (g_X3_takeWord k) k S 20) _
    unfold b_X3_takeWord_1
    refine ok_rdFx hS (by omega) rfl rfl ?_
    refine ok_rdFx hS (by omega) rfl rfl ?_
    refine ok_if (fun hc => ok_some ⟨a, by omega, hS⟩) (fun hc => ?_)
    simp (disch := omega) only [wIn] at hc
    refine ok_rdFp hS (by omega) rfl rfl ?_
    refine ok_rdFx hS (by omega) rfl rfl ?_
    refine ok_rdA hS (by omega) rfl tR_id (by omega) (by omega) (by omega) (fun v h1 h2 => ?_)
    refine ok_bd2 (tf_X3_isWithin ⟨h1, h2⟩ (by omega) (by omega) (by omega)) (fun _ _ hQ => ?_)
    obtain ⟨rfl, hQ⟩ := hQ
    refine ok_if (fun hc => ok_some ⟨a, by omega, hS⟩) (fun hc => ?_)
    refine ok_rdFx hS (by omega) rfl rfl ?_
    refine ok_wrU (fI (a + 1) (a + 1)) hS (by omega) rfl (Nat.le_of_ble_eq_true rfl) ⟨_, rfl, by omega, by omega⟩ (fun _ hS => ?_)
    refine ok_mono (ih _ (a + 1) (tx_at hS) (by omega) (by omega)) (fun r S' h => ?_)
    obtain ⟨a', h1, h2⟩ := h
    exact ⟨a', by omega, h2⟩
theorem tf_X3_takeWord {t a : Int} (hN : 26 ≤ N) (hl : 0 ≤ tl ∧ tl ≤ 150) {k : Nat} {S : xS} (hS : Hp (up (T5 n nd tl rp im E) 20 (tx tl a t)) N S) (ha : 0 ≤ a ∧ a ≤ 150) (hk : 160 ≤ (k : Int)) : Ok (f_X3_takeWord k S 20) (fun _ S' => ∃ a', (a ≤ a' ∧ a' ≤ 150) ∧ Hp (up (T5 n nd tl rp im E) 20 (tx tl a' t)) N S') := by
  obtain ⟨k, rfl⟩ : ∃ k', k = k' + 1 := ⟨k - 1, by omega⟩
  show Ok (b_X3_takeWord_0 (g_X3_takeWord k) k S 20) _
  unfold b_X3_takeWord_0
  refine ok_wrF hS (by omega) rfl rfl (⟨_, rfl⟩ : fZ _) (fun _ hS => ?_)
  exact tg_X3_takeWord hN hl k _ a hS ha (by omega)
theorem tg_X3_takeFigures {t : Int} (hN : 26 ≤ N) (hl : 0 ≤ tl ∧ tl ≤ 150) (ht : 0 ≤ t ∧ t ≤ 150) : ∀ (k : Nat) (S : xS) (a : Int), Hp (up (T5 n nd tl rp im E) 20 (tx tl a t)) N S → 0 ≤ a ∧ a ≤ 150 → 150 - a + 4 ≤ (k : Int) → Ok (g_X3_takeFigures k 1 S 20) (fun _ S' => ∃ a', (a ≤ a' ∧ a' ≤ 150) ∧ Hp (up (T5 n nd tl rp im E) 20 (tx tl a' t)) N S') := by
  intro k
  induction k with
  | zero => intro S a _ _ _; exfalso; omega
  | succ k ih =>
    intro S a hS ha hk
    have fin : Ok (g_X3_takeFigures k 2 S 20) (fun _ S' => ∃ a', (a ≤ a' ∧ a' ≤ 150) ∧ Hp (up (T5 n nd tl rp im E) 20 (tx tl a' t)) N S') := by
      obtain ⟨k, rfl⟩ : ∃ k', k = k' + 1 := ⟨k - 1, by omega⟩
      show Ok (b_X3_takeFigures_2 (g_X3_takeFigures k) k S 20) _
      unfold b_X3_takeFigures_2
      refine ok_rdFx hS (by omega) rfl rfl ?_
      refine ok_rdFx hS (by omega) rfl rfl ?_
      refine ok_if (fun hc => ?_) (fun hc => ?_)
      · refine ok_wrF hS (by omega) rfl rfl (⟨_, rfl⟩ : fZ _) (fun _ hS => ?_)
        exact ok_some ⟨a, by omega, hS⟩
      · refine ok_wrF hS (by omega) rfl rfl (⟨_, rfl⟩ : fZ _) (fun _ hS => ?_)
        exact ok_some ⟨a, by omega, hS⟩
    show Ok (b_X3_takeFigures_1 (g_X3_takeFigures k) k S 20) _
    unfold b_X3_takeFigures_1
    refine ok_rdFx hS (by omega) rfl rfl ?_
    refine ok_rdFx hS (by omega) rfl rfl ?_
    refine ok_if (fun hc => fin) (fun hc => ?_)
    simp (disch := omega) only [wIn] at hc
    refine ok_rdFp hS (by omega) rfl rfl ?_
    refine ok_rdFx hS (by omega) rfl rfl ?_
    refine ok_rdAE hS (by omega) rfl tR_id (by omega) (by omega) (by omega) (fun v h1 h2 e => ?_)
    refine ok_bd2 (tf_X3_isWithin ⟨h1, h2⟩ (by omega) (by omega) (by omega)) (fun _ _ hQ => ?_)
    obtain ⟨rfl, hQ⟩ := hQ
    refine ok_if (fun hc => fin) (fun hc => ?_)
    simp (disch := omega) only [wIn] at hc
    refine ok_rdFi hS (by omega) rfl rfl (fun x hx1 hx2 => ?_)
    refine ok_rdFp hS (by omega) rfl rfl ?_
    refine ok_rdFx hS (by omega) rfl rfl ?_
    refine ok_bind e ?_
    have hm := xMin_r (x := ((10 * x) + v) - 48) (by omega)
    refine ok_wrF hS (by omega) rfl rfl (⟨_, rfl, hm.1, hm.2⟩ : fI 0 9999 _) (fun _ hS => ?_)
    refine ok_rdFx hS (by omega) rfl rfl ?_
    refine ok_wrU (fI (a + 1) (a + 1)) hS (by omega) rfl (Nat.le_of_ble_eq_true rfl) ⟨_, rfl, by omega, by omega⟩ (fun _ hS => ?_)
    refine ok_mono (ih _ (a + 1) (tx_at hS) (by omega) (by omega)) (fun r S' h => ?_)
    obtain ⟨a', h1, h2⟩ := h
    exact ⟨a', by omega, h2⟩
theorem tf_X3_takeFigures {t a : Int} (hN : 26 ≤ N) (hl : 0 ≤ tl ∧ tl ≤ 150) (ht : 0 ≤ t ∧ t ≤ 150) {k : Nat} {S : xS} (hS : Hp (up (T5 n nd tl rp im E) 20 (tx tl a t)) N S) (ha : 0 ≤ a ∧ a ≤ 150) (hk : 160 ≤ (k : Int)) : Ok (f_X3_takeFigures k S 20) (fun _ S' => ∃ a', (a ≤ a' ∧ a' ≤ 150) ∧ Hp (up (T5 n nd tl rp im E) 20 (tx tl a' t)) N S') := by
  obtain ⟨k, rfl⟩ : ∃ k', k = k' + 1 := ⟨k - 1, by omega⟩
  show Ok (b_X3_takeFigures_0 (g_X3_takeFigures k) k S 20) _
  unfold b_X3_takeFigures_0
  refine ok_wrF hS (by omega) rfl rfl (⟨_, rfl, by omega, by omega⟩ : fI 0 9999 _) (fun _ hS => ?_)
  exact tg_X3_takeFigures hN hl ht k _ a hS ha (by omega)
/-- the next token -/
theorem tg_X3_toNext1 {a t : Int} (hN : 26 ≤ N) (hl : 0 ≤ tl ∧ tl ≤ 150) {k : Nat} {S : xS} {p1 : Nat} {i0 : Int} (hS : Hp (up (T5 n nd tl rp im E) 20 (tx tl a t)) N S) (ha : 0 ≤ a ∧ a ≤ 150) (hk : 170 ≤ (k : Int)) : Ok (g_X3_toNextToken k 1 S 20 p1 i0) (fun _ S' => ∃ a' t', (0 ≤ t' ∧ t' ≤ a' ∧ a' ≤ 150) ∧ Hp (up (T5 n nd tl rp im E) 20 (tx tl a' t')) N S') := by
  obtain ⟨k, rfl⟩ : ∃ k', k = k' + 2 := ⟨k - 2, by omega⟩
  show Ok (b_X3_toNextToken_1 (g_X3_toNextToken (k + 1)) (k + 1) S 20 p1 i0) _
  unfold b_X3_toNextToken_1
  refine ok_rdFx hS (by omega) rfl rfl ?_
  refine ok_wrU (fI a a) hS (by omega) rfl (Nat.le_of_ble_eq_true rfl) ⟨_, rfl, by omega, by omega⟩ (fun _ hS => ?_)
  replace hS := tx_ts hS
  refine ok_rdFx hS (by omega) rfl rfl ?_
  refine ok_rdFx hS (by omega) rfl rfl ?_
  refine ok_if (fun hc => ?_) (fun hc => ?_)
  · simp (disch := omega) only [wIn] at hc
    have two : ∀ (S : xS) (c : Int), Hp (up (T5 n nd tl rp im E) 20 (tx tl a a)) N S → Ok (g_X3_toNextToken (k + 1) 2 S 20 20 c) (fun _ S' => ∃ a' t', (0 ≤ t' ∧ t' ≤ a' ∧ a' ≤ 150) ∧ Hp (up (T5 n nd tl rp im E) 20 (tx tl a' t')) N S') := by
      intro S c hS
      show Ok (b_X3_toNextToken_2 (g_X3_toNextToken k) k S 20 20 c) _
      unfold b_X3_toNextToken_2
      refine ok_wrF hS (by omega) rfl rfl (⟨_, rfl⟩ : fZ _) (fun _ hS => ?_)
      refine ok_rdFx hS (by omega) rfl rfl ?_
      refine ok_wrU (fI (a + 1) (a + 1)) hS (by omega) rfl (Nat.le_of_ble_eq_true rfl) ⟨_, rfl, by omega, by omega⟩ (fun _ hS => ?_)
      exact ok_some ⟨a + 1, a, by omega, tx_at hS⟩
    refine ok_rdFp hS (by omega) rfl rfl ?_
    refine ok_rdFx hS (by omega) rfl rfl ?_
    refine ok_rdA hS (by omega) rfl tR_id (by omega) (by omega) (by omega) (fun v h1 h2 => ?_)
    refine ok_bd2 (tf_X3_isWithin ⟨h1, h2⟩ (by omega) (by omega) (by omega)) (fun _ _ hQ => ?_)
    obtain ⟨rfl, hQ⟩ := hQ
    refine ok_if (fun hc => ?_) (fun hc => ?_)
    · refine ok_rdFp hS (by omega) rfl rfl ?_
      refine ok_rdFx hS (by omega) rfl rfl ?_
      refine ok_rdA hS (by omega) rfl tR_id (by omega) (by omega) (by omega) (fun v h1 h2 => ?_)
      refine ok_bd2 (tf_X3_isWithin ⟨h1, h2⟩ (by omega) (by omega) (by omega)) (fun _ _ hQ => ?_)
      obtain ⟨rfl, hQ⟩ := hQ
      refine ok_if (fun hc => ?_) (fun hc => ?_)
      · refine ok_rdFp hS (by omega) rfl rfl ?_
        refine ok_rdFx hS (by omega) rfl rfl ?_
        refine ok_rdA hS (by omega) rfl tR_id (by omega) (by omega) (by omega) (fun v h1 h2 => ?_)
        exact ok_if (fun _ => two _ _ hS) (fun _ => two _ _ hS)
      · refine ok_is hS (by omega) rfl ?_
        refine ok_bd2 (tf_X3_takeFigures hN hl (by omega) hS ha (by omega)) (fun _ _ hQ => ?_)
        obtain ⟨a', h1, h2⟩ := hQ
        exact ok_some ⟨a', a, by omega, h2⟩
    · refine ok_is hS (by omega) rfl ?_
      refine ok_bd2 (tf_X3_takeWord hN hl hS ha (by omega)) (fun _ _ hQ => ?_)
      obtain ⟨a', h1, h2⟩ := hQ
      exact ok_some ⟨a', a, by omega, h2⟩
  · refine ok_wrF hS (by omega) rfl rfl (⟨_, rfl⟩ : fZ _) (fun _ hS => ?_)
    exact ok_some ⟨a, a, by omega, hS⟩
theorem tg_X3_toNext0 (hN : 26 ≤ N) (hl : 0 ≤ tl ∧ tl ≤ 150) {t : Int} : ∀ (k : Nat) (S : xS) (a : Int) (p1 : Nat) (i0 : Int), Hp (up (T5 n nd tl rp im E) 20 (tx tl a t)) N S → 0 ≤ a ∧ a ≤ 150 → 150 - a + 175 ≤ (k : Int) → Ok (g_X3_toNextToken k 0 S 20 p1 i0) (fun _ S' => ∃ a' t', (0 ≤ t' ∧ t' ≤ a' ∧ a' ≤ 150) ∧ Hp (up (T5 n nd tl rp im E) 20 (tx tl a' t')) N S') := by
  intro k
  induction k with
  | zero => intro S a _ _ _ _ _; exfalso; omega
  | succ k ih =>
    intro S a p1 i0 hS ha hk
    show Ok (b_X3_toNextToken_0 (g_X3_toNextToken k) k S 20 p1 i0) _
    unfold b_X3_toNextToken_0
    refine ok_rdFx hS (by omega) rfl rfl ?_
    refine ok_rdFx hS (by omega) rfl rfl ?_
    refine ok_if (fun hc => tg_X3_toNext1 hN hl hS ha (by omega)) (fun hc => ?_)
    simp (disch := omega) only [wIn] at hc
    refine ok_rdFp hS (by omega) rfl rfl ?_
    refine ok_rdFx hS (by omega) rfl rfl ?_
    refine ok_rdA hS (by omega) rfl tR_id (by omega) (by omega) (by omega) (fun v h1 h2 => ?_)
    refine ok_if (fun hc => ?_) (fun hc => tg_X3_toNext1 hN hl hS ha (by omega))
    refine ok_rdFx hS (by omega) rfl rfl ?_
    refine ok_wrU (fI (a + 1) (a + 1)) hS (by omega) rfl (Nat.le_of_ble_eq_true rfl) ⟨_, rfl, by omega, by omega⟩ (fun _ hS => ?_)
    exact ih _ (a + 1) _ _ (tx_at hS) (by omega) (by omega)
theorem tf_X3_toNextToken (hN : 26 ≤ N) (hl : 0 ≤ tl ∧ tl ≤ 150) {t a : Int} {k : Nat} {S : xS} (hS : Hp (up (T5 n nd tl rp im E) 20 (tx tl a t)) N S) (ha : 0 ≤ a ∧ a ≤ 150) (hk : 330 ≤ (k : Int)) : Ok (f_X3_toNextToken k S 20) (fun _ S' => ∃ a' t', (0 ≤ t' ∧ t' ≤ a' ∧ a' ≤ 150) ∧ Hp (up (T5 n nd tl rp im E) 20 (tx tl a' t')) N S') := tg_X3_toNext0 hN hl k S a _ _ hS ha (by omega)
