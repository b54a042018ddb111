variable {n nd tl : Int} {rp : Option Nat} {im : List (Option Nat)} {E : xT} {N : Nat}
theorem tg_isMadeFor {G : xT} {N g : Nat} {mc : Int} (hg : g + 11 ≤ N) (hN : 26 ≤ N) {sm : Nat → List Int → Prop} (g1 : G 1 = roomX n mc) (g7 : G 7 = tA 0 4 (tR 0 5039)) (h0 : G g = rcT g sm 0) (h10 : G (g + 10) = tA 0 4 tW) (hm : 0 ≤ mc ∧ mc ≤ 4) : ∀ (k : Nat) (S : xS) (i0 : Int), Hp G N S → 0 ≤ i0 ∧ i0 ≤ mc → mc - i0 + 1 ≤ (k : Int) → Ok (g_X0_isMadeFor k 1 S g 1 i0) (fun r S' => S' = S ∧ True) := by
  intro k
  induction k with
  | zero => intro S i0 _ _ _; exfalso; omega
  | succ k ih =>
    intro S i0 hS hi hk
    show Ok (b_X0_isMadeFor_1 (g_X0_isMadeFor k) k S g 1 i0) _
    unfold b_X0_isMadeFor_1
    refine ok_rdFx hS (by omega) g1 rfl ?_
    refine ok_if (fun _ => ok_some ⟨rfl, trivial⟩) (fun hc => ?_)
    simp (disch := omega) only [wIn] at hc
    refine ok_rdFp hS (by omega) h0 rfl ?_
    refine ok_rdW hS (by omega) h10 (by omega) (by omega) (by omega) (fun _ => ?_)
    refine ok_rdFp hS (by omega) g1 rfl ?_
    refine ok_rdA hS (by omega) g7 tR_id (by omega) (by omega) (by omega) (fun _ _ _ => ?_)
    refine ok_if (fun _ => ?_) (fun _ => ok_some ⟨rfl, trivial⟩)
    exact ih S (i0 + 1) hS (by omega) (by omega)
theorem tf_isMadeFor {G : xT} {N g : Nat} {mc : Int} (hg : g + 11 ≤ N) (hN : 26 ≤ N) (hn : 2 ≤ n ∧ n ≤ 7) {sm : Nat → List Int → Prop} (g1 : G 1 = roomX n mc) (g2 : G 2 = tA 0 7 (sl n)) (g7 : G 7 = tA 0 4 (tR 0 5039)) (h0 : G g = rcT g sm 0) (h1 : G (g + 1) = tA 0 5040 (tR 0 5039)) (h10 : G (g + 10) = tA 0 4 tW) (hm : 0 ≤ mc ∧ mc ≤ 4) {k : Nat} {S : xS} (hS : Hp G N S) (hk : 20 ≤ (k : Int)) : Ok (f_X0_isMadeFor k S g 1) (fun r S' => S' = S ∧ True) := by
  obtain ⟨k, rfl⟩ : ∃ k', k = k' + 1 := ⟨k - 1, by omega⟩
  show Ok (b_X0_isMadeFor_0 (g_X0_isMadeFor k) k S g 1 0) _
  unfold b_X0_isMadeFor_0
  refine ok_rdFz hS (by omega) h0 rfl (fun _ => ?_)
  refine ok_rdFx hS (by omega) g1 rfl ?_
  refine ok_if (fun _ => ?_) (fun _ => ok_some ⟨rfl, trivial⟩)
  refine ok_rdFz hS (by omega) h0 rfl (fun _ => ?_)
  refine ok_rdFx hS (by omega) g1 rfl ?_
  refine ok_if (fun _ => ?_) (fun _ => ok_some ⟨rfl, trivial⟩)
  refine ok_rdFp hS (by omega) h0 rfl ?_
  refine ok_rdA hS (by omega) h1 tR_id (by omega) (by omega) (by omega) (fun _ _ _ => ?_)
  refine ok_is hS (by omega) g1 ?_
  refine ok_bd2 (rk_G (by omega) g1 rfl rfl g2 hn hS (by omega)) (fun _ _ hQ => ?_)
  obtain ⟨rfl, -⟩ := hQ
  refine ok_if (fun _ => ?_) (fun _ => ok_some ⟨rfl, trivial⟩)
  exact tg_isMadeFor hg hN g1 g7 h0 h10 hm k _ 0 hS (by omega) (by omega)
/-- the walk -/
theorem tg_spread23 {g : Nat} {mc : Int} {sm : Nat → List Int → Prop} (hg : 45 ≤ g ∧ g + 11 ≤ N) (hn : 2 ≤ n ∧ n ≤ 7) (hm : 0 ≤ mc ∧ mc ≤ 4) (hsm : ∀ j : Nat, (j : Int) < mc → sm j = sl n) : ∀ (k : Nat), (∀ (S : xS) (i1 : Int) (i2 i3 : Int), Hp (RS (T5 n nd tl rp im E) g n mc (tR 0 6) (tR 0 6) sm) N S → 0 ≤ i1 ∧ i1 ≤ 5040 → 6 * (5040 - i1) + 60 ≤ (k : Int) → Ok (g_X0_spreadFrom k 2 S g 1 n i1 i2 i3) (fun _ S' => Hp (RS (T5 n nd tl rp im E) g n mc (tR 0 6) (tR 0 6) sm) N S' ∧ True)) ∧ (∀ (S : xS) (i1 i2 i3 : Int), Hp (RS (T5 n nd tl rp im E) g n mc (sl n) (tR 0 6) sm) N S → 0 ≤ i1 ∧ i1 < 5040 → 0 ≤ i2 ∧ i2 ≤ 5039 → 0 ≤ i3 ∧ i3 ≤ mc → 6 * (5039 - i1) + 61 + (mc - i3) ≤ (k : Int) → Ok (g_X0_spreadFrom k 3 S g 1 n i1 i2 i3) (fun _ S' => Hp (RS (T5 n nd tl rp im E) g n mc (tR 0 6) (tR 0 6) sm) N S' ∧ True)) := by
  intro k
  induction k with
  | zero => exact ⟨fun S i1 _ _ _ _ _ => by exfalso; omega, fun S i1 i2 i3 _ _ _ _ _ => by exfalso; omega⟩
  | succ k ih =>
    obtain ⟨ih2, ih3⟩ := ih
    refine ⟨?_, ?_⟩
    · intro S i1 i2 i3 hS hi hk
      show Ok (b_X0_spreadFrom_2 (g_X0_spreadFrom k) k S g 1 n i1 i2 i3) _
      unfold b_X0_spreadFrom_2
      have e0 : RS (T5 n nd tl rp im E) g n mc (tR 0 6) (tR 0 6) sm g = rcT g sm 0 := RS_j (j := 0) hg.1 (by omega) (by omega) (by omega)
      have e1 : RS (T5 n nd tl rp im E) g n mc (tR 0 6) (tR 0 6) sm (g + 1) = rcT g sm 1 := RS_j (j := 1) hg.1 (by omega) (by omega) (by omega)
      refine ok_rdFi hS (by omega) e0 rfl (fun x hx1 hx2 => ?_)
      refine ok_if (fun _ => ok_some ⟨hS, trivial⟩) (fun hc => ?_)
      refine ok_if (fun _ => ok_some ⟨hS, trivial⟩) (fun hc2 => ?_)
      simp (disch := omega) only [wIn] at hc hc2
      refine ok_rdFp hS (by omega) e0 rfl ?_
      refine ok_rdA hS (by omega) e1 tR_id (by omega) (by omega) (by omega) (fun r hr1 hr2 => ?_)
      refine ok_rdFp hS (by omega) e0 rfl ?_
      refine ok_bd2 (ok_setRankU (q := g + 3) (by omega) (RS_3 hg.1) hn hS ⟨hr1, hr2⟩ (by omega)) (fun _ _ hQ => ?_)
      obtain ⟨hS, -⟩ := hQ
      rw [RS_u3 hg.1] at hS
      exact ih3 _ i1 r 0 hS (by omega) (by omega) (by omega) (by omega)
    · intro S i1 i2 i3 hS hi hr hi3 hk
      show Ok (b_X0_spreadFrom_3 (g_X0_spreadFrom k) k S g 1 n i1 i2 i3) _
      unfold b_X0_spreadFrom_3
      have e0 : ∀ {P4 : List Int → Prop}, RS (T5 n nd tl rp im E) g n mc (sl n) P4 sm g = rcT g sm 0 := RS_j (j := 0) hg.1 (by omega) (by omega) (by omega)
      have e1 : ∀ {P4 : List Int → Prop}, RS (T5 n nd tl rp im E) g n mc (sl n) P4 sm (g + 1) = rcT g sm 1 := RS_j (j := 1) hg.1 (by omega) (by omega) (by omega)
      have e2 : ∀ {P4 : List Int → Prop}, RS (T5 n nd tl rp im E) g n mc (sl n) P4 sm (g + 2) = rcT g sm 2 := RS_j (j := 2) hg.1 (by omega) (by omega) (by omega)
      have e5 : RS (T5 n nd tl rp im E) g n mc (sl n) (tR 0 6) sm (g + 5) = rcT g sm 5 := RS_j (j := 5) hg.1 (by omega) (by omega) (by omega)
      refine ok_rdFx hS (by omega) RS_1 rfl ?_
      refine ok_if (fun _ => ?_) (fun hc => ?_)
      · exact ih2 _ (i1 + 1) 0 0 (RS_wk (fun _ h => h.1) (fun _ h => h) hS) (by omega) (by omega)
      · simp (disch := omega) only [wIn] at hc
        refine ok_rdFp hS (by omega) e0 rfl ?_
        refine ok_rdFp hS (by omega) e0 rfl ?_
        refine ok_rdFp hS (by omega) e0 rfl ?_
        obtain ⟨c, ec, hcc⟩ := hp_get hS (show g + 5 < N by omega)
        rw [e5] at hcc
        have hcc : c = .inr (.inl (4, [some (g + 6), some (g + 7), some (g + 8), some (g + 9)])) := hcc
        subst hcc
        have hi4 : i3.toNat < 4 := by omega
        have er : rdP 4 S (g + 5) i3 = some (some (g + (i3.toNat + 6))) := by
          rw [rdP_at ec (by omega) (by omega)]
          rcases (show i3.toNat = 0 ∨ i3.toNat = 1 ∨ i3.toNat = 2 ∨ i3.toNat = 3 by omega) with e | e | e | e <;> rw [e] <;> rfl
        refine ok_onP er ?_
        have e6 : RS (T5 n nd tl rp im E) g n mc (sl n) (tR 0 6) sm (g + (i3.toNat + 6)) = tA 0 7 (sl n) := by
          rw [RS_j hg.1 (by omega) (by omega) (by omega), rcT_6 hi4, hsm i3.toNat (by omega)]
        refine ok_bd2 (ok_setMovedU (p0 := g + 4) (p1 := g + 3) (p2 := g + (i3.toNat + 6)) (by omega) (by omega) (by omega) (by omega) (by omega) (RS_4 hg.1) (RS_3 hg.1) e6 hn hS (by omega)) (fun _ _ hQ => ?_)
        obtain ⟨hS, -⟩ := hQ
        rw [RS_u4 hg.1] at hS
        refine ok_rdFp hS (by omega) e0 rfl ?_
        obtain ⟨c, ec, hcc⟩ := hp_get hS (show g + 4 < N by omega)
        rw [RS_4 hg.1] at hcc
        obtain ⟨L, rfl, hL, hs⟩ := hcc
        obtain ⟨r, er2, hr1, hr2⟩ := rk_all ec hL hs (by omega) (k := k) (by omega)
        rw [bd2_some er2]
        refine ok_is hS (by omega) e0 ?_
        refine ok_bd2 (tf_X0_add (g := g) (by omega) e0 e1 e2 hS ⟨hr1, hr2⟩ (by omega)) (fun _ _ hQ => ?_)
        obtain ⟨hS, -⟩ := hQ
        exact ih3 _ i1 i2 (i3 + 1) (RS_wk (fun _ h => h) (fun _ h => h.1) hS) hi hr (by omega) (by omega)
theorem tg_spread1 {g : Nat} {mc : Int} (hg : 45 ≤ g ∧ g + 11 ≤ N) (hn : 2 ≤ n ∧ n ≤ 7) (hm : 0 ≤ mc ∧ mc ≤ 4) : ∀ (k : Nat) (S : xS) (i1 : Int) (sm : Nat → List Int → Prop), Hp (RS (T5 n nd tl rp im E) g n mc (tR 0 6) (tR 0 6) sm) N S → 0 ≤ i1 ∧ i1 ≤ mc → (∀ j : Nat, (j : Int) < i1 → sm j = sl n) → (∀ j : Nat, i1 ≤ (j : Int) → sm j = tR 0 6) → mc - i1 + 30400 ≤ (k : Int) → Ok (g_X0_spreadFrom k 1 S g 1 n i1 0 0) (fun _ S' => ∃ sm', (∀ j : Nat, ∀ L, sm' j L → tR 0 6 L) ∧ Hp (RS (T5 n nd tl rp im E) g n mc (tR 0 6) (tR 0 6) sm') N S') := by
  intro k
  induction k with
  | zero => intro S i1 sm _ _ _ _ _; exfalso; omega
  | succ k ih =>
    intro S i1 sm hS hi hs1 hs2 hk
    have e0 : ∀ {sm : Nat → List Int → Prop}, RS (T5 n nd tl rp im E) g n mc (tR 0 6) (tR 0 6) sm g = rcT g sm 0 := RS_j (j := 0) hg.1 (by omega) (by omega) (by omega)
    have e1 : RS (T5 n nd tl rp im E) g n mc (tR 0 6) (tR 0 6) sm (g + 1) = rcT g sm 1 := RS_j (j := 1) hg.1 (by omega) (by omega) (by omega)
    have e2 : RS (T5 n nd tl rp im E) g n mc (tR 0 6) (tR 0 6) sm (g + 2) = rcT g sm 2 := RS_j (j := 2) hg.1 (by omega) (by omega) (by omega)
    have e5 : RS (T5 n nd tl rp im E) g n mc (tR 0 6) (tR 0 6) sm (g + 5) = rcT g sm 5 := RS_j (j := 5) hg.1 (by omega) (by omega) (by omega)
    show Ok (b_X0_spreadFrom_1 (g_X0_spreadFrom k) k S g 1 n i1 0 0) _
    unfold b_X0_spreadFrom_1
    refine ok_rdFx hS (by omega) RS_1 rfl ?_
    refine ok_if (fun hc => ?_) (fun hc => ?_)
    · simp (disch := omega) only [wIn] at hc
      refine ok_rdFp hS (by omega) e0 rfl ?_
      refine ok_bd2 (tf_J7_fill_53178 (len := 5040) (by omega) e2 (by omega) (fun L i hL => tR_set (by omega) L hL) hS (by omega)) (fun _ _ hQ => ?_)
      obtain ⟨hS, -⟩ := hQ
      refine ok_wrFE hS (by omega) e0 rfl (by omega) (fun _ hS _ => ?_)
      refine ok_is hS (by omega) RS_1 ?_
      refine ok_bd2 (rk_G (by omega) RS_1 rfl rfl (RS_lo (by omega) (by omega)) hn hS (by omega)) (fun _ _ hQ => ?_)
      obtain ⟨rfl, hr⟩ := hQ
      refine ok_is hS (by omega) e0 ?_
      refine ok_bd2 (tf_X0_add (g := g) (by omega) e0 e1 e2 hS hr (by omega)) (fun _ _ hQ => ?_)
      obtain ⟨hS, -⟩ := hQ
      refine ok_mono ((tg_spread23 hg hn hm (fun j hj => hs1 j (by omega)) k).1 _ 0 0 0 hS (by omega) (by omega)) (fun r S' h => ⟨sm, fun j L hL => ?_, h.1⟩)
      by_cases hj : (j : Int) < i1
      · rw [hs1 j hj] at hL
        exact hL.1
      · rw [hs2 j (by omega)] at hL
        exact hL
    · simp (disch := omega) only [wIn] at hc
      refine ok_rdFp hS (by omega) e0 rfl ?_
      obtain ⟨c, ec, hcc⟩ := hp_get hS (show g + 5 < N by omega)
      rw [e5] at hcc
      have hcc : c = .inr (.inl (4, [some (g + 6), some (g + 7), some (g + 8), some (g + 9)])) := hcc
      subst hcc
      have hi4 : i1.toNat < 4 := by omega
      have er : rdP 4 S (g + 5) i1 = some (some (g + (i1.toNat + 6))) := by
        rw [rdP_at ec (by omega) (by omega)]
        rcases (show i1.toNat = 0 ∨ i1.toNat = 1 ∨ i1.toNat = 2 ∨ i1.toNat = 3 by omega) with e | e | e | e <;> rw [e] <;> rfl
      refine ok_onP er ?_
      refine ok_rdFp hS (by omega) RS_1 rfl ?_
      refine ok_rdA hS (by omega) (RS_lo (q := 7) (by omega) (by omega)) tR_id (by omega) (by omega) (by omega) (fun r hr1 hr2 => ?_)
      have e6 : RS (T5 n nd tl rp im E) g n mc (tR 0 6) (tR 0 6) sm (g + (i1.toNat + 6)) = tA 0 7 (tR 0 6) := by
        rw [RS_j hg.1 (by omega) (by omega) (by omega), rcT_6 hi4, hs2 i1.toNat (by omega)]
      refine ok_bd2 (ok_setRankU (q := g + (i1.toNat + 6)) (by omega) e6 hn hS ⟨hr1, hr2⟩ (by omega)) (fun _ _ hQ => ?_)
      obtain ⟨hS, -⟩ := hQ
      rw [RS_u6 hg.1 hi4] at hS
      refine ih _ (i1 + 1) _ hS (by omega) (fun j hj => ?_) (fun j hj => ?_) (by omega)
      · by_cases hjj : j = i1.toNat
        · rw [if_pos hjj]
        · rw [if_neg hjj]
          exact hs1 j (by omega)
      · rw [if_neg (by omega)]
        exact hs2 j (by omega)
theorem RS_in {g : Nat} {S : xS} (hg : 45 ≤ g) (hr : rcA E g) (hS : Hp (T5 n nd tl rp im E) N S) (hN : 26 ≤ N) : ∃ mc : Int, (0 ≤ mc ∧ mc ≤ 4) ∧ Hp (RS (T5 n nd tl rp im E) g n mc (tR 0 6) (tR 0 6) (fun _ => tR 0 6)) N S := by
  obtain ⟨c, e, hc⟩ := hp_get hS (show 1 < N by omega)
  have hc0 := hc
  obtain ⟨fs, rfl, hl, hF⟩ := (show tO 1 [fI n n, fZ, fI 0 6, fP 2, fP 3, fP 4, fI 0 8, fP 5, fP 6, fI 0 4, fP 7, fI 0 10, fP 8, fP 9] c from hc)
  have l9 : 9 < fs.length := by
    rw [hl]
    exact Nat.le_of_ble_eq_true rfl
  have g9 : fs[9]? = some fs[9] := List.getElem?_eq_getElem l9
  obtain ⟨mc, em, h1, h2⟩ := hF 9 (fI 0 4) rfl _ g9
  refine ⟨mc, ⟨h1, h2⟩, hp_weak (hp_open hS e) (fun q c hc => ?_)⟩
  unfold RS
  by_cases hq1 : q = 1
  · subst hq1
    rw [if_pos rfl]
    rw [up_self] at hc
    subst hc
    refine ⟨fs, rfl, hl, fun k P hP v hv => ?_⟩
    by_cases hk : k = 9
    · subst hk
      cases hP
      rw [g9] at hv
      exact ⟨mc, (Option.some.inj hv).symm.trans em, by omega, by omega⟩
    · refine hF k P ?_ v hv
      match k, hk, hP with
      | 0, _, hP => exact hP
      | 1, _, hP => exact hP
      | 2, _, hP => exact hP
      | 3, _, hP => exact hP
      | 4, _, hP => exact hP
      | 5, _, hP => exact hP
      | 6, _, hP => exact hP
      | 7, _, hP => exact hP
      | 8, _, hP => exact hP
      | 9, hk, _ => exact absurd rfl hk
      | 10, _, hP => exact hP
      | 11, _, hP => exact hP
      | 12, _, hP => exact hP
      | 13, _, hP => exact hP
      | k + 14, _, hP => cases hP
  · rw [up_ne hq1] at hc
    rw [if_neg hq1]
    by_cases h2 : q < g
    · rw [if_pos h2]
      exact hc
    rw [if_neg h2]
    by_cases h3 : q < g + 11
    · rw [if_pos h3]
      rw [T5_ge (by omega)] at hc
      have hj := hr (q - g) (by omega)
      rw [show g + (q - g) = q by omega] at hj
      rw [hj] at hc
      by_cases h4 : q = g + 3
      · rw [if_pos h4]
        rw [show q - g = 3 by omega] at hc
        exact hc
      rw [if_neg h4]
      by_cases h5 : q = g + 4
      · rw [if_pos h5]
        rw [show q - g = 4 by omega] at hc
        exact hc
      rw [if_neg h5]
      exact hc
    · rw [if_neg h3]
      exact hc
theorem RS_out {g : Nat} {mc : Int} {sm : Nat → List Int → Prop} {S : xS} (hg : 45 ≤ g) (hm : 0 ≤ mc ∧ mc ≤ 4) (hr : rcA E g) (hsm : ∀ j : Nat, ∀ L, sm j L → tR 0 6 L) (hS : Hp (RS (T5 n nd tl rp im E) g n mc (tR 0 6) (tR 0 6) sm) N S) : Hp (T5 n nd tl rp im E) N S := by
  refine hp_weak hS (fun q c hc => ?_)
  unfold RS at hc
  by_cases hq1 : q = 1
  · subst hq1
    rw [if_pos rfl] at hc
    exact tO_wk (k := 9) (P := fI 0 4) (P' := fI mc mc) (Ps := [fI n n, fZ, fI 0 6, fP 2, fP 3, fP 4, fI 0 8, fP 5, fP 6, fI 0 4, fP 7, fI 0 10, fP 8, fP 9]) rfl (fI_wk hm) hc
  rw [if_neg hq1] at hc
  by_cases h2 : q < g
  · rw [if_pos h2] at hc
    exact hc
  rw [if_neg h2] at hc
  by_cases h3 : q < g + 11
  · rw [if_pos h3] at hc
    rw [T5_ge (by omega)]
    have hj := hr (q - g) (by omega)
    rw [show g + (q - g) = q by omega] at hj
    rw [hj]
    by_cases h4 : q = g + 3
    · rw [if_pos h4] at hc
      rw [show q - g = 3 by omega]
      exact hc
    rw [if_neg h4] at hc
    by_cases h5 : q = g + 4
    · rw [if_pos h5] at hc
      rw [show q - g = 4 by omega]
      exact hc
    rw [if_neg h5] at hc
    have hlt : q - g < 11 := by omega
    generalize q - g = j at hc hlt
    match j, hlt, hc with
    | 0, _, hc => exact hc
    | 1, _, hc => exact hc
    | 2, _, hc => exact hc
    | 3, _, hc => exact hc
    | 4, _, hc => exact hc
    | 5, _, hc => exact hc
    | 6, _, hc =>
      obtain ⟨L, rfl, hL, hp⟩ := hc
      exact ⟨L, rfl, hL, hsm 0 L hp⟩
    | 7, _, hc =>
      obtain ⟨L, rfl, hL, hp⟩ := hc
      exact ⟨L, rfl, hL, hsm 1 L hp⟩
    | 8, _, hc =>
      obtain ⟨L, rfl, hL, hp⟩ := hc
      exact ⟨L, rfl, hL, hsm 2 L hp⟩
    | 9, _, hc =>
      obtain ⟨L, rfl, hL, hp⟩ := hc
      exact ⟨L, rfl, hL, hsm 3 L hp⟩
    | 10, _, hc => exact hc
    | j + 11, h, _ => exact absurd h (by omega)
  · rw [if_neg h3] at hc
    exact hc
theorem tf_X0_spreadFrom {g : Nat} (hg : 45 ≤ g ∧ g + 11 ≤ N) (hr : rcA E g) (hn : 2 ≤ n ∧ n ≤ 7) {k : Nat} {S : xS} (hS : Hp (T5 n nd tl rp im E) N S) (hk : 30500 ≤ (k : Int)) : Ok (f_X0_spreadFrom k S g 1) (fun _ S' => Hp (T5 n nd tl rp im E) N S') := by
  obtain ⟨mc, hm, hS⟩ := RS_in hg.1 hr hS (by omega)
  obtain ⟨k, rfl⟩ : ∃ k', k = k' + 1 := ⟨k - 1, by omega⟩
  have e : ∀ {j : Nat}, j < 11 → j ≠ 3 → j ≠ 4 → RS (T5 n nd tl rp im E) g n mc (tR 0 6) (tR 0 6) (fun _ => tR 0 6) (g + j) = rcT g (fun _ => tR 0 6) j := fun h1 h2 h3 => RS_j hg.1 h1 h2 h3
  have e0 : RS (T5 n nd tl rp im E) g n mc (tR 0 6) (tR 0 6) (fun _ => tR 0 6) g = rcT g (fun _ => tR 0 6) 0 := e (j := 0) (by omega) (by omega) (by omega)
  show Ok (b_X0_spreadFrom_0 (g_X0_spreadFrom k) k S g 1 0 0 0 0) _
  unfold b_X0_spreadFrom_0
  refine ok_is hS (by omega) e0 ?_
  refine ok_bd2 (tf_isMadeFor (g := g) (mc := mc) (by omega) (by omega) hn RS_1 (RS_lo (by omega) (by omega)) (RS_lo (q := 7) (by omega) (by omega)) e0 (e (j := 1) (by omega) (by omega) (by omega)) (e (j := 10) (by omega) (by omega) (by omega)) hm hS (by omega)) (fun _ _ hQ => ?_)
  obtain ⟨rfl, -⟩ := hQ
  refine ok_if (fun _ => ?_) (fun _ => ok_some (RS_out hg.1 hm hr (fun _ _ h => h) hS))
  refine ok_rdFx hS (by omega) RS_1 rfl ?_
  refine ok_wrF hS (by omega) e0 rfl (⟨_, rfl⟩ : fZ _) (fun _ hS => ?_)
  refine ok_rdFx hS (by omega) RS_1 rfl ?_
  refine ok_wrF hS (by omega) e0 rfl (⟨_, rfl⟩ : fZ _) (fun _ hS => ?_)
  refine ok_rdFp hS (by omega) RS_1 rfl ?_
  refine ok_rdFp hS (by omega) e0 rfl ?_
  refine ok_cpy hS (by omega) (by omega) (RS_lo (q := 7) (by omega) (by omega)) (e (j := 10) (by omega) (by omega) (by omega)) (by omega) (fun _ _ _ _ _ _ => trivial) (fun _ hS _ => ?_)
  refine ok_mono (tg_spread1 hg hn hm k _ 0 _ hS (by omega) (fun j hj => by omega) (fun j _ => rfl) (by omega)) (fun r S' h => ?_)
  obtain ⟨sm', hs, hS'⟩ := h
  exact RS_out hg.1 hm hr hs hS'
